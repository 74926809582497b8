theorem ykSX1_isSheet : yX1_isSheet.cls ≠ "java/lang/invoke/MethodHandle" ∧ yX1_isSheet.cls ≠ "java/lang/invoke/VarHandle" ∧ (parseMethodDescriptor yX1_isSheet.desc).map (fun d => d.parameters.length) = some 1 := by decide +kernel
theorem ykVX1_isSheet : yX1_isSheet.cls = RX1 ∧ yX1_isSheet.cls ≠ "java/lang/invoke/MethodHandle" ∧ yX1_isSheet.cls ≠ "java/lang/invoke/VarHandle" ∧ (parseMethodDescriptor yX1_isSheet.desc).map (fun d => d.parameters.length) = some 1 := ⟨rfl, ykSX1_isSheet⟩
set_option maxHeartbeats 4000000 in
set_option maxRecDepth 100000 in
theorem kX1_isSheet {l : Launch} {D : va_G} {cI cB : ClassId} (s0 : Int) (hs : rI s0) : Ct l yX1_isSheet wsX1_isSheet 0 0 D [(cI, .int), (cB, .byte)] [.int (iI s0)] (([] : va_W)) (S := Unit) (fun _ => some (.int (iI (b2 (decide (0 ≤ s0 ∧ s0 < 4)))))) (fun _ => True) (fun _ => ([] : va_W)) := by
  refine CtZ.of (cc := cX1_isSheet) (maxL := 1) (by decide +kernel) rfl (Nat.le_of_ble_eq_true rfl) ?_
  intro pg e s m args below meth c Q A hx hb hml hts hown hP hK hD hS ls hl kend
  have hown : s.vm.findClass RX1 = some m.cls := hown
  have hl : lv_has ls 1 [(0, .int (iI s0))] := hl
  refine lv_iload_n hx hb dX1_isSheet_0 rfl (lv_at hl 0 rfl) ?_
  refine x_if_lt (tgt := 13) hx hb (by omega) dX1_isSheet_1 (by decide) (fun c_1 => ?_) (fun c_1 => ?_)
  · refine x_iconst hx hb dX1_isSheet_13 ?_
    exact kend () hP hS (an_i (b2_f (by omega)).symm) trivial (by decide) dX1_isSheet_14
  · refine lv_iload_n hx hb dX1_isSheet_4 rfl (lv_at hl 0 rfl) ?_
    refine x_iconst hx hb dX1_isSheet_5 ?_
    refine x_icmp_ge (tgt := 13) hx hb (by omega) (by decide) dX1_isSheet_6 (by decide) (fun c_6 => ?_) (fun c_6 => ?_)
    · refine x_iconst hx hb dX1_isSheet_13 ?_
      exact kend () hP hS (an_i (b2_f (by omega)).symm) trivial (by decide) dX1_isSheet_14
    · refine x_iconst hx hb dX1_isSheet_9 ?_
      refine lv_goto (tgt := 14) hx hb dX1_isSheet_10 (by decide) ?_
      exact kend () hP hS (an_i (b2_t (by omega)).symm) trivial (by decide) dX1_isSheet_14
theorem ykSX1_isMissing : yX1_isMissing.cls ≠ "java/lang/invoke/MethodHandle" ∧ yX1_isMissing.cls ≠ "java/lang/invoke/VarHandle" ∧ (parseMethodDescriptor yX1_isMissing.desc).map (fun d => d.parameters.length) = some 1 := by decide +kernel
theorem ykVX1_isMissing : yX1_isMissing.cls = RX1 ∧ yX1_isMissing.cls ≠ "java/lang/invoke/MethodHandle" ∧ yX1_isMissing.cls ≠ "java/lang/invoke/VarHandle" ∧ (parseMethodDescriptor yX1_isMissing.desc).map (fun d => d.parameters.length) = some 1 := ⟨rfl, ykSX1_isMissing⟩
set_option maxRecDepth 20000 in
theorem iT_X1_isMissing_X1 : ∀ w ∈ u_ws RX1 TX1 3, w ∈ wsX1_isMissing := by decide +kernel
set_option maxHeartbeats 4000000 in
set_option maxRecDepth 100000 in
theorem kX1_isMissing {l : Launch} {D : va_G} {cI cB : ClassId} (h : Nat → Nat) (SB : Nat → Int) (SS : Nat → Int) (SN : Nat → Int) (s0 : Nat) (hs : s0 < 4) (hSB : ∀ i : Nat, i < 4 → SB i = 0 ∨ SB i = 8 ∨ SB i = 16 ∨ SB i = 32) : Ct l yX1_isMissing wsX1_isMissing 0 0 D [(cI, .int), (cB, .byte)] [.ref (h 0), .int (iI ((s0 : Nat) : Int))] (wSh cI h SB SS SN) (S := Unit) (fun _ => some (.int (iI (b2 (decide (SB s0 = 0)))))) (fun _ => True) (fun _ => wSh cI h SB SS SN) := by
  refine CtZ.of (cc := cX1_isMissing) (maxL := 2) (by decide +kernel) rfl (Nat.le_of_ble_eq_true rfl) ?_
  intro pg e s m args below meth c Q A hx hb hml hts hown hP hK hD hS ls hl kend
  have hown : s.vm.findClass RX1 = some m.cls := hown
  have hl : lv_has ls 2 [(0, .ref (h 0)), (1, .int (iI ((s0 : Nat) : Int)))] := hl
  have hv := hSB s0 hs
  refine lv_aload_n hx hb dX1_isMissing_0 rfl (lv_at hl 0 rfl) ?_
  refine va_get (D := D) (ci := 0) (v := .ref (h 1)) (C := RX1) (T := TX1) (N := 3) hx hb hts (iT_X1_isMissing_X1) hown hK hP 0 rfl rfl 0 (by decide) (hts (.fieldLink RX1 9 "WordSupper$Sheets" "bits" "[I") (by decide +kernel)) (fun _ h9 => h9) rfl dX1_isMissing_1 ?_
  refine lv_iload_n hx hb dX1_isMissing_4 rfl (lv_at hl 1 rfl) ?_
  refine x_iald hx hb hK hP 1 0 rfl rfl s0 rfl (by omega) (by decide) (SB s0) (gd_at _ (by omega)) dX1_isMissing_5 ?_
  refine x_if_ne (tgt := 13) hx hb (by omega) dX1_isMissing_6 (by decide) (fun c_6 => ?_) (fun c_6 => ?_)
  · refine x_iconst hx hb dX1_isMissing_13 ?_
    exact kend () hP hS (an_i (b2_f (by omega)).symm) trivial (by decide) dX1_isMissing_14
  · refine x_iconst hx hb dX1_isMissing_9 ?_
    refine lv_goto (tgt := 14) hx hb dX1_isMissing_10 (by decide) ?_
    exact kend () hP hS (an_i (b2_t (by omega)).symm) trivial (by decide) dX1_isMissing_14
theorem ykSX1_number : yX1_number.cls ≠ "java/lang/invoke/MethodHandle" ∧ yX1_number.cls ≠ "java/lang/invoke/VarHandle" ∧ (parseMethodDescriptor yX1_number.desc).map (fun d => d.parameters.length) = some 2 := by decide +kernel
theorem ykVX1_number : yX1_number.cls = RX1 ∧ yX1_number.cls ≠ "java/lang/invoke/MethodHandle" ∧ yX1_number.cls ≠ "java/lang/invoke/VarHandle" ∧ (parseMethodDescriptor yX1_number.desc).map (fun d => d.parameters.length) = some 2 := ⟨rfl, ykSX1_number⟩
set_option maxRecDepth 20000 in
theorem iT_X1_number_X1 : ∀ w ∈ u_ws RX1 TX1 3, w ∈ wsX1_number := by decide +kernel
set_option maxHeartbeats 4000000 in
set_option maxRecDepth 100000 in
theorem kX1_number {l : Launch} {D : va_G} {cI cB : ClassId} (h : Nat → Nat) (SB : Nat → Int) (SS : Nat → Int) (SN : Nat → Int) (s0 : Nat) (i : Nat) (hs : s0 < 4) (hi : i < 40) : Ct l yX1_number wsX1_number 0 0 D [(cI, .int), (cB, .byte)] [.ref (h 0), .int (iI ((s0 : Nat) : Int)), .int (iI ((i : Nat) : Int))] (wSh cI h SB SS SN) (S := Unit) (fun _ => some (.int (iI (SN (40 * s0 + i))))) (fun _ => True) (fun _ => wSh cI h SB SS SN) := by
  refine CtI.of (cc := cX1_number) (maxL := 3) (by decide +kernel) rfl (Nat.le_of_ble_eq_true rfl) ?_
  intro pg e s m args below meth c Q A hx hb hml hts hown hP hK hD hS ls hl kend
  have hown : s.vm.findClass RX1 = some m.cls := hown
  have hl : lv_has ls 3 [(0, .ref (h 0)), (1, .int (iI ((s0 : Nat) : Int))), (2, .int (iI ((i : Nat) : Int)))] := hl
  refine lv_aload_n hx hb dX1_number_0 rfl (lv_at hl 0 rfl) ?_
  refine va_get (D := D) (ci := 0) (v := .ref (h 3)) (C := RX1) (T := TX1) (N := 3) hx hb hts (iT_X1_number_X1) hown hK hP 0 rfl rfl 2 (by decide) (hts (.fieldLink RX1 16 "WordSupper$Sheets" "numbers" "[I") (by decide +kernel)) (fun _ h9 => h9) rfl dX1_number_1 ?_
  refine lv_iload_n hx hb dX1_number_4 rfl (lv_at hl 1 rfl) ?_
  refine x_bipush hx hb dX1_number_5 (by decide) ?_
  refine x_imul hx hb dX1_number_7 ?_
  refine x_topi ((s0 * 40 : Nat) : Int) (by omega) ?_
  refine lv_iload_n hx hb dX1_number_8 rfl (lv_at hl 2 rfl) ?_
  refine x_iadd hx hb dX1_number_9 ?_
  refine x_topi (((s0 * 40) + i : Nat) : Int) (by omega) ?_
  refine x_topi ((40 * s0 + i : Nat) : Int) (by omega) ?_
  refine x_iald hx hb hK hP 3 0 rfl rfl (40 * s0 + i) rfl (by omega) (by decide) (SN (40 * s0 + i)) (gd_at _ (by omega)) dX1_number_10 ?_
  exact kend () hP hS (an_i (rfl)) trivial dX1_number_11
theorem ykSX1_cut : yX1_cut.cls ≠ "java/lang/invoke/MethodHandle" ∧ yX1_cut.cls ≠ "java/lang/invoke/VarHandle" ∧ (parseMethodDescriptor yX1_cut.desc).map (fun d => d.parameters.length) = some 2 := by decide +kernel
theorem ykVX1_cut : yX1_cut.cls = RX1 ∧ yX1_cut.cls ≠ "java/lang/invoke/MethodHandle" ∧ yX1_cut.cls ≠ "java/lang/invoke/VarHandle" ∧ (parseMethodDescriptor yX1_cut.desc).map (fun d => d.parameters.length) = some 2 := ⟨rfl, ykSX1_cut⟩
set_option maxHeartbeats 4000000 in
set_option maxRecDepth 100000 in
theorem kX1_cut {l : Launch} {D : va_G} {cI cB : ClassId} (v : Int) (bt : Int) (hb1 : rI bt) : Ct l yX1_cut wsX1_cut 0 0 D [(cI, .int), (cB, .byte)] [.int (iI v), .int (iI bt)] (([] : va_W)) (S := Unit) (fun _ => some (.int (iI (ctF v bt)))) (fun _ => True) (fun _ => ([] : va_W)) := by
  refine CtI.of (cc := cX1_cut) (maxL := 2) (by decide +kernel) rfl (Nat.le_of_ble_eq_true rfl) ?_
  intro pg e s m args below meth c Q A hx hb hml hts hown hP hK hD hS ls hl kend
  have hown : s.vm.findClass RX1 = some m.cls := hown
  have hl : lv_has ls 2 [(0, .int (iI v)), (1, .int (iI bt))] := hl
  refine lv_iload_n hx hb dX1_cut_0 rfl (lv_at hl 1 rfl) ?_
  refine x_bipush hx hb dX1_cut_1 (by decide) ?_
  refine x_icmp_ne (tgt := 9) hx hb (by omega) (by decide) dX1_cut_3 (by decide) (fun c_3 => ?_) (fun c_3 => ?_)
  · refine lv_iload_n hx hb dX1_cut_9 rfl (lv_at hl 1 rfl) ?_
    refine x_bipush hx hb dX1_cut_10 (by decide) ?_
    refine x_icmp_ne (tgt := 20) hx hb (by omega) (by decide) dX1_cut_12 (by decide) (fun c_12 => ?_) (fun c_12 => ?_)
    · refine lv_iload_n hx hb dX1_cut_20 rfl (lv_at hl 0 rfl) ?_
      exact kend () hP hS (an_i ((by unfold ctF; (repeat' split) <;> first | rfl | (exfalso; omega)))) trivial dX1_cut_21
    · refine lv_iload_n hx hb dX1_cut_15 rfl (lv_at hl 0 rfl) ?_
      refine x_i2s hx hb dX1_cut_16 ?_
      refine lv_goto (tgt := 21) hx hb dX1_cut_17 (by decide) ?_
      exact kend () hP hS (an_i ((by unfold ctF; (repeat' split) <;> first | rfl | (exfalso; omega)))) trivial dX1_cut_21
  · refine lv_iload_n hx hb dX1_cut_6 rfl (lv_at hl 0 rfl) ?_
    refine x_i2b hx hb dX1_cut_7 ?_
    exact kend () hP hS (an_i ((by unfold ctF; (repeat' split) <;> first | rfl | (exfalso; omega)))) trivial dX1_cut_8
theorem ykSX1_put : yX1_put.cls ≠ "java/lang/invoke/MethodHandle" ∧ yX1_put.cls ≠ "java/lang/invoke/VarHandle" ∧ (parseMethodDescriptor yX1_put.desc).map (fun d => d.parameters.length) = some 3 := by decide +kernel
theorem ykVX1_put : yX1_put.cls = RX1 ∧ yX1_put.cls ≠ "java/lang/invoke/MethodHandle" ∧ yX1_put.cls ≠ "java/lang/invoke/VarHandle" ∧ (parseMethodDescriptor yX1_put.desc).map (fun d => d.parameters.length) = some 3 := ⟨rfl, ykSX1_put⟩
set_option maxRecDepth 20000 in
theorem iT_X1_put_X1 : ∀ w ∈ u_ws RX1 TX1 3, w ∈ wsX1_put := by decide +kernel
set_option maxHeartbeats 4000000 in
set_option maxRecDepth 100000 in
theorem kX1_put {l : Launch} {D : va_G} {cI cB : ClassId} (h : Nat → Nat) (SB : Nat → Int) (SS : Nat → Int) (SN : Nat → Int) (s0 : Nat) (i : Nat) (v : Int) (hs : s0 < 4) (hi : i < 40) (hSB : ∀ i : Nat, i < 4 → SB i = 0 ∨ SB i = 8 ∨ SB i = 16 ∨ SB i = 32) : Ct l yX1_put wsX1_put 1 21 D [(cI, .int), (cB, .byte)] [.ref (h 0), .int (iI ((s0 : Nat) : Int)), .int (iI ((i : Nat) : Int)), .int (iI v)] (wSh cI h SB SS SN) (S := Unit) (fun _ => none) (fun _ => True) (fun _ => wSh cI h SB SS (va_up SN (40 * s0 + i) (ctF v (SB s0)))) := by
  refine CtV.of (cc := cX1_put) (maxL := 4) (by decide +kernel) rfl (Nat.le_of_ble_eq_true rfl) ?_
  intro pg e s m args below meth c Q A hx hb hml hts hown hP hK hD hS ls hl kend
  have hown : s.vm.findClass RX1 = some m.cls := hown
  have hl : lv_has ls 4 [(0, .ref (h 0)), (1, .int (iI ((s0 : Nat) : Int))), (2, .int (iI ((i : Nat) : Int))), (3, .int (iI v))] := hl
  have hv := hSB s0 hs
  refine lv_aload_n hx hb dX1_put_0 rfl (lv_at hl 0 rfl) ?_
  refine va_get (D := D) (ci := 0) (v := .ref (h 3)) (C := RX1) (T := TX1) (N := 3) hx hb hts (iT_X1_put_X1) hown hK hP 0 rfl rfl 2 (by decide) (hts (.fieldLink RX1 16 "WordSupper$Sheets" "numbers" "[I") (by decide +kernel)) (fun _ h9 => h9) rfl dX1_put_1 ?_
  refine lv_iload_n hx hb dX1_put_4 rfl (lv_at hl 1 rfl) ?_
  refine x_bipush hx hb dX1_put_5 (by decide) ?_
  refine x_imul hx hb dX1_put_7 ?_
  refine x_topi ((s0 * 40 : Nat) : Int) (by omega) ?_
  refine lv_iload_n hx hb dX1_put_8 rfl (lv_at hl 2 rfl) ?_
  refine x_iadd hx hb dX1_put_9 ?_
  refine x_topi (((s0 * 40) + i : Nat) : Int) (by omega) ?_
  refine x_topi ((40 * s0 + i : Nat) : Int) (by omega) ?_
  refine lv_iload_n hx hb dX1_put_10 rfl (lv_at hl 3 rfl) ?_
  refine lv_aload_n hx hb dX1_put_11 rfl (lv_at hl 0 rfl) ?_
  refine va_get (D := D) (ci := 0) (v := .ref (h 1)) (C := RX1) (T := TX1) (N := 3) hx hb hts (iT_X1_put_X1) hown hK hP 0 rfl rfl 0 (by decide) (hts (.fieldLink RX1 9 "WordSupper$Sheets" "bits" "[I") (by decide +kernel)) (fun _ h9 => h9) rfl dX1_put_12 ?_
  refine lv_iload_n hx hb dX1_put_15 rfl (lv_at hl 1 rfl) ?_
  refine x_iald hx hb hK hP 1 0 rfl rfl s0 rfl (by omega) (by decide) (SB s0) (gd_at _ (by omega)) dX1_put_16 ?_
  refine x_callS (As := [.int (iI v), .int (iI (SB s0))]) (rest := [.int (iI ((40 * s0 + i : Nat) : Int)), .ref (h 3)]) ⟨hx, hb, hml, hown, hts⟩ (kX1_cut v (SB s0) (by omega)) (va_cwS 2 hts gX1_put_X1_cut rfl rfl rfl ykSX1_cut ⟨Nat.le_of_ble_eq_true rfl, Nat.le_of_ble_eq_true rfl⟩) hP hK hD hS [] rfl (by decide) (fun _ => rfl) (fun _ => wSh cI h SB SS SN) (fun _ => rfl) rfl hl.1 rfl (Nat.le_of_ble_eq_true rfl) dX1_put_17 ⟨Nat.le_of_ble_eq_true rfl, Nat.le_of_ble_eq_true rfl⟩ (fun _ H locs _ hP hD hS => ?_)
  refine W.eq (g2 := F0 m 20 ls [.int (iI (ctF v (SB s0))), .int (iI ((40 * s0 + i : Nat) : Int)), .ref (h 3)]) rfl ?_
  refine x_iast hx hb hK hP hD hS 3 0 rfl rfl (40 * s0 + i) rfl (by omega) (by decide) (wSh cI h SB SS (va_up SN (40 * s0 + i) (ctF v (SB s0)))) (wSh_N cI h SB SS SN (ctF v (SB s0)) (40 * s0 + i) (by omega)) dX1_put_20 (fun H locs hP hD hS => ?_)
  exact kend () hP hS rfl trivial dX1_put_21
theorem ykSX1_lay : yX1_lay.cls ≠ "java/lang/invoke/MethodHandle" ∧ yX1_lay.cls ≠ "java/lang/invoke/VarHandle" ∧ (parseMethodDescriptor yX1_lay.desc).map (fun d => d.parameters.length) = some 3 := by decide +kernel
theorem ykVX1_lay : yX1_lay.cls = RX1 ∧ yX1_lay.cls ≠ "java/lang/invoke/MethodHandle" ∧ yX1_lay.cls ≠ "java/lang/invoke/VarHandle" ∧ (parseMethodDescriptor yX1_lay.desc).map (fun d => d.parameters.length) = some 3 := ⟨rfl, ykSX1_lay⟩
set_option maxRecDepth 20000 in
theorem iT_X1_lay_X1 : ∀ w ∈ u_ws RX1 TX1 3, w ∈ wsX1_lay := by decide +kernel
set_option maxHeartbeats 4000000 in
set_option maxRecDepth 100000 in
theorem kX1_lay {l : Launch} {D : va_G} {cI cB : ClassId} (h : Nat → Nat) (SB : Nat → Int) (SS : Nat → Int) (SN : Nat → Int) (s0 : Nat) (bt : Int) (n : Int) (hs : s0 < 4) : Ct l yX1_lay wsX1_lay 0 0 D [(cI, .int), (cB, .byte)] [.ref (h 0), .int (iI ((s0 : Nat) : Int)), .int (iI bt), .int (iI n)] (wSh cI h SB SS SN) (S := (Nat → Int)) (fun u => none) (fun u => u = zeF (40 * s0) 40 0 SN) (fun u => wSh cI h (va_up SB s0 bt) (va_up SS s0 n) u) := by
  refine CtV.of (cc := cX1_lay) (maxL := 5) (by decide +kernel) rfl (Nat.le_of_ble_eq_true rfl) ?_
  intro pg e s m args below meth c Q A hx hb hml hts hown hP hK hD hS ls hl kend
  have hown : s.vm.findClass RX1 = some m.cls := hown
  have hl : lv_has ls 5 [(0, .ref (h 0)), (1, .int (iI ((s0 : Nat) : Int))), (2, .int (iI bt)), (3, .int (iI n))] := hl
  refine lv_aload_n hx hb dX1_lay_0 rfl (lv_at hl 0 rfl) ?_
  refine va_get (D := D) (ci := 0) (v := .ref (h 1)) (C := RX1) (T := TX1) (N := 3) hx hb hts (iT_X1_lay_X1) hown hK hP 0 rfl rfl 0 (by decide) (hts (.fieldLink RX1 9 "WordSupper$Sheets" "bits" "[I") (by decide +kernel)) (fun _ h9 => h9) rfl dX1_lay_1 ?_
  refine lv_iload_n hx hb dX1_lay_4 rfl (lv_at hl 1 rfl) ?_
  refine lv_iload_n hx hb dX1_lay_5 rfl (lv_at hl 2 rfl) ?_
  refine x_iast hx hb hK hP hD hS 1 0 rfl rfl s0 rfl (by omega) (by decide) (wSh cI h (va_up SB s0 bt) SS SN) (wSh_B cI h SB SS SN bt s0 (by omega)) dX1_lay_6 (fun H locs hP hD hS => ?_)
  refine lv_aload_n hx hb dX1_lay_7 rfl (lv_at hl 0 rfl) ?_
  refine va_get (D := D) (ci := 0) (v := .ref (h 2)) (C := RX1) (T := TX1) (N := 3) hx hb hts (iT_X1_lay_X1) hown hK hP 0 rfl rfl 1 (by decide) (hts (.fieldLink RX1 13 "WordSupper$Sheets" "size" "[I") (by decide +kernel)) (fun _ h9 => h9) rfl dX1_lay_8 ?_
  refine lv_iload_n hx hb dX1_lay_11 rfl (lv_at hl 1 rfl) ?_
  refine lv_iload_n hx hb dX1_lay_12 rfl (lv_at hl 3 rfl) ?_
  refine x_iast hx hb hK hP hD hS 2 0 rfl rfl s0 rfl (by omega) (by decide) (wSh cI h (va_up SB s0 bt) (va_up SS s0 n) SN) (wSh_S cI h (va_up SB s0 bt) SS SN n s0 (by omega)) dX1_lay_13 (fun H locs hP hD hS => ?_)
  refine x_iconst hx hb dX1_lay_14 ?_
  refine lv_istore (lv' := [(4, .int (iI 0)), (0, .ref (h 0)), (1, .int (iI ((s0 : Nat) : Int))), (2, .int (iI bt)), (3, .int (iI n))]) hx hb dX1_lay_15 hl (by decide) rfl (fun ls hl => ?_)
  have L17 : ∀ (k t : Nat) (Nt : Nat → Int) (H : Heap) (locs : List Loc) (ls : Array Slot), t + k = 40 → (zeF (40 * s0) k t Nt = zeF (40 * s0) 40 0 SN) → va_P D vwCl (wSh cI h (va_up SB s0 bt) (va_up SS s0 n) Nt) H → va_D A (wSh cI h (va_up SB s0 bt) (va_up SS s0 n) Nt) → va_S A s.heap H locs → lv_has ls 5 [(0, .ref (h 0)), (1, .int (iI ((s0 : Nat) : Int))), (2, .int (iI bt)), (3, .int (iI n)), (4, .int (iI ((t : Nat) : Int)))] → W pg l e { frames := 0, cells := 0, slots := 0, locals := 0 } s m args below meth c H locs 0 0 Q (F0 m 17 ls []) := by
    intro k
    induction k with
    | zero =>
      intro t Nt H locs ls hkt hr hP hD hS hl
      refine lv_iload hx hb dX1_lay_17 (lv_at hl 4 rfl) ?_
      refine x_bipush hx hb dX1_lay_19 (by decide) ?_
      refine x_icmp_ge (tgt := 43) hx hb (by omega) (by decide) dX1_lay_21 (by decide) (fun c_21 => ?_) (fun c_21 => ?_)
      · exact kend Nt hP hS rfl hr dX1_lay_43
      · exfalso; omega
    | succ k ih =>
      intro t Nt H locs ls hkt hr hP hD hS hl
      refine lv_iload hx hb dX1_lay_17 (lv_at hl 4 rfl) ?_
      refine x_bipush hx hb dX1_lay_19 (by decide) ?_
      refine x_icmp_ge (tgt := 43) hx hb (by omega) (by decide) dX1_lay_21 (by decide) (fun c_21 => ?_) (fun c_21 => ?_)
      · exfalso; omega
      · refine lv_aload_n hx hb dX1_lay_24 rfl (lv_at hl 0 rfl) ?_
        refine va_get (D := D) (ci := 0) (v := .ref (h 3)) (C := RX1) (T := TX1) (N := 3) hx hb hts (iT_X1_lay_X1) hown hK hP 0 rfl rfl 2 (by decide) (hts (.fieldLink RX1 16 "WordSupper$Sheets" "numbers" "[I") (by decide +kernel)) (fun _ h9 => h9) rfl dX1_lay_25 ?_
        refine lv_iload_n hx hb dX1_lay_28 rfl (lv_at hl 1 rfl) ?_
        refine x_bipush hx hb dX1_lay_29 (by decide) ?_
        refine x_imul hx hb dX1_lay_31 ?_
        refine x_topi ((s0 * 40 : Nat) : Int) (by omega) ?_
        refine lv_iload hx hb dX1_lay_32 (lv_at hl 4 rfl) ?_
        refine x_iadd hx hb dX1_lay_34 ?_
        refine x_topi (((s0 * 40) + t : Nat) : Int) (by omega) ?_
        refine x_topi ((40 * s0 + t : Nat) : Int) (by omega) ?_
        refine x_iconst hx hb dX1_lay_35 ?_
        refine x_iast hx hb hK hP hD hS 3 0 rfl rfl (40 * s0 + t) rfl (by omega) (by decide) (wSh cI h (va_up SB s0 bt) (va_up SS s0 n) (va_up Nt (40 * s0 + t) 0)) (wSh_N cI h (va_up SB s0 bt) (va_up SS s0 n) Nt 0 (40 * s0 + t) (by omega)) dX1_lay_36 (fun H locs hP hD hS => ?_)
        refine x_iinc hx hb 4 ((t + 1 : Nat) : Int) (by omega) [(4, .int (iI ((t + 1 : Nat) : Int))), (0, .ref (h 0)), (1, .int (iI ((s0 : Nat) : Int))), (2, .int (iI bt)), (3, .int (iI n))] dX1_lay_37 hl rfl (by decide) rfl (fun ls hl => ?_)
        refine lv_goto (tgt := 17) hx hb dX1_lay_40 (by decide) ?_
        exact ih (t + 1) (va_up Nt (40 * s0 + t) 0) _ _ _ (by omega) hr hP hD hS (lv_sub hl [1, 2, 3, 4, 0] rfl)
  exact L17 40 0 SN _ _ _ (by omega) rfl hP hD hS (lv_sub hl [1, 2, 3, 4, 0] rfl)
theorem ykSX1_hasRun : yX1_hasRun.cls ≠ "java/lang/invoke/MethodHandle" ∧ yX1_hasRun.cls ≠ "java/lang/invoke/VarHandle" ∧ (parseMethodDescriptor yX1_hasRun.desc).map (fun d => d.parameters.length) = some 3 := by decide +kernel
theorem ykVX1_hasRun : yX1_hasRun.cls = RX1 ∧ yX1_hasRun.cls ≠ "java/lang/invoke/MethodHandle" ∧ yX1_hasRun.cls ≠ "java/lang/invoke/VarHandle" ∧ (parseMethodDescriptor yX1_hasRun.desc).map (fun d => d.parameters.length) = some 3 := ⟨rfl, ykSX1_hasRun⟩
set_option maxRecDepth 20000 in
theorem iT_X1_hasRun_X1 : ∀ w ∈ u_ws RX1 TX1 3, w ∈ wsX1_hasRun := by decide +kernel
set_option maxHeartbeats 4000000 in
set_option maxRecDepth 100000 in
theorem kX1_hasRun {l : Launch} {D : va_G} {cI cB : ClassId} (h : Nat → Nat) (SB : Nat → Int) (SS : Nat → Int) (SN : Nat → Int) (s0 : Nat) (a : Int) (n : Int) (hs : s0 < 4) (ha : rI a) (hn : rI n) (hSS : ∀ i : Nat, i < 4 → 0 ≤ SS i ∧ SS i ≤ 40) : Ct l yX1_hasRun wsX1_hasRun 0 0 D [(cI, .int), (cB, .byte)] [.ref (h 0), .int (iI ((s0 : Nat) : Int)), .int (iI a), .int (iI n)] (wSh cI h SB SS SN) (S := Unit) (fun _ => some (.int (iI (b2 (decide (0 ≤ a ∧ 0 ≤ n ∧ a + n ≤ SS s0)))))) (fun _ => True) (fun _ => wSh cI h SB SS SN) := by
  refine CtZ.of (cc := cX1_hasRun) (maxL := 4) (by decide +kernel) rfl (Nat.le_of_ble_eq_true rfl) ?_
  intro pg e s m args below meth c Q A hx hb hml hts hown hP hK hD hS ls hl kend
  have hown : s.vm.findClass RX1 = some m.cls := hown
  have hl : lv_has ls 4 [(0, .ref (h 0)), (1, .int (iI ((s0 : Nat) : Int))), (2, .int (iI a)), (3, .int (iI n))] := hl
  have hv := hSS s0 hs
  refine lv_iload_n hx hb dX1_hasRun_0 rfl (lv_at hl 2 rfl) ?_
  refine x_if_lt (tgt := 34) hx hb (by omega) dX1_hasRun_1 (by decide) (fun c_1 => ?_) (fun c_1 => ?_)
  · refine x_iconst hx hb dX1_hasRun_34 ?_
    exact kend () hP hS (an_i (b2_f (by omega)).symm) trivial (by decide) dX1_hasRun_35
  · refine lv_iload_n hx hb dX1_hasRun_4 rfl (lv_at hl 3 rfl) ?_
    refine x_if_lt (tgt := 34) hx hb (by omega) dX1_hasRun_5 (by decide) (fun c_5 => ?_) (fun c_5 => ?_)
    · refine x_iconst hx hb dX1_hasRun_34 ?_
      exact kend () hP hS (an_i (b2_f (by omega)).symm) trivial (by decide) dX1_hasRun_35
    · refine lv_iload_n hx hb dX1_hasRun_8 rfl (lv_at hl 3 rfl) ?_
      refine lv_aload_n hx hb dX1_hasRun_9 rfl (lv_at hl 0 rfl) ?_
      refine va_get (D := D) (ci := 0) (v := .ref (h 2)) (C := RX1) (T := TX1) (N := 3) hx hb hts (iT_X1_hasRun_X1) hown hK hP 0 rfl rfl 1 (by decide) (hts (.fieldLink RX1 13 "WordSupper$Sheets" "size" "[I") (by decide +kernel)) (fun _ h9 => h9) rfl dX1_hasRun_10 ?_
      refine lv_iload_n hx hb dX1_hasRun_13 rfl (lv_at hl 1 rfl) ?_
      refine x_iald hx hb hK hP 2 0 rfl rfl s0 rfl (by omega) (by decide) (SS s0) (gd_at _ (by omega)) dX1_hasRun_14 ?_
      refine x_icmp_gt (tgt := 34) hx hb (by omega) (by omega) dX1_hasRun_15 (by decide) (fun c_15 => ?_) (fun c_15 => ?_)
      · refine x_iconst hx hb dX1_hasRun_34 ?_
        exact kend () hP hS (an_i (b2_f (by omega)).symm) trivial (by decide) dX1_hasRun_35
      · refine lv_iload_n hx hb dX1_hasRun_18 rfl (lv_at hl 2 rfl) ?_
        refine lv_aload_n hx hb dX1_hasRun_19 rfl (lv_at hl 0 rfl) ?_
        refine va_get (D := D) (ci := 0) (v := .ref (h 2)) (C := RX1) (T := TX1) (N := 3) hx hb hts (iT_X1_hasRun_X1) hown hK hP 0 rfl rfl 1 (by decide) (hts (.fieldLink RX1 13 "WordSupper$Sheets" "size" "[I") (by decide +kernel)) (fun _ h9 => h9) rfl dX1_hasRun_20 ?_
        refine lv_iload_n hx hb dX1_hasRun_23 rfl (lv_at hl 1 rfl) ?_
        refine x_iald hx hb hK hP 2 0 rfl rfl s0 rfl (by omega) (by decide) (SS s0) (gd_at _ (by omega)) dX1_hasRun_24 ?_
        refine lv_iload_n hx hb dX1_hasRun_25 rfl (lv_at hl 3 rfl) ?_
        refine x_isub hx hb dX1_hasRun_26 ?_
        refine x_icmp_gt (tgt := 34) hx hb (by omega) (by omega) dX1_hasRun_27 (by decide) (fun c_27 => ?_) (fun c_27 => ?_)
        · refine x_iconst hx hb dX1_hasRun_34 ?_
          exact kend () hP hS (an_i (b2_f (by omega)).symm) trivial (by decide) dX1_hasRun_35
        · refine x_iconst hx hb dX1_hasRun_30 ?_
          refine lv_goto (tgt := 35) hx hb dX1_hasRun_31 (by decide) ?_
          exact kend () hP hS (an_i (b2_t (by omega)).symm) trivial (by decide) dX1_hasRun_35
theorem ykSX1_bring : yX1_bring.cls ≠ "java/lang/invoke/MethodHandle" ∧ yX1_bring.cls ≠ "java/lang/invoke/VarHandle" ∧ (parseMethodDescriptor yX1_bring.desc).map (fun d => d.parameters.length) = some 5 := by decide +kernel
theorem ykVX1_bring : yX1_bring.cls = RX1 ∧ yX1_bring.cls ≠ "java/lang/invoke/MethodHandle" ∧ yX1_bring.cls ≠ "java/lang/invoke/VarHandle" ∧ (parseMethodDescriptor yX1_bring.desc).map (fun d => d.parameters.length) = some 5 := ⟨rfl, ykSX1_bring⟩
set_option maxRecDepth 20000 in
theorem iT_X1_bring_X1 : ∀ w ∈ u_ws RX1 TX1 3, w ∈ wsX1_bring := by decide +kernel
set_option maxHeartbeats 4000000 in
set_option maxRecDepth 100000 in
theorem kX1_bring {l : Launch} {D : va_G} {cI cB : ClassId} (h : Nat → Nat) (SB : Nat → Int) (SS : Nat → Int) (SN : Nat → Int) (s0 : Nat) (a : Nat) (t0 : Nat) (c0 : Nat) (n : Nat) (hs : s0 < 4) (ht : t0 < 4) (ha : a + n ≤ 40) (hc : c0 + n ≤ 40) : Ct l yX1_bring wsX1_bring 1 60 D [(cI, .int), (cB, .byte)] [.ref (h 0), .int (iI ((s0 : Nat) : Int)), .int (iI ((a : Nat) : Int)), .int (iI ((t0 : Nat) : Int)), .int (iI ((c0 : Nat) : Int)), .int (iI ((n : Nat) : Int))] (wSh cI h SB SS SN) (S := Unit) (fun _ => none) (fun _ => True) (fun _ => wSh cI h SB SS (va_cpy SN SN (40 * s0 + a) (40 * t0 + c0) n)) := by
  refine CtV.of (cc := cX1_bring) (maxL := 6) (by decide +kernel) rfl (Nat.le_of_ble_eq_true rfl) ?_
  intro pg e s m args below meth c Q A hx hb hml hts hown hP hK hD hS ls hl kend
  have hown : s.vm.findClass RX1 = some m.cls := hown
  have hl : lv_has ls 6 [(0, .ref (h 0)), (1, .int (iI ((s0 : Nat) : Int))), (2, .int (iI ((a : Nat) : Int))), (3, .int (iI ((t0 : Nat) : Int))), (4, .int (iI ((c0 : Nat) : Int))), (5, .int (iI ((n : Nat) : Int)))] := hl
  refine lv_aload_n hx hb dX1_bring_0 rfl (lv_at hl 0 rfl) ?_
  refine va_get (D := D) (ci := 0) (v := .ref (h 3)) (C := RX1) (T := TX1) (N := 3) hx hb hts (iT_X1_bring_X1) hown hK hP 0 rfl rfl 2 (by decide) (hts (.fieldLink RX1 16 "WordSupper$Sheets" "numbers" "[I") (by decide +kernel)) (fun _ h9 => h9) rfl dX1_bring_1 ?_
  refine lv_iload_n hx hb dX1_bring_4 rfl (lv_at hl 1 rfl) ?_
  refine x_bipush hx hb dX1_bring_5 (by decide) ?_
  refine x_imul hx hb dX1_bring_7 ?_
  refine x_topi ((s0 * 40 : Nat) : Int) (by omega) ?_
  refine lv_iload_n hx hb dX1_bring_8 rfl (lv_at hl 2 rfl) ?_
  refine x_iadd hx hb dX1_bring_9 ?_
  refine x_topi (((s0 * 40) + a : Nat) : Int) (by omega) ?_
  refine x_topi ((40 * s0 + a : Nat) : Int) (by omega) ?_
  refine lv_aload_n hx hb dX1_bring_10 rfl (lv_at hl 0 rfl) ?_
  refine va_get (D := D) (ci := 0) (v := .ref (h 3)) (C := RX1) (T := TX1) (N := 3) hx hb hts (iT_X1_bring_X1) hown hK hP 0 rfl rfl 2 (by decide) (hts (.fieldLink RX1 16 "WordSupper$Sheets" "numbers" "[I") (by decide +kernel)) (fun _ h9 => h9) rfl dX1_bring_11 ?_
  refine lv_iload_n hx hb dX1_bring_14 rfl (lv_at hl 3 rfl) ?_
  refine x_bipush hx hb dX1_bring_15 (by decide) ?_
  refine x_imul hx hb dX1_bring_17 ?_
  refine x_topi ((t0 * 40 : Nat) : Int) (by omega) ?_
  refine lv_iload hx hb dX1_bring_18 (lv_at hl 4 rfl) ?_
  refine x_iadd hx hb dX1_bring_20 ?_
  refine x_topi (((t0 * 40) + c0 : Nat) : Int) (by omega) ?_
  refine x_topi ((40 * t0 + c0 : Nat) : Int) (by omega) ?_
  refine lv_iload hx hb dX1_bring_21 (lv_at hl 5 rfl) ?_
  refine x_copy hx hb (hml.trans hl.1.symm) hown (hts (.methodLink RX1 23 arraycopyName) (by decide +kernel)) (hts (.native arraycopyName) (by decide +kernel)) (hts (.static arraycopyName) (by decide +kernel)) (hts (.initialized "java/lang/System") (by decide +kernel)) hK hP hD hS 3 3 0 rfl rfl rfl (40 * s0 + a) (40 * t0 + c0) n rfl rfl rfl (by omega) (by omega) (by decide) (by decide) (Nat.le_of_ble_eq_true rfl) (by decide) (wSh cI h SB SS (va_cpy SN SN (40 * s0 + a) (40 * t0 + c0) n)) (by rw [cpy_gd _ (by omega) (by omega)]; rfl) dX1_bring_23 (fun H locs hP hD hS => ?_)
  exact kend () hP hS rfl trivial dX1_bring_26
theorem ykSX4_isWithin : yX4_isWithin.cls ≠ "java/lang/invoke/MethodHandle" ∧ yX4_isWithin.cls ≠ "java/lang/invoke/VarHandle" ∧ (parseMethodDescriptor yX4_isWithin.desc).map (fun d => d.parameters.length) = some 3 := by decide +kernel
theorem ykVX4_isWithin : yX4_isWithin.cls = RX4 ∧ yX4_isWithin.cls ≠ "java/lang/invoke/MethodHandle" ∧ yX4_isWithin.cls ≠ "java/lang/invoke/VarHandle" ∧ (parseMethodDescriptor yX4_isWithin.desc).map (fun d => d.parameters.length) = some 3 := ⟨rfl, ykSX4_isWithin⟩
set_option maxHeartbeats 4000000 in
set_option maxRecDepth 100000 in
theorem kX4_isWithin {l : Launch} {D : va_G} {cI cB : ClassId} (v : Int) (lo : Int) (hi : Int) (hv : rI v) (hl0 : rI lo) (hh0 : rI hi) : Ct l yX4_isWithin wsX4_isWithin 0 0 D [(cI, .int), (cB, .byte)] [.int (iI v), .int (iI lo), .int (iI hi)] (([] : va_W)) (S := Unit) (fun _ => some (.int (iI (b2 (decide (lo ≤ v ∧ v ≤ hi)))))) (fun _ => True) (fun _ => ([] : va_W)) := by
  refine CtZ.of (cc := cX4_isWithin) (maxL := 3) (by decide +kernel) rfl (Nat.le_of_ble_eq_true rfl) ?_
  intro pg e s m args below meth c Q A hx hb hml hts hown hP hK hD hS ls hl kend
  have hown : s.vm.findClass RX4 = some m.cls := hown
  have hl : lv_has ls 3 [(0, .int (iI v)), (1, .int (iI lo)), (2, .int (iI hi))] := hl
  refine lv_iload_n hx hb dX4_isWithin_0 rfl (lv_at hl 0 rfl) ?_
  refine lv_iload_n hx hb dX4_isWithin_1 rfl (lv_at hl 1 rfl) ?_
  refine x_icmp_lt (tgt := 14) hx hb (by omega) (by omega) dX4_isWithin_2 (by decide) (fun c_2 => ?_) (fun c_2 => ?_)
  · refine x_iconst hx hb dX4_isWithin_14 ?_
    exact kend () hP hS (an_i (b2_f (by omega)).symm) trivial (by decide) dX4_isWithin_15
  · refine lv_iload_n hx hb dX4_isWithin_5 rfl (lv_at hl 0 rfl) ?_
    refine lv_iload_n hx hb dX4_isWithin_6 rfl (lv_at hl 2 rfl) ?_
    refine x_icmp_gt (tgt := 14) hx hb (by omega) (by omega) dX4_isWithin_7 (by decide) (fun c_7 => ?_) (fun c_7 => ?_)
    · refine x_iconst hx hb dX4_isWithin_14 ?_
      exact kend () hP hS (an_i (b2_f (by omega)).symm) trivial (by decide) dX4_isWithin_15
    · refine x_iconst hx hb dX4_isWithin_10 ?_
      refine lv_goto (tgt := 15) hx hb dX4_isWithin_11 (by decide) ?_
      exact kend () hP hS (an_i (b2_t (by omega)).symm) trivial (by decide) dX4_isWithin_15
theorem ykSX4_isTaste : yX4_isTaste.cls ≠ "java/lang/invoke/MethodHandle" ∧ yX4_isTaste.cls ≠ "java/lang/invoke/VarHandle" ∧ (parseMethodDescriptor yX4_isTaste.desc).map (fun d => d.parameters.length) = some 1 := by decide +kernel
theorem ykVX4_isTaste : yX4_isTaste.cls = RX4 ∧ yX4_isTaste.cls ≠ "java/lang/invoke/MethodHandle" ∧ yX4_isTaste.cls ≠ "java/lang/invoke/VarHandle" ∧ (parseMethodDescriptor yX4_isTaste.desc).map (fun d => d.parameters.length) = some 1 := ⟨rfl, ykSX4_isTaste⟩
set_option maxHeartbeats 4000000 in
set_option maxRecDepth 100000 in
theorem kX4_isTaste {l : Launch} {D : va_G} {cI cB : ClassId} (t : Int) (ht : rI t) : Ct l yX4_isTaste wsX4_isTaste 1 22 D [(cI, .int), (cB, .byte)] [.int (iI t)] (([] : va_W)) (S := Unit) (fun _ => some (.int (iI (b2 (decide (0 ≤ t ∧ t ≤ 5)))))) (fun _ => True) (fun _ => ([] : va_W)) := by
  refine CtZ.of (cc := cX4_isTaste) (maxL := 1) (by decide +kernel) rfl (Nat.le_of_ble_eq_true rfl) ?_
  intro pg e s m args below meth c Q A hx hb hml hts hown hP hK hD hS ls hl kend
  have hown : s.vm.findClass RX4 = some m.cls := hown
  have hl : lv_has ls 1 [(0, .int (iI t))] := hl
  refine lv_iload_n hx hb dX4_isTaste_0 rfl (lv_at hl 0 rfl) ?_
  refine x_iconst hx hb dX4_isTaste_1 ?_
  refine x_iconst hx hb dX4_isTaste_2 ?_
  refine x_callS (As := [.int (iI t), .int (iI 0), .int (iI 5)]) (rest := []) ⟨hx, hb, hml, hown, hts⟩ (kX4_isWithin t 0 5 (by omega) (by decide) (by decide)) (va_cwS 3 hts gX4_isTaste_X4_isWithin rfl rfl rfl ykSX4_isWithin ⟨Nat.le_of_ble_eq_true rfl, Nat.le_of_ble_eq_true rfl⟩) hP hK hD hS [] rfl (by decide) (fun _ => rfl) (fun _ => ([] : va_W)) (fun _ => rfl) rfl hl.1 rfl (Nat.le_of_ble_eq_true rfl) dX4_isTaste_3 ⟨Nat.le_of_ble_eq_true rfl, Nat.le_of_ble_eq_true rfl⟩ (fun _ H locs _ hP hD hS => ?_)
  refine W.eq (g2 := F0 m 6 ls [.int (iI (b2 (decide (0 ≤ t ∧ t ≤ 5))))]) rfl ?_
  exact kend () hP hS (an_i (b2_c (by omega))) trivial (b2_01 _) dX4_isTaste_6
theorem ykSX4_isKind : yX4_isKind.cls ≠ "java/lang/invoke/MethodHandle" ∧ yX4_isKind.cls ≠ "java/lang/invoke/VarHandle" ∧ (parseMethodDescriptor yX4_isKind.desc).map (fun d => d.parameters.length) = some 1 := by decide +kernel
theorem ykVX4_isKind : yX4_isKind.cls = RX4 ∧ yX4_isKind.cls ≠ "java/lang/invoke/MethodHandle" ∧ yX4_isKind.cls ≠ "java/lang/invoke/VarHandle" ∧ (parseMethodDescriptor yX4_isKind.desc).map (fun d => d.parameters.length) = some 1 := ⟨rfl, ykSX4_isKind⟩
set_option maxHeartbeats 4000000 in
set_option maxRecDepth 100000 in
theorem kX4_isKind {l : Launch} {D : va_G} {cI cB : ClassId} (t : Int) (ht : rI t) : Ct l yX4_isKind wsX4_isKind 1 22 D [(cI, .int), (cB, .byte)] [.int (iI t)] (([] : va_W)) (S := Unit) (fun _ => some (.int (iI (b2 (decide (0 ≤ t ∧ t ≤ 6)))))) (fun _ => True) (fun _ => ([] : va_W)) := by
  refine CtZ.of (cc := cX4_isKind) (maxL := 1) (by decide +kernel) rfl (Nat.le_of_ble_eq_true rfl) ?_
  intro pg e s m args below meth c Q A hx hb hml hts hown hP hK hD hS ls hl kend
  have hown : s.vm.findClass RX4 = some m.cls := hown
  have hl : lv_has ls 1 [(0, .int (iI t))] := hl
  refine lv_iload_n hx hb dX4_isKind_0 rfl (lv_at hl 0 rfl) ?_
  refine x_iconst hx hb dX4_isKind_1 ?_
  refine x_bipush hx hb dX4_isKind_2 (by decide) ?_
  refine x_callS (As := [.int (iI t), .int (iI 0), .int (iI 6)]) (rest := []) ⟨hx, hb, hml, hown, hts⟩ (kX4_isWithin t 0 6 (by omega) (by decide) (by decide)) (va_cwS 3 hts gX4_isKind_X4_isWithin rfl rfl rfl ykSX4_isWithin ⟨Nat.le_of_ble_eq_true rfl, Nat.le_of_ble_eq_true rfl⟩) hP hK hD hS [] rfl (by decide) (fun _ => rfl) (fun _ => ([] : va_W)) (fun _ => rfl) rfl hl.1 rfl (Nat.le_of_ble_eq_true rfl) dX4_isKind_4 ⟨Nat.le_of_ble_eq_true rfl, Nat.le_of_ble_eq_true rfl⟩ (fun _ H locs _ hP hD hS => ?_)
  refine W.eq (g2 := F0 m 7 ls [.int (iI (b2 (decide (0 ≤ t ∧ t ≤ 6))))]) rfl ?_
  exact kend () hP hS (an_i (b2_c (by omega))) trivial (b2_01 _) dX4_isKind_7
theorem ykSX4_exchange : yX4_exchange.cls ≠ "java/lang/invoke/MethodHandle" ∧ yX4_exchange.cls ≠ "java/lang/invoke/VarHandle" ∧ (parseMethodDescriptor yX4_exchange.desc).map (fun d => d.parameters.length) = some 3 := by decide +kernel
theorem ykVX4_exchange : yX4_exchange.cls = RX4 ∧ yX4_exchange.cls ≠ "java/lang/invoke/MethodHandle" ∧ yX4_exchange.cls ≠ "java/lang/invoke/VarHandle" ∧ (parseMethodDescriptor yX4_exchange.desc).map (fun d => d.parameters.length) = some 3 := ⟨rfl, ykSX4_exchange⟩
set_option maxHeartbeats 4000000 in
set_option maxRecDepth 100000 in
theorem kX4_exchange {l : Launch} {D : va_G} {cI cB : ClassId} (a : Nat) (n : Nat) (G : Nat → Int) (i : Nat) (v : Int) (hi : i < n) (hbig : n < 2147483648) : Ct l yX4_exchange wsX4_exchange 0 0 D [(cI, .int), (cB, .byte)] [.ref a, .int (iI ((i : Nat) : Int)), .int (iI v)] (wA cI a n G) (S := Unit) (fun _ => some (.int (iI (G i)))) (fun _ => True) (fun _ => wA cI a n (va_up G i v)) := by
  refine CtI.of (cc := cX4_exchange) (maxL := 4) (by decide +kernel) rfl (Nat.le_of_ble_eq_true rfl) ?_
  intro pg e s m args below meth c Q A hx hb hml hts hown hP hK hD hS ls hl kend
  have hown : s.vm.findClass RX4 = some m.cls := hown
  have hl : lv_has ls 4 [(0, .ref a), (1, .int (iI ((i : Nat) : Int))), (2, .int (iI v))] := hl
  refine lv_aload_n hx hb dX4_exchange_0 rfl (lv_at hl 0 rfl) ?_
  refine lv_iload_n hx hb dX4_exchange_1 rfl (lv_at hl 1 rfl) ?_
  refine x_iald hx hb hK hP 0 0 rfl rfl i rfl hi hbig (G i) (gd_at _ (by omega)) dX4_exchange_2 ?_
  refine lv_istore_n (lv' := [(3, .int (iI (G i))), (0, .ref a), (1, .int (iI ((i : Nat) : Int))), (2, .int (iI v))]) hx hb dX4_exchange_3 rfl hl (by decide) rfl (fun ls hl => ?_)
  refine lv_aload_n hx hb dX4_exchange_4 rfl (lv_at hl 1 rfl) ?_
  refine lv_iload_n hx hb dX4_exchange_5 rfl (lv_at hl 2 rfl) ?_
  refine lv_iload_n hx hb dX4_exchange_6 rfl (lv_at hl 3 rfl) ?_
  refine x_iast hx hb hK hP hD hS 0 0 rfl rfl i rfl hi hbig (wA cI a n (va_up G i v)) (wA_up cI a n G v i (by omega)) dX4_exchange_7 (fun H locs hP hD hS => ?_)
  refine lv_iload_n hx hb dX4_exchange_8 rfl (lv_at hl 0 rfl) ?_
  exact kend () hP hS (an_i (rfl)) trivial dX4_exchange_9
theorem ykSX4_finding : yX4_finding.cls ≠ "java/lang/invoke/MethodHandle" ∧ yX4_finding.cls ≠ "java/lang/invoke/VarHandle" ∧ (parseMethodDescriptor yX4_finding.desc).map (fun d => d.parameters.length) = some 1 := by decide +kernel
theorem ykVX4_finding : yX4_finding.cls = RX4 ∧ yX4_finding.cls ≠ "java/lang/invoke/MethodHandle" ∧ yX4_finding.cls ≠ "java/lang/invoke/VarHandle" ∧ (parseMethodDescriptor yX4_finding.desc).map (fun d => d.parameters.length) = some 1 := ⟨rfl, ykSX4_finding⟩
set_option maxRecDepth 20000 in
theorem iT_X4_finding_X4 : ∀ w ∈ u_ws RX4 TX4 7, w ∈ wsX4_finding := by decide +kernel
set_option maxHeartbeats 4000000 in
set_option maxRecDepth 100000 in
theorem kX4_finding {l : Launch} {D : va_G} {cI cB : ClassId} (x : Nat) (f : Nat) (q : Nat → Nat) (kq : Nat → Nat) (vq : Nat → Nat) (h : Nat → Nat) (g : Nat → Nat) (ik : Int) (F : Nat → Int) (fd : Int) (kk : Nat) (hf : fd = -1000001 - (kk : Int)) (hk : kk < 7) : Ct l yX4_finding wsX4_finding 1 22 D [(cI, .int), (cB, .byte)] [.ref x, .int (iI fd)] (wObj x f q kq vq h g ik ++ (wA cI f 7 F)) (S := Unit) (fun _ => some (.int (iI fd))) (fun _ => True) (fun _ => wObj x f q kq vq h g ik ++ (wA cI f 7 (bmp kk F))) := by
  refine CtI.of (cc := cX4_finding) (maxL := 3) (by decide +kernel) rfl (Nat.le_of_ble_eq_true rfl) ?_
  intro pg e s m args below meth c Q A hx hb hml hts hown hP hK hD hS ls hl kend
  have hown : s.vm.findClass RX4 = some m.cls := hown
  have hl : lv_has ls 3 [(0, .ref x), (1, .int (iI fd))] := hl
  refine x_ldc hx hb (-1000001) rfl hown (hts (.constant RX4 44 (-1000001)) (by decide +kernel)) dX4_finding_0 ?_
  refine lv_iload_n hx hb dX4_finding_2 rfl (lv_at hl 1 rfl) ?_
  refine x_isub hx hb dX4_finding_3 ?_
  refine x_topi ((kk : Nat) : Int) (by omega) ?_
  refine lv_istore_n (lv' := [(2, .int (iI ((kk : Nat) : Int))), (0, .ref x), (1, .int (iI fd))]) hx hb dX4_finding_4 rfl hl (by decide) rfl (fun ls hl => ?_)
  refine lv_iload_n hx hb dX4_finding_5 rfl (lv_at hl 0 rfl) ?_
  refine x_iconst hx hb dX4_finding_6 ?_
  refine x_bipush hx hb dX4_finding_7 (by decide) ?_
  refine x_callS (As := [.int (iI ((kk : Nat) : Int)), .int (iI 0), .int (iI 6)]) (rest := []) ⟨hx, hb, hml, hown, hts⟩ (kX4_isWithin ((kk : Nat) : Int) 0 6 (by omega) (by decide) (by decide)) (va_cwS 3 hts gX4_finding_X4_isWithin rfl rfl rfl ykSX4_isWithin ⟨Nat.le_of_ble_eq_true rfl, Nat.le_of_ble_eq_true rfl⟩) hP hK hD hS [] rfl (by decide) (fun _ => rfl) (fun _ => wObj x f q kq vq h g ik ++ (wA cI f 7 F)) (fun _ => rfl) rfl hl.1 rfl (Nat.le_of_ble_eq_true rfl) dX4_finding_9 ⟨Nat.le_of_ble_eq_true rfl, Nat.le_of_ble_eq_true rfl⟩ (fun _ H locs _ hP hD hS => ?_)
  refine W.eq (g2 := F0 m 12 ls [.int (iI (b2 (decide (0 ≤ ((kk : Nat) : Int) ∧ ((kk : Nat) : Int) ≤ 6))))]) rfl ?_
  refine x_ifb_eq (tgt := 25) hx hb dX4_finding_12 (by decide) (fun c_12 => ?_) (fun c_12 => ?_)
  · exfalso; omega
  · refine lv_aload_n hx hb dX4_finding_15 rfl (lv_at hl 1 rfl) ?_
    refine va_get (D := D) (ci := 3) (v := .ref f) (C := RX4) (T := TX4) (N := 7) hx hb hts (iT_X4_finding_X4) hown hK hP 0 rfl rfl 5 (by decide) (hts (.fieldLink RX4 36 "WordSupper" "findings" "[I") (by decide +kernel)) (fun _ h9 => h9) rfl dX4_finding_16 ?_
    refine lv_iload_n hx hb dX4_finding_19 rfl (lv_at hl 0 rfl) ?_
    refine lv_dup2_11 hx hb dX4_finding_20 rfl rfl ?_
    refine x_iald hx hb hK hP 1 0 rfl rfl kk rfl (by omega) (by decide) (F kk) (gd_at _ (by omega)) dX4_finding_21 ?_
    refine x_iconst hx hb dX4_finding_22 ?_
    refine x_iadd hx hb dX4_finding_23 ?_
    refine x_iast hx hb hK hP hD hS 1 0 rfl rfl kk rfl (by omega) (by decide) (wObj x f q kq vq h g ik ++ (wA cI f 7 (va_up F kk ((F kk) + 1)))) (by rw [← wA_up cI f 7 F ((F kk) + 1) kk (by omega)]; rfl) dX4_finding_24 (fun H locs hP hD hS => ?_)
    refine lv_iload_n hx hb dX4_finding_25 rfl (lv_at hl 2 rfl) ?_
    exact kend () hP hS (an_i (rfl)) trivial dX4_finding_26
theorem ykSX4_wrongSheet : yX4_wrongSheet.cls ≠ "java/lang/invoke/MethodHandle" ∧ yX4_wrongSheet.cls ≠ "java/lang/invoke/VarHandle" ∧ (parseMethodDescriptor yX4_wrongSheet.desc).map (fun d => d.parameters.length) = some 1 := by decide +kernel
theorem ykVX4_wrongSheet : yX4_wrongSheet.cls = RX4 ∧ yX4_wrongSheet.cls ≠ "java/lang/invoke/MethodHandle" ∧ yX4_wrongSheet.cls ≠ "java/lang/invoke/VarHandle" ∧ (parseMethodDescriptor yX4_wrongSheet.desc).map (fun d => d.parameters.length) = some 1 := ⟨rfl, ykSX4_wrongSheet⟩
set_option maxRecDepth 20000 in
theorem iT_X4_wrongSheet_X4 : ∀ w ∈ u_ws RX4 TX4 7, w ∈ wsX4_wrongSheet := by decide +kernel
set_option maxHeartbeats 4000000 in
set_option maxRecDepth 100000 in
theorem kX4_wrongSheet {l : Launch} {D : va_G} {cI cB : ClassId} (x : Nat) (f : Nat) (q : Nat → Nat) (kq : Nat → Nat) (vq : Nat → Nat) (h : Nat → Nat) (g : Nat → Nat) (ik : Int) (SB : Nat → Int) (SS : Nat → Int) (SN : Nat → Int) (s0 : Int) (hs : rI s0) (hSB : ∀ i : Nat, i < 4 → SB i = 0 ∨ SB i = 8 ∨ SB i = 16 ∨ SB i = 32) : Ct l yX4_wrongSheet wsX4_wrongSheet 1 21 D [(cI, .int), (cB, .byte)] [.ref x, .int (iI s0)] (wObj x f q kq vq h g ik ++ (wSh cI h SB SS SN)) (S := Unit) (fun _ => some (.int (iI (waF SB s0)))) (fun _ => True) (fun _ => wObj x f q kq vq h g ik ++ (wSh cI h SB SS SN)) := by
  refine CtI.of (cc := cX4_wrongSheet) (maxL := 2) (by decide +kernel) rfl (Nat.le_of_ble_eq_true rfl) ?_
  intro pg e s m args below meth c Q A hx hb hml hts hown hP hK hD hS ls hl kend
  have hown : s.vm.findClass RX4 = some m.cls := hown
  have hl : lv_has ls 2 [(0, .ref x), (1, .int (iI s0))] := hl
  refine lv_iload_n hx hb dX4_wrongSheet_0 rfl (lv_at hl 1 rfl) ?_
  refine x_callS (As := [.int (iI s0)]) (rest := []) ⟨hx, hb, hml, hown, hts⟩ (kX1_isSheet s0 (by omega)) (va_cwS 1 hts gX4_wrongSheet_X1_isSheet rfl rfl rfl ykSX1_isSheet ⟨Nat.le_of_ble_eq_true rfl, Nat.le_of_ble_eq_true rfl⟩) hP hK hD hS [] rfl (by decide) (fun _ => rfl) (fun _ => wObj x f q kq vq h g ik ++ (wSh cI h SB SS SN)) (fun _ => rfl) rfl hl.1 rfl (Nat.le_of_ble_eq_true rfl) dX4_wrongSheet_1 ⟨Nat.le_of_ble_eq_true rfl, Nat.le_of_ble_eq_true rfl⟩ (fun _ H locs _ hP hD hS => ?_)
  refine W.eq (g2 := F0 m 4 ls [.int (iI (b2 (decide (0 ≤ s0 ∧ s0 < 4))))]) rfl ?_
  refine x_ifb_ne (tgt := 10) hx hb dX4_wrongSheet_4 (by decide) (fun c_4 => ?_) (fun c_4 => ?_)
  · obtain ⟨s1, rfl⟩ : ∃ s1 : Nat, s0 = (s1 : Int) := ⟨s0.toNat, by omega⟩
    refine lv_aload_n hx hb dX4_wrongSheet_10 rfl (lv_at hl 0 rfl) ?_
    refine va_get (D := D) (ci := 3) (v := .ref (h 0)) (C := RX4) (T := TX4) (N := 7) hx hb hts (iT_X4_wrongSheet_X4) hown hK hP 0 rfl rfl 3 (by decide) (hts (.fieldLink RX4 25 "WordSupper" "sheets" "LWordSupper$Sheets;") (by decide +kernel)) (fun _ h9 => h9) rfl dX4_wrongSheet_11 ?_
    refine lv_iload_n hx hb dX4_wrongSheet_14 rfl (lv_at hl 1 rfl) ?_
    refine x_callV (As := [.int (iI ((s1 : Nat) : Int))]) (rest := []) ⟨hx, hb, hml, hown, hts⟩ (kX1_isMissing h SB SS SN s1 (by omega) hSB) (cwV 1 hts gX4_wrongSheet_X1_isMissing rfl rfl rfl ykVX1_isMissing ⟨Nat.le_of_ble_eq_true rfl, Nat.le_of_ble_eq_true rfl⟩) hP hK hD hS 1 0 rfl rfl rfl [1, 2, 3, 4] rfl (by decide) (fun _ => rfl) (fun _ => wObj x f q kq vq h g ik ++ (wSh cI h SB SS SN)) (fun _ => rfl) rfl hl.1 rfl (Nat.le_of_ble_eq_true rfl) dX4_wrongSheet_15 ⟨Nat.le_of_ble_eq_true rfl, Nat.le_of_ble_eq_true rfl⟩ (fun _ H locs _ hP hD hS => ?_)
    refine W.eq (g2 := F0 m 18 ls [.int (iI (b2 (decide (SB s1 = 0))))]) rfl ?_
    refine x_ifb_eq (tgt := 26) hx hb dX4_wrongSheet_18 (by decide) (fun c_18 => ?_) (fun c_18 => ?_)
    · refine x_iconst hx hb dX4_wrongSheet_26 ?_
      exact kend () hP hS (an_i ((by unfold waF; rw [if_neg (by omega), Int.toNat_natCast, if_neg (by assumption)]))) trivial dX4_wrongSheet_27
    · refine x_ldc hx hb (-1000006) rfl hown (hts (.constant RX4 212 (-1000006)) (by decide +kernel)) dX4_wrongSheet_21 ?_
      refine lv_goto (tgt := 27) hx hb dX4_wrongSheet_23 (by decide) ?_
      exact kend () hP hS (an_i ((by unfold waF; rw [if_neg (by omega), Int.toNat_natCast, if_pos (by assumption)]))) trivial dX4_wrongSheet_27
  · refine x_ldc hx hb (-1000001) rfl hown (hts (.constant RX4 44 (-1000001)) (by decide +kernel)) dX4_wrongSheet_7 ?_
    exact kend () hP hS (an_i ((by unfold waF; rw [if_pos (by omega)]))) trivial dX4_wrongSheet_9
theorem ykSX4_wrongTold : yX4_wrongTold.cls ≠ "java/lang/invoke/MethodHandle" ∧ yX4_wrongTold.cls ≠ "java/lang/invoke/VarHandle" ∧ (parseMethodDescriptor yX4_wrongTold.desc).map (fun d => d.parameters.length) = some 2 := by decide +kernel
theorem ykVX4_wrongTold : yX4_wrongTold.cls = RX4 ∧ yX4_wrongTold.cls ≠ "java/lang/invoke/MethodHandle" ∧ yX4_wrongTold.cls ≠ "java/lang/invoke/VarHandle" ∧ (parseMethodDescriptor yX4_wrongTold.desc).map (fun d => d.parameters.length) = some 2 := ⟨rfl, ykSX4_wrongTold⟩
set_option maxRecDepth 20000 in
theorem iT_X4_wrongTold_X4 : ∀ w ∈ u_ws RX4 TX4 7, w ∈ wsX4_wrongTold := by decide +kernel
set_option maxHeartbeats 4000000 in
set_option maxRecDepth 100000 in
theorem kX4_wrongTold {l : Launch} {D : va_G} {cI cB : ClassId} (x : Nat) (f : Nat) (q : Nat → Nat) (kq : Nat → Nat) (vq : Nat → Nat) (h : Nat → Nat) (g : Nat → Nat) (ik : Int) (T : Tb) (b : Int) (SB : Nat → Int) (SS : Nat → Int) (SN : Nat → Int) (s0 : Int) (sp : Int) (hs : rI s0) (hp : rI sp) (hn : 0 ≤ T 0 ∧ T 0 ≤ 8) (hSB : ∀ i : Nat, i < 4 → SB i = 0 ∨ SB i = 8 ∨ SB i = 16 ∨ SB i = 32) : Ct l yX4_wrongTold wsX4_wrongTold 2 42 D [(cI, .int), (cB, .byte)] [.ref x, .int (iI s0), .int (iI sp)] (wObj x f q kq vq h g ik ++ (wTab cI q T b ++ (wSh cI h SB SS SN))) (S := Unit) (fun _ => some (.int (iI (wtF SB (T 0) s0 sp)))) (fun _ => True) (fun _ => wObj x f q kq vq h g ik ++ (wTab cI q T b ++ (wSh cI h SB SS SN))) := by
  refine CtI.of (cc := cX4_wrongTold) (maxL := 4) (by decide +kernel) rfl (Nat.le_of_ble_eq_true rfl) ?_
  intro pg e s m args below meth c Q A hx hb hml hts hown hP hK hD hS ls hl kend
  have hown : s.vm.findClass RX4 = some m.cls := hown
  have hl : lv_has ls 4 [(0, .ref x), (1, .int (iI s0)), (2, .int (iI sp))] := hl
  have hw := waF_r SB s0
  refine lv_aload_n hx hb dX4_wrongTold_0 rfl (lv_at hl 0 rfl) ?_
  refine lv_iload_n hx hb dX4_wrongTold_1 rfl (lv_at hl 1 rfl) ?_
  refine x_callV (As := [.int (iI s0)]) (rest := []) ⟨hx, hb, hml, hown, hts⟩ (kX4_wrongSheet x f q kq vq h g ik SB SS SN s0 (by omega) hSB) (cwV 1 hts gX4_wrongTold_X4_wrongSheet rfl rfl rfl ykVX4_wrongSheet ⟨Nat.le_of_ble_eq_true rfl, Nat.le_of_ble_eq_true rfl⟩) hP hK hD hS 0 3 rfl rfl rfl [0, 9, 10, 11, 12] rfl (by decide) (fun _ => rfl) (fun _ => wObj x f q kq vq h g ik ++ (wTab cI q T b ++ (wSh cI h SB SS SN))) (fun _ => rfl) rfl hl.1 rfl (Nat.le_of_ble_eq_true rfl) dX4_wrongTold_2 ⟨Nat.le_of_ble_eq_true rfl, Nat.le_of_ble_eq_true rfl⟩ (fun _ H locs _ hP hD hS => ?_)
  refine W.eq (g2 := F0 m 5 ls [.int (iI (waF SB s0))]) rfl ?_
  refine lv_istore_n (lv' := [(3, .int (iI (waF SB s0))), (0, .ref x), (1, .int (iI s0)), (2, .int (iI sp))]) hx hb dX4_wrongTold_5 rfl hl (by decide) rfl (fun ls hl => ?_)
  refine lv_iload_n hx hb dX4_wrongTold_6 rfl (lv_at hl 0 rfl) ?_
  refine x_if_ne (tgt := 24) hx hb hw dX4_wrongTold_7 (by decide) (fun c_7 => ?_) (fun c_7 => ?_)
  · refine lv_iload_n hx hb dX4_wrongTold_24 rfl (lv_at hl 0 rfl) ?_
    exact kend () hP hS (an_i ((by unfold wtF; first | rw [if_pos (by omega)] | (rw [if_neg (by omega), if_pos (by omega)]; omega)))) trivial dX4_wrongTold_25
  · refine lv_aload_n hx hb dX4_wrongTold_10 rfl (lv_at hl 1 rfl) ?_
    refine va_get (D := D) (ci := 3) (v := .ref (q 0)) (C := RX4) (T := TX4) (N := 7) hx hb hts (iT_X4_wrongTold_X4) hown hK hP 0 rfl rfl 0 (by decide) (hts (.fieldLink RX4 10 "WordSupper" "table" "LWordSupper$Table;") (by decide +kernel)) (fun _ h9 => h9) rfl dX4_wrongTold_11 ?_
    refine lv_iload_n hx hb dX4_wrongTold_14 rfl (lv_at hl 3 rfl) ?_
    refine x_callV (As := [.int (iI sp)]) (rest := []) ⟨hx, hb, hml, hown, hts⟩ (kX2_isSeat q T b sp (by omega) (by omega)) (cwV 1 hts gX4_wrongTold_X2_isSeat rfl rfl rfl ykVX2_isSeat ⟨Nat.le_of_ble_eq_true rfl, Nat.le_of_ble_eq_true rfl⟩) hP hK hD hS 1 1 rfl rfl rfl [1, 2, 3, 4, 5, 6, 7, 8] rfl (by decide) (fun _ => rfl) (fun _ => wObj x f q kq vq h g ik ++ (wTab cI q T b ++ (wSh cI h SB SS SN))) (fun _ => rfl) rfl hl.1 rfl (Nat.le_of_ble_eq_true rfl) dX4_wrongTold_15 ⟨Nat.le_of_ble_eq_true rfl, Nat.le_of_ble_eq_true rfl⟩ (fun _ H locs _ hP hD hS => ?_)
    refine W.eq (g2 := F0 m 18 ls [.int (iI (b2 (decide (0 ≤ sp ∧ sp < T 0))))]) rfl ?_
    refine x_ifb_ne (tgt := 24) hx hb dX4_wrongTold_18 (by decide) (fun c_18 => ?_) (fun c_18 => ?_)
    · refine lv_iload_n hx hb dX4_wrongTold_24 rfl (lv_at hl 0 rfl) ?_
      exact kend () hP hS (an_i ((by unfold wtF; first | rw [if_pos (by omega)] | (rw [if_neg (by omega), if_pos (by omega)]; omega)))) trivial dX4_wrongTold_25
    · refine x_ldc hx hb (-1000001) rfl hown (hts (.constant RX4 44 (-1000001)) (by decide +kernel)) dX4_wrongTold_21 ?_
      exact kend () hP hS (an_i ((by unfold wtF; rw [if_neg (by omega), if_neg (by omega)]))) trivial dX4_wrongTold_23
theorem ykSX4_firstDay : yX4_firstDay.cls ≠ "java/lang/invoke/MethodHandle" ∧ yX4_firstDay.cls ≠ "java/lang/invoke/VarHandle" ∧ (parseMethodDescriptor yX4_firstDay.desc).map (fun d => d.parameters.length) = some 4 := by decide +kernel
theorem ykVX4_firstDay : yX4_firstDay.cls = RX4 ∧ yX4_firstDay.cls ≠ "java/lang/invoke/MethodHandle" ∧ yX4_firstDay.cls ≠ "java/lang/invoke/VarHandle" ∧ (parseMethodDescriptor yX4_firstDay.desc).map (fun d => d.parameters.length) = some 4 := ⟨rfl, ykSX4_firstDay⟩
set_option maxRecDepth 20000 in
theorem iT_X4_firstDay_X4 : ∀ w ∈ u_ws RX4 TX4 7, w ∈ wsX4_firstDay := by decide +kernel
set_option maxHeartbeats 4000000 in
set_option maxRecDepth 100000 in
theorem kX4_firstDay {l : Launch} {D : va_G} {cI cB : ClassId} (x : Nat) (f : Nat) (q : Nat → Nat) (kq : Nat → Nat) (vq : Nat → Nat) (h : Nat → Nat) (g : Nat → Nat) (ik : Int) (T : Tb) (b : Int) (V : Tb) (bv : Int) (F : Nat → Int) (p : Nat) (wh : Int) (lo : Int) (hi : Int) (B : Int) (hI : Inv B T) (hB : B ≤ 90000) (hp : (p : Int) < T 0) (hw : 0 ≤ wh ∧ wh ≤ 6) (hlo : rI lo) (hhi : rI hi) : Ct l yX4_firstDay wsX4_firstDay 5 114 D [(cI, .int), (cB, .byte)] [.ref x, .int (iI ((p : Nat) : Int)), .int (iI wh), .int (iI lo), .int (iI hi)] (wObj x f q kq vq h g ik ++ (wTab cI q T b ++ (wTab cI vq V bv ++ (wA cI f 7 F)))) (S := Tb × Int × (Nat → Int) × Int) (fun u => some (.int (iI u.2.2.2))) (fun u => (u.2.2.2, u.2.2.1) = if 0 ≤ fdF (fdB p wh lo hi) 101 0 T then (fdF (fdB p wh lo hi) 101 0 T, F) else (-1000004, bmp 3 F)) (fun u => wObj x f q kq vq h g ik ++ (wTab cI q T b ++ (wTab cI vq u.1 u.2.1 ++ (wA cI f 7 u.2.2.1)))) := by
  refine CtI.of (cc := cX4_firstDay) (maxL := 6) (by decide +kernel) rfl (Nat.le_of_ble_eq_true rfl) ?_
  intro pg e s m args below meth c Q A hx hb hml hts hown hP hK hD hS ls hl kend
  have hown : s.vm.findClass RX4 = some m.cls := hown
  have hl : lv_has ls 6 [(0, .ref x), (1, .int (iI ((p : Nat) : Int))), (2, .int (iI wh)), (3, .int (iI lo)), (4, .int (iI hi))] := hl
  refine lv_aload_n hx hb dX4_firstDay_0 rfl (lv_at hl 0 rfl) ?_
  refine va_get (D := D) (ci := 3) (v := .ref (vq 0)) (C := RX4) (T := TX4) (N := 7) hx hb hts (iT_X4_firstDay_X4) hown hK hP 0 rfl rfl 2 (by decide) (hts (.fieldLink RX4 19 "WordSupper" "spare" "LWordSupper$Table;") (by decide +kernel)) (fun _ h9 => h9) rfl dX4_firstDay_1 ?_
  refine lv_aload_n hx hb dX4_firstDay_4 rfl (lv_at hl 0 rfl) ?_
  refine va_get (D := D) (ci := 3) (v := .ref (q 0)) (C := RX4) (T := TX4) (N := 7) hx hb hts (iT_X4_firstDay_X4) hown hK hP 0 rfl rfl 0 (by decide) (hts (.fieldLink RX4 10 "WordSupper" "table" "LWordSupper$Table;") (by decide +kernel)) (fun _ h9 => h9) rfl dX4_firstDay_5 ?_
  refine x_callV (As := [.ref (q 0)]) (rest := []) ⟨hx, hb, hml, hown, hts⟩ (kX2_become vq V bv q T b ) (cwV 1 hts gX4_firstDay_X2_become rfl rfl rfl ykVX2_become ⟨Nat.le_of_ble_eq_true rfl, Nat.le_of_ble_eq_true rfl⟩) hP hK hD hS 9 1 rfl rfl rfl [9, 10, 11, 12, 13, 14, 15, 16, 1, 2, 3, 4, 5, 6, 7, 8] rfl (by decide) (fun _ => rfl) (fun _ => wObj x f q kq vq h g ik ++ (wTab cI q T b ++ (wTab cI vq T bv ++ (wA cI f 7 F)))) (fun _ => rfl) rfl hl.1 rfl (Nat.le_of_ble_eq_true rfl) dX4_firstDay_8 ⟨Nat.le_of_ble_eq_true rfl, Nat.le_of_ble_eq_true rfl⟩ (fun _ H locs _ hP hD hS => ?_)
  refine W.eq (g2 := F0 m 11 ls []) rfl ?_
  refine x_iconst hx hb dX4_firstDay_11 ?_
  refine lv_istore (lv' := [(5, .int (iI 0)), (0, .ref x), (1, .int (iI ((p : Nat) : Int))), (2, .int (iI wh)), (3, .int (iI lo)), (4, .int (iI hi))]) hx hb dX4_firstDay_12 hl (by decide) rfl (fun ls hl => ?_)
  have L14 : ∀ (k t : Nat) (Vt : Tb) (bt : Int) (H : Heap) (locs : List Loc) (ls : Array Slot), t + k = 101 → (fdF (fdB p wh lo hi) k t Vt = fdF (fdB p wh lo hi) 101 0 T) → (Inv (B + (t : Int)) Vt) → (Vt 0 = T 0) → va_P D vwCl (wObj x f q kq vq h g ik ++ (wTab cI q T b ++ (wTab cI vq Vt bt ++ (wA cI f 7 F)))) H → va_D A (wObj x f q kq vq h g ik ++ (wTab cI q T b ++ (wTab cI vq Vt bt ++ (wA cI f 7 F)))) → va_S A s.heap H locs → lv_has ls 6 [(0, .ref x), (1, .int (iI ((p : Nat) : Int))), (2, .int (iI wh)), (3, .int (iI lo)), (4, .int (iI hi)), (5, .int (iI ((t : Nat) : Int)))] → W pg l e { frames := 5, cells := 0, slots := 0, locals := 114 } s m args below meth c H locs 0 0 Q (F0 m 14 ls []) := by
    intro k
    induction k with
    | zero =>
      intro t Vt bt H locs ls hkt hr hi0 h0 hP hD hS hl
      refine lv_iload hx hb dX4_firstDay_14 (lv_at hl 5 rfl) ?_
      refine x_bipush hx hb dX4_firstDay_16 (by decide) ?_
      refine x_icmp_gt (tgt := 56) hx hb (by omega) (by decide) dX4_firstDay_18 (by decide) (fun c_18 => ?_) (fun c_18 => ?_)
      · refine lv_aload_n hx hb dX4_firstDay_56 rfl (lv_at hl 0 rfl) ?_
        refine x_ldc hx hb (-1000004) rfl hown (hts (.constant RX4 151 (-1000004)) (by decide +kernel)) dX4_firstDay_57 ?_
        refine x_callV (As := [.int (iI (-1000004))]) (rest := []) ⟨hx, hb, hml, hown, hts⟩ (kX4_finding x f q kq vq h g ik F (-1000004) 3 (by omega) (by omega)) (cwV 1 hts gX4_firstDay_X4_finding rfl rfl rfl ykVX4_finding ⟨Nat.le_of_ble_eq_true rfl, Nat.le_of_ble_eq_true rfl⟩) hP hK hD hS 0 3 rfl rfl rfl [0, 17] rfl (by decide) (fun _ => rfl) (fun _ => wObj x f q kq vq h g ik ++ (wTab cI q T b ++ (wTab cI vq Vt bt ++ (wA cI f 7 (bmp 3 F))))) (fun _ => rfl) rfl hl.1 rfl (Nat.le_of_ble_eq_true rfl) dX4_firstDay_59 ⟨Nat.le_of_ble_eq_true rfl, Nat.le_of_ble_eq_true rfl⟩ (fun _ H locs _ hP hD hS => ?_)
        refine W.eq (g2 := F0 m 62 ls [.int (iI (-1000004))]) rfl ?_
        exact kend (Vt, bt, bmp 3 F, -1000004) hP hS rfl (by rw [← hr, fdF, if_neg (by omega)]) dX4_firstDay_62
      · exfalso; omega
    | succ k ih =>
      intro t Vt bt H locs ls hkt hr hi0 h0 hP hD hS hl
      refine lv_iload hx hb dX4_firstDay_14 (lv_at hl 5 rfl) ?_
      refine x_bipush hx hb dX4_firstDay_16 (by decide) ?_
      refine x_icmp_gt (tgt := 56) hx hb (by omega) (by decide) dX4_firstDay_18 (by decide) (fun c_18 => ?_) (fun c_18 => ?_)
      · exfalso; omega
      · refine lv_aload_n hx hb dX4_firstDay_21 rfl (lv_at hl 0 rfl) ?_
        refine va_get (D := D) (ci := 3) (v := .ref (vq 0)) (C := RX4) (T := TX4) (N := 7) hx hb hts (iT_X4_firstDay_X4) hown hK hP 0 rfl rfl 2 (by decide) (hts (.fieldLink RX4 19 "WordSupper" "spare" "LWordSupper$Table;") (by decide +kernel)) (fun _ h9 => h9) rfl dX4_firstDay_22 ?_
        refine lv_iload_n hx hb dX4_firstDay_25 rfl (lv_at hl 1 rfl) ?_
        refine lv_iload_n hx hb dX4_firstDay_26 rfl (lv_at hl 2 rfl) ?_
        refine x_callV (As := [.int (iI ((p : Nat) : Int)), .int (iI wh)]) (rest := []) ⟨hx, hb, hml, hown, hts⟩ (kX2_trait vq Vt bt p wh (B + (t : Int)) hi0 (by omega) (by omega)) (cwV 2 hts gX4_firstDay_X2_trait rfl rfl rfl ykVX2_trait ⟨Nat.le_of_ble_eq_true rfl, Nat.le_of_ble_eq_true rfl⟩) hP hK hD hS 9 1 rfl rfl rfl [9, 10, 11, 12, 13, 14, 15, 16] rfl (by decide) (fun _ => rfl) (fun _ => wObj x f q kq vq h g ik ++ (wTab cI q T b ++ (wTab cI vq Vt bt ++ (wA cI f 7 F)))) (fun _ => rfl) rfl hl.1 rfl (Nat.le_of_ble_eq_true rfl) dX4_firstDay_27 ⟨Nat.le_of_ble_eq_true rfl, Nat.le_of_ble_eq_true rfl⟩ (fun _ H locs _ hP hD hS => ?_)
        refine W.eq (g2 := F0 m 30 ls [.int (iI (trF Vt p wh))]) rfl ?_
        have hq9 := Inv_tr (p := p) (wh := wh) hi0 (by omega)
        refine lv_iload_n hx hb dX4_firstDay_30 rfl (lv_at hl 3 rfl) ?_
        refine lv_iload hx hb dX4_firstDay_31 (lv_at hl 4 rfl) ?_
        refine x_callS (As := [.int (iI (trF Vt p wh)), .int (iI lo), .int (iI hi)]) (rest := []) ⟨hx, hb, hml, hown, hts⟩ (kX4_isWithin (trF Vt p wh) lo hi hq9 hlo hhi) (va_cwS 3 hts gX4_firstDay_X4_isWithin rfl rfl rfl ykSX4_isWithin ⟨Nat.le_of_ble_eq_true rfl, Nat.le_of_ble_eq_true rfl⟩) hP hK hD hS [] rfl (by decide) (fun _ => rfl) (fun _ => wObj x f q kq vq h g ik ++ (wTab cI q T b ++ (wTab cI vq Vt bt ++ (wA cI f 7 F)))) (fun _ => rfl) rfl hl.1 rfl (Nat.le_of_ble_eq_true rfl) dX4_firstDay_33 ⟨Nat.le_of_ble_eq_true rfl, Nat.le_of_ble_eq_true rfl⟩ (fun _ H locs _ hP hD hS => ?_)
        refine W.eq (g2 := F0 m 36 ls [.int (iI (b2 (decide (lo ≤ (trF Vt p wh) ∧ (trF Vt p wh) ≤ hi))))]) rfl ?_
        refine x_ifb_eq (tgt := 42) hx hb dX4_firstDay_36 (by decide) (fun c_36 => ?_) (fun c_36 => ?_)
        · refine lv_aload_n hx hb dX4_firstDay_42 rfl (lv_at hl 0 rfl) ?_
          refine va_get (D := D) (ci := 3) (v := .ref (vq 0)) (C := RX4) (T := TX4) (N := 7) hx hb hts (iT_X4_firstDay_X4) hown hK hP 0 rfl rfl 2 (by decide) (hts (.fieldLink RX4 19 "WordSupper" "spare" "LWordSupper$Table;") (by decide +kernel)) (fun _ h9 => h9) rfl dX4_firstDay_43 ?_
          refine x_iconst hx hb dX4_firstDay_46 ?_
          refine x_callV (As := [.int (iI 0)]) (rest := []) ⟨hx, hb, hml, hown, hts⟩ (kX2_passDay vq Vt bt 0 (B + (t : Int)) hi0 (by omega) (by decide)) (cwV 1 hts gX4_firstDay_X2_passDay rfl rfl rfl ykVX2_passDay ⟨Nat.le_of_ble_eq_true rfl, Nat.le_of_ble_eq_true rfl⟩) hP hK hD hS 9 1 rfl rfl rfl [9, 10, 11, 12, 13, 14, 15, 16] rfl (by decide) (fun _ => rfl) (fun u => wObj x f q kq vq h g ik ++ (wTab cI q T b ++ (wTab cI vq u.1 u.2 ++ (wA cI f 7 F)))) (fun _ => rfl) rfl hl.1 rfl (Nat.le_of_ble_eq_true rfl) dX4_firstDay_47 ⟨Nat.le_of_ble_eq_true rfl, Nat.le_of_ble_eq_true rfl⟩ (fun u3 H locs hp4 hP hD hS => ?_)
          obtain ⟨T11, b12⟩ := u3
          replace hp4 : T11 = dyF 0 Vt := hp4
          have hP : va_P D vwCl (wObj x f q kq vq h g ik ++ (wTab cI q T b ++ (wTab cI vq T11 b12 ++ (wA cI f 7 F)))) H := hP
          have hD : va_D A (wObj x f q kq vq h g ik ++ (wTab cI q T b ++ (wTab cI vq T11 b12 ++ (wA cI f 7 F)))) := hD
          refine W.eq (g2 := F0 m 50 ls []) rfl ?_
          refine x_iinc hx hb 5 ((t + 1 : Nat) : Int) (by omega) [(5, .int (iI ((t + 1 : Nat) : Int))), (0, .ref x), (1, .int (iI ((p : Nat) : Int))), (2, .int (iI wh)), (3, .int (iI lo)), (4, .int (iI hi))] dX4_firstDay_50 hl rfl (by decide) rfl (fun ls hl => ?_)
          refine lv_goto (tgt := 14) hx hb dX4_firstDay_53 (by decide) ?_
          exact ih (t + 1) T11 b12 _ _ _ (by omega) (by rw [← hr, fd_n (fdB_f (by omega)), hp4]) (by rw [hp4, show B + ((t + 1 : Nat) : Int) = B + (t : Int) + 1 by omega]; exact (dyF_I hi0).1) (by rw [hp4, (dyF_I hi0).2.1]; exact h0) hP hD hS (lv_sub hl [1, 2, 3, 4, 5, 0] rfl)
        · refine lv_iload hx hb dX4_firstDay_39 (lv_at hl 5 rfl) ?_
          exact kend (Vt, bt, F, (t : Int)) hP hS rfl (by rw [← hr, fd_t (fdB_t (by omega)), if_pos (by omega)]) dX4_firstDay_41
  exact L14 101 0 T bv _ _ _ (by omega) rfl (by simpa using hI) rfl hP hD hS (lv_sub hl [1, 2, 3, 4, 5, 0] rfl)
theorem ykSX4_canBecome : yX4_canBecome.cls ≠ "java/lang/invoke/MethodHandle" ∧ yX4_canBecome.cls ≠ "java/lang/invoke/VarHandle" ∧ (parseMethodDescriptor yX4_canBecome.desc).map (fun d => d.parameters.length) = some 3 := by decide +kernel
theorem ykVX4_canBecome : yX4_canBecome.cls = RX4 ∧ yX4_canBecome.cls ≠ "java/lang/invoke/MethodHandle" ∧ yX4_canBecome.cls ≠ "java/lang/invoke/VarHandle" ∧ (parseMethodDescriptor yX4_canBecome.desc).map (fun d => d.parameters.length) = some 3 := ⟨rfl, ykSX4_canBecome⟩
set_option maxRecDepth 20000 in
theorem iT_X4_canBecome_X4 : ∀ w ∈ u_ws RX4 TX4 7, w ∈ wsX4_canBecome := by decide +kernel
set_option maxHeartbeats 4000000 in
set_option maxRecDepth 100000 in
theorem kX4_canBecome {l : Launch} {D : va_G} {cI cB : ClassId} (x : Nat) (f : Nat) (q : Nat → Nat) (kq : Nat → Nat) (vq : Nat → Nat) (h : Nat → Nat) (g : Nat → Nat) (ik : Int) (T : Tb) (b : Int) (sp : Int) (wh : Int) (v : Int) (hs : rI sp) (hw : rI wh) (hv : rI v) (hn : 0 ≤ T 0 ∧ T 0 ≤ 8) : Ct l yX4_canBecome wsX4_canBecome 2 42 D [(cI, .int), (cB, .byte)] [.ref x, .int (iI sp), .int (iI wh), .int (iI v)] (wObj x f q kq vq h g ik ++ (wTab cI q T b)) (S := Unit) (fun _ => some (.int (iI (b2 (decide (mayB T sp wh v = true)))))) (fun _ => True) (fun _ => wObj x f q kq vq h g ik ++ (wTab cI q T b)) := by
  refine CtZ.of (cc := cX4_canBecome) (maxL := 4) (by decide +kernel) rfl (Nat.le_of_ble_eq_true rfl) ?_
  intro pg e s m args below meth c Q A hx hb hml hts hown hP hK hD hS ls hl kend
  have hown : s.vm.findClass RX4 = some m.cls := hown
  have hl : lv_has ls 4 [(0, .ref x), (1, .int (iI sp)), (2, .int (iI wh)), (3, .int (iI v))] := hl
  refine lv_iload_n hx hb dX4_canBecome_0 rfl (lv_at hl 2 rfl) ?_
  rcases x_sw wh 0 3 with c_1 | c_1
  · refine lv_tableOut (tgt := 80) hx hb dX4_canBecome_1 (by rw [iI_to (by omega)]; exact c_1) (by decide) ?_
    refine x_iconst hx hb dX4_canBecome_80 ?_
    exact kend () hP hS (an_i (b2_f (by rw [mayB_i]; omega)).symm) trivial (by decide) dX4_canBecome_81
  · obtain ⟨c_1a, c_1b⟩ := c_1
    by_cases e_1 : wh = 0
    · refine lv_tableIn (off := 31) (tgt := 32) hx hb dX4_canBecome_1 (by rw [iI_to (by omega)]; omega) (by rw [iI_to (by omega)]; omega) (by rw [iI_to (by omega), e_1]; rfl) (by decide) ?_
      refine lv_iload_n hx hb dX4_canBecome_32 rfl (lv_at hl 3 rfl) ?_
      refine x_callS (As := [.int (iI v)]) (rest := []) ⟨hx, hb, hml, hown, hts⟩ (kX4_isKind v (by omega)) (va_cwS 1 hts gX4_canBecome_X4_isKind rfl rfl rfl ykSX4_isKind ⟨Nat.le_of_ble_eq_true rfl, Nat.le_of_ble_eq_true rfl⟩) hP hK hD hS [] rfl (by decide) (fun _ => rfl) (fun _ => wObj x f q kq vq h g ik ++ (wTab cI q T b)) (fun _ => rfl) rfl hl.1 rfl (Nat.le_of_ble_eq_true rfl) dX4_canBecome_33 ⟨Nat.le_of_ble_eq_true rfl, Nat.le_of_ble_eq_true rfl⟩ (fun _ H locs _ hP hD hS => ?_)
      refine W.eq (g2 := F0 m 36 ls [.int (iI (b2 (decide (0 ≤ v ∧ v ≤ 6))))]) rfl ?_
      exact kend () hP hS (an_i (b2_c (by rw [mayB_i]; omega))) trivial (b2_01 _) dX4_canBecome_36
    by_cases e_1 : wh = 1
    · refine lv_tableIn (off := 36) (tgt := 37) hx hb dX4_canBecome_1 (by rw [iI_to (by omega)]; omega) (by rw [iI_to (by omega)]; omega) (by rw [iI_to (by omega), e_1]; rfl) (by decide) ?_
      refine lv_iload_n hx hb dX4_canBecome_37 rfl (lv_at hl 3 rfl) ?_
      refine x_iconst hx hb dX4_canBecome_38 ?_
      refine x_icmp_eq (tgt := 58) hx hb (by omega) (by decide) dX4_canBecome_39 (by decide) (fun c_39 => ?_) (fun c_39 => ?_)
      · refine x_iconst hx hb dX4_canBecome_58 ?_
        refine lv_goto (tgt := 63) hx hb dX4_canBecome_59 (by decide) ?_
        exact kend () hP hS (an_i (b2_t (by rw [mayB_i]; omega)).symm) trivial (by decide) dX4_canBecome_63
      · refine lv_aload_n hx hb dX4_canBecome_42 rfl (lv_at hl 0 rfl) ?_
        refine va_get (D := D) (ci := 3) (v := .ref (q 0)) (C := RX4) (T := TX4) (N := 7) hx hb hts (iT_X4_canBecome_X4) hown hK hP 0 rfl rfl 0 (by decide) (hts (.fieldLink RX4 10 "WordSupper" "table" "LWordSupper$Table;") (by decide +kernel)) (fun _ h9 => h9) rfl dX4_canBecome_43 ?_
        refine lv_iload_n hx hb dX4_canBecome_46 rfl (lv_at hl 3 rfl) ?_
        refine x_callV (As := [.int (iI v)]) (rest := []) ⟨hx, hb, hml, hown, hts⟩ (kX2_isSeat q T b v (by omega) (by omega)) (cwV 1 hts gX4_canBecome_X2_isSeat rfl rfl rfl ykVX2_isSeat ⟨Nat.le_of_ble_eq_true rfl, Nat.le_of_ble_eq_true rfl⟩) hP hK hD hS 1 1 rfl rfl rfl [1, 2, 3, 4, 5, 6, 7, 8] rfl (by decide) (fun _ => rfl) (fun _ => wObj x f q kq vq h g ik ++ (wTab cI q T b)) (fun _ => rfl) rfl hl.1 rfl (Nat.le_of_ble_eq_true rfl) dX4_canBecome_47 ⟨Nat.le_of_ble_eq_true rfl, Nat.le_of_ble_eq_true rfl⟩ (fun _ H locs _ hP hD hS => ?_)
        refine W.eq (g2 := F0 m 50 ls [.int (iI (b2 (decide (0 ≤ v ∧ v < T 0))))]) rfl ?_
        refine x_ifb_eq (tgt := 62) hx hb dX4_canBecome_50 (by decide) (fun c_50 => ?_) (fun c_50 => ?_)
        · refine x_iconst hx hb dX4_canBecome_62 ?_
          exact kend () hP hS (an_i (b2_f (by rw [mayB_i]; omega)).symm) trivial (by decide) dX4_canBecome_63
        · refine lv_iload_n hx hb dX4_canBecome_53 rfl (lv_at hl 3 rfl) ?_
          refine lv_iload_n hx hb dX4_canBecome_54 rfl (lv_at hl 1 rfl) ?_
          refine x_icmp_eq (tgt := 62) hx hb (by omega) (by omega) dX4_canBecome_55 (by decide) (fun c_55 => ?_) (fun c_55 => ?_)
          · refine x_iconst hx hb dX4_canBecome_62 ?_
            exact kend () hP hS (an_i (b2_f (by rw [mayB_i]; omega)).symm) trivial (by decide) dX4_canBecome_63
          · refine x_iconst hx hb dX4_canBecome_58 ?_
            refine lv_goto (tgt := 63) hx hb dX4_canBecome_59 (by decide) ?_
            exact kend () hP hS (an_i (b2_t (by rw [mayB_i]; omega)).symm) trivial (by decide) dX4_canBecome_63
    by_cases e_1 : wh = 2
    · refine lv_tableIn (off := 63) (tgt := 64) hx hb dX4_canBecome_1 (by rw [iI_to (by omega)]; omega) (by rw [iI_to (by omega)]; omega) (by rw [iI_to (by omega), e_1]; rfl) (by decide) ?_
      refine lv_iload_n hx hb dX4_canBecome_64 rfl (lv_at hl 3 rfl) ?_
      refine x_iconst hx hb dX4_canBecome_65 ?_
      refine x_bipush hx hb dX4_canBecome_66 (by decide) ?_
      refine x_callS (As := [.int (iI v), .int (iI 0), .int (iI 99)]) (rest := []) ⟨hx, hb, hml, hown, hts⟩ (kX4_isWithin v 0 99 (by omega) (by decide) (by decide)) (va_cwS 3 hts gX4_canBecome_X4_isWithin rfl rfl rfl ykSX4_isWithin ⟨Nat.le_of_ble_eq_true rfl, Nat.le_of_ble_eq_true rfl⟩) hP hK hD hS [] rfl (by decide) (fun _ => rfl) (fun _ => wObj x f q kq vq h g ik ++ (wTab cI q T b)) (fun _ => rfl) rfl hl.1 rfl (Nat.le_of_ble_eq_true rfl) dX4_canBecome_68 ⟨Nat.le_of_ble_eq_true rfl, Nat.le_of_ble_eq_true rfl⟩ (fun _ H locs _ hP hD hS => ?_)
      refine W.eq (g2 := F0 m 71 ls [.int (iI (b2 (decide (0 ≤ v ∧ v ≤ 99))))]) rfl ?_
      exact kend () hP hS (an_i (b2_c (by rw [mayB_i]; omega))) trivial (b2_01 _) dX4_canBecome_71
    have e_1 : wh = 3 := by omega
    refine lv_tableIn (off := 71) (tgt := 72) hx hb dX4_canBecome_1 (by rw [iI_to (by omega)]; omega) (by rw [iI_to (by omega)]; omega) (by rw [iI_to (by omega), e_1]; rfl) (by decide) ?_
    refine lv_iload_n hx hb dX4_canBecome_72 rfl (lv_at hl 3 rfl) ?_
    refine x_iconst hx hb dX4_canBecome_73 ?_
    refine x_ldc hx hb 99999 rfl hown (hts (.constant RX4 97 (99999)) (by decide +kernel)) dX4_canBecome_74 ?_
    refine x_callS (As := [.int (iI v), .int (iI 0), .int (iI 99999)]) (rest := []) ⟨hx, hb, hml, hown, hts⟩ (kX4_isWithin v 0 99999 (by omega) (by decide) (by decide)) (va_cwS 3 hts gX4_canBecome_X4_isWithin rfl rfl rfl ykSX4_isWithin ⟨Nat.le_of_ble_eq_true rfl, Nat.le_of_ble_eq_true rfl⟩) hP hK hD hS [] rfl (by decide) (fun _ => rfl) (fun _ => wObj x f q kq vq h g ik ++ (wTab cI q T b)) (fun _ => rfl) rfl hl.1 rfl (Nat.le_of_ble_eq_true rfl) dX4_canBecome_76 ⟨Nat.le_of_ble_eq_true rfl, Nat.le_of_ble_eq_true rfl⟩ (fun _ H locs _ hP hD hS => ?_)
    refine W.eq (g2 := F0 m 79 ls [.int (iI (b2 (decide (0 ≤ v ∧ v ≤ 99999))))]) rfl ?_
    exact kend () hP hS (an_i (b2_c (by rw [mayB_i]; omega))) trivial (b2_01 _) dX4_canBecome_79
theorem ykSX4_lowest : yX4_lowest.cls ≠ "java/lang/invoke/MethodHandle" ∧ yX4_lowest.cls ≠ "java/lang/invoke/VarHandle" ∧ (parseMethodDescriptor yX4_lowest.desc).map (fun d => d.parameters.length) = some 2 := by decide +kernel
theorem ykVX4_lowest : yX4_lowest.cls = RX4 ∧ yX4_lowest.cls ≠ "java/lang/invoke/MethodHandle" ∧ yX4_lowest.cls ≠ "java/lang/invoke/VarHandle" ∧ (parseMethodDescriptor yX4_lowest.desc).map (fun d => d.parameters.length) = some 2 := ⟨rfl, ykSX4_lowest⟩
set_option maxHeartbeats 4000000 in
set_option maxRecDepth 100000 in
theorem kX4_lowest {l : Launch} {D : va_G} {cI cB : ClassId} (a : Int) (b0 : Int) (ha : 0 ≤ a ∧ a ≤ 6) (hb0 : 0 ≤ b0 ∧ b0 ≤ 6) : Ct l yX4_lowest wsX4_lowest 0 0 D [(cI, .int), (cB, .byte)] [.int (iI a), .int (iI b0)] (([] : va_W)) (S := Unit) (fun _ => some (.int (iI (loF a b0 6)))) (fun _ => True) (fun _ => ([] : va_W)) := by
  refine CtI.of (cc := cX4_lowest) (maxL := 3) (by decide +kernel) rfl (Nat.le_of_ble_eq_true rfl) ?_
  intro pg e s m args below meth c Q A hx hb hml hts hown hP hK hD hS ls hl kend
  have hown : s.vm.findClass RX4 = some m.cls := hown
  have hl : lv_has ls 3 [(0, .int (iI a)), (1, .int (iI b0))] := hl
  refine x_bipush hx hb dX4_lowest_0 (by decide) ?_
  refine lv_istore_n (lv' := [(2, .int (iI 6)), (0, .int (iI a)), (1, .int (iI b0))]) hx hb dX4_lowest_2 rfl hl (by decide) rfl (fun ls hl => ?_)
  have L3 : ∀ (k t : Nat) (H : Heap) (locs : List Loc) (ls : Array Slot), t + k = 6 → (loF a b0 k = loF a b0 6) → va_P D vwCl (([] : va_W)) H → va_D A (([] : va_W)) → va_S A s.heap H locs → lv_has ls 3 [(0, .int (iI a)), (1, .int (iI b0)), (2, .int (iI ((k : Nat) : Int)))] → W pg l e { frames := 0, cells := 0, slots := 0, locals := 0 } s m args below meth c H locs 0 0 Q (F0 m 3 ls []) := by
    intro k
    induction k with
    | zero =>
      intro t H locs ls hkt hr hP hD hS hl
      refine lv_iload_n hx hb dX4_lowest_3 rfl (lv_at hl 2 rfl) ?_
      refine x_iconst hx hb dX4_lowest_4 ?_
      refine x_icmp_le (tgt := 30) hx hb (by omega) (by decide) dX4_lowest_5 (by decide) (fun c_5 => ?_) (fun c_5 => ?_)
      · refine lv_iload_n hx hb dX4_lowest_30 rfl (lv_at hl 0 rfl) ?_
        exact kend () hP hS (an_i (hr)) trivial dX4_lowest_31
      · exfalso; omega
    | succ k ih =>
      intro t H locs ls hkt hr hP hD hS hl
      refine lv_iload_n hx hb dX4_lowest_3 rfl (lv_at hl 2 rfl) ?_
      refine x_iconst hx hb dX4_lowest_4 ?_
      refine x_icmp_le (tgt := 30) hx hb (by omega) (by decide) dX4_lowest_5 (by decide) (fun c_5 => ?_) (fun c_5 => ?_)
      · refine lv_iload_n hx hb dX4_lowest_30 rfl (lv_at hl 0 rfl) ?_
        exact kend () hP hS (an_i ((by rw [← hr, loF, if_neg (by omega)]; obtain rfl : k = 0 := (by omega); rfl))) trivial dX4_lowest_31
      · have q1 := Int.emod_nonneg a (show ((k + 1 : Nat) : Int) ≠ 0 by omega)
        have q2 := Int.emod_lt_of_pos a (show 0 < ((k + 1 : Nat) : Int) by omega)
        have q3 := Int.emod_nonneg b0 (show ((k + 1 : Nat) : Int) ≠ 0 by omega)
        have q4 := Int.emod_lt_of_pos b0 (show 0 < ((k + 1 : Nat) : Int) by omega)
        refine lv_iload_n hx hb dX4_lowest_8 rfl (lv_at hl 0 rfl) ?_
        refine lv_iload_n hx hb dX4_lowest_9 rfl (lv_at hl 2 rfl) ?_
        refine x_irem hx hb (by omega) (by omega) (by omega) (by omega) dX4_lowest_10 ?_
        refine x_if_ne (tgt := 24) hx hb (by omega) dX4_lowest_11 (by decide) (fun c_11 => ?_) (fun c_11 => ?_)
        · refine x_iinc hx hb 2 ((k : Nat) : Int) (by omega) [(2, .int (iI ((k : Nat) : Int))), (0, .int (iI a)), (1, .int (iI b0))] dX4_lowest_24 hl rfl (by decide) rfl (fun ls hl => ?_)
          refine lv_goto (tgt := 3) hx hb dX4_lowest_27 (by decide) ?_
          exact ih (t + 1) _ _ _ (by omega) (by rw [← hr, loF, if_neg (by omega)]) hP hD hS (lv_sub hl [1, 2, 0] rfl)
        · refine lv_iload_n hx hb dX4_lowest_14 rfl (lv_at hl 1 rfl) ?_
          refine lv_iload_n hx hb dX4_lowest_15 rfl (lv_at hl 2 rfl) ?_
          refine x_irem hx hb (by omega) (by omega) (by omega) (by omega) dX4_lowest_16 ?_
          refine x_if_ne (tgt := 24) hx hb (by omega) dX4_lowest_17 (by decide) (fun c_17 => ?_) (fun c_17 => ?_)
          · refine x_iinc hx hb 2 ((k : Nat) : Int) (by omega) [(2, .int (iI ((k : Nat) : Int))), (0, .int (iI a)), (1, .int (iI b0))] dX4_lowest_24 hl rfl (by decide) rfl (fun ls hl => ?_)
            refine lv_goto (tgt := 3) hx hb dX4_lowest_27 (by decide) ?_
            exact ih (t + 1) _ _ _ (by omega) (by rw [← hr, loF, if_neg (by omega)]) hP hD hS (lv_sub hl [1, 2, 0] rfl)
          · refine lv_iload_n hx hb dX4_lowest_20 rfl (lv_at hl 0 rfl) ?_
            refine lv_iload_n hx hb dX4_lowest_21 rfl (lv_at hl 2 rfl) ?_
            refine x_idiv hx hb (by omega) (by omega) (by omega) (by omega) dX4_lowest_22 ?_
            exact kend () hP hS (an_i ((by rw [← hr, loF, if_pos ⟨by omega, by omega, by omega⟩]))) trivial dX4_lowest_23
  exact L3 6 0 _ _ _ (by omega) rfl hP hD hS (lv_sub hl [1, 2, 0] rfl)
theorem ykSX4_power : yX4_power.cls ≠ "java/lang/invoke/MethodHandle" ∧ yX4_power.cls ≠ "java/lang/invoke/VarHandle" ∧ (parseMethodDescriptor yX4_power.desc).map (fun d => d.parameters.length) = some 2 := by decide +kernel
theorem ykVX4_power : yX4_power.cls = RX4 ∧ yX4_power.cls ≠ "java/lang/invoke/MethodHandle" ∧ yX4_power.cls ≠ "java/lang/invoke/VarHandle" ∧ (parseMethodDescriptor yX4_power.desc).map (fun d => d.parameters.length) = some 2 := ⟨rfl, ykSX4_power⟩
set_option maxHeartbeats 4000000 in
set_option maxRecDepth 100000 in
theorem kX4_power {l : Launch} {D : va_G} {cI cB : ClassId} (a : Int) (n : Nat) (hn : n ≤ 1000) : Ct l yX4_power wsX4_power 0 0 D [(cI, .int), (cB, .byte)] [.long (lI a), .int (iI ((n : Nat) : Int))] (([] : va_W)) (S := Unit) (fun _ => some (.long (lI (pwF a n)))) (fun _ => True) (fun _ => ([] : va_W)) := by
  refine CtL.of (cc := cX4_power) (maxL := 6) (by decide +kernel) rfl (Nat.le_of_ble_eq_true rfl) ?_
  intro pg e s m args below meth c Q A hx hb hml hts hown hP hK hD hS ls hl kend
  have hown : s.vm.findClass RX4 = some m.cls := hown
  have hl : lv_has ls 6 [(0, .long (lI a)), (2, .int (iI ((n : Nat) : Int)))] := hl
  refine x_lconst hx hb 1 rfl dX4_power_0 ?_
  refine lv_lstore_n (lv' := [(3, .long (lI 1)), (0, .long (lI a)), (2, .int (iI ((n : Nat) : Int)))]) hx hb dX4_power_1 rfl hl (by decide) rfl (fun ls hl => ?_)
  refine x_iconst hx hb dX4_power_2 ?_
  refine lv_istore (lv' := [(5, .int (iI 0)), (3, .long (lI 1)), (0, .long (lI a)), (2, .int (iI ((n : Nat) : Int)))]) hx hb dX4_power_3 hl (by decide) rfl (fun ls hl => ?_)
  have L5 : ∀ (k t : Nat) (zv : Int) (H : Heap) (locs : List Loc) (ls : Array Slot), t + k = n → (run (fun _ z => z * a) k t zv = pwF a n) → va_P D vwCl (([] : va_W)) H → va_D A (([] : va_W)) → va_S A s.heap H locs → lv_has ls 6 [(0, .long (lI a)), (2, .int (iI ((n : Nat) : Int))), (3, .long (lI zv)), (5, .int (iI ((t : Nat) : Int)))] → W pg l e { frames := 0, cells := 0, slots := 0, locals := 0 } s m args below meth c H locs 0 0 Q (F0 m 5 ls []) := by
    intro k
    induction k with
    | zero =>
      intro t zv H locs ls hkt hr hP hD hS hl
      refine lv_iload hx hb dX4_power_5 (lv_at hl 3 rfl) ?_
      refine lv_iload_n hx hb dX4_power_7 rfl (lv_at hl 1 rfl) ?_
      refine x_icmp_ge (tgt := 21) hx hb (by omega) (by omega) dX4_power_8 (by decide) (fun c_8 => ?_) (fun c_8 => ?_)
      · refine lv_lload_n hx hb dX4_power_21 rfl (lv_at hl 2 rfl) ?_
        exact kend () hP hS (an_l (hr)) trivial dX4_power_22
      · exfalso; omega
    | succ k ih =>
      intro t zv H locs ls hkt hr hP hD hS hl
      refine lv_iload hx hb dX4_power_5 (lv_at hl 3 rfl) ?_
      refine lv_iload_n hx hb dX4_power_7 rfl (lv_at hl 1 rfl) ?_
      refine x_icmp_ge (tgt := 21) hx hb (by omega) (by omega) dX4_power_8 (by decide) (fun c_8 => ?_) (fun c_8 => ?_)
      · exfalso; omega
      · refine lv_lload_n hx hb dX4_power_11 rfl (lv_at hl 2 rfl) ?_
        refine lv_lload_n hx hb dX4_power_12 rfl (lv_at hl 0 rfl) ?_
        refine x_lmul hx hb dX4_power_13 ?_
        refine lv_lstore_n (lv' := [(3, .long (lI (zv * a))), (0, .long (lI a)), (2, .int (iI ((n : Nat) : Int))), (5, .int (iI ((t : Nat) : Int)))]) hx hb dX4_power_14 rfl hl (by decide) rfl (fun ls hl => ?_)
        refine x_iinc hx hb 3 ((t + 1 : Nat) : Int) (by omega) [(5, .int (iI ((t + 1 : Nat) : Int))), (3, .long (lI (zv * a))), (0, .long (lI a)), (2, .int (iI ((n : Nat) : Int)))] dX4_power_15 hl rfl (by decide) rfl (fun ls hl => ?_)
        refine lv_goto (tgt := 5) hx hb dX4_power_18 (by decide) ?_
        exact ih (t + 1) (zv * a) _ _ _ (by omega) hr hP hD hS (lv_sub hl [2, 3, 1, 0] rfl)
  exact L5 n 0 1 _ _ _ (by omega) rfl hP hD hS (lv_sub hl [2, 3, 1, 0] rfl)
theorem ykSX4_isAsTold : yX4_isAsTold.cls ≠ "java/lang/invoke/MethodHandle" ∧ yX4_isAsTold.cls ≠ "java/lang/invoke/VarHandle" ∧ (parseMethodDescriptor yX4_isAsTold.desc).map (fun d => d.parameters.length) = some 2 := by decide +kernel
theorem ykVX4_isAsTold : yX4_isAsTold.cls = RX4 ∧ yX4_isAsTold.cls ≠ "java/lang/invoke/MethodHandle" ∧ yX4_isAsTold.cls ≠ "java/lang/invoke/VarHandle" ∧ (parseMethodDescriptor yX4_isAsTold.desc).map (fun d => d.parameters.length) = some 2 := ⟨rfl, ykSX4_isAsTold⟩
set_option maxRecDepth 20000 in
theorem iT_X4_isAsTold_X4 : ∀ w ∈ u_ws RX4 TX4 7, w ∈ wsX4_isAsTold := by decide +kernel
set_option maxRecDepth 20000 in
theorem iT_X4_isAsTold_X1 : ∀ w ∈ u_ws RX1 TX1 3, w ∈ wsX4_isAsTold := by decide +kernel
set_option maxHeartbeats 4000000 in
set_option maxRecDepth 100000 in
theorem kX4_isAsTold {l : Launch} {D : va_G} {cI cB : ClassId} (x : Nat) (f : Nat) (q : Nat → Nat) (kq : Nat → Nat) (vq : Nat → Nat) (h : Nat → Nat) (g : Nat → Nat) (ik : Int) (V : Tb) (bv : Int) (SB : Nat → Int) (SS : Nat → Int) (SN : Nat → Int) (s0 : Nat) (p : Nat) (B : Int) (hI : Inv B V) (hB : B ≤ 90000) (hp : (p : Int) < V 0) (hs : s0 < 4) (hSS : ∀ i : Nat, i < 4 → 0 ≤ SS i ∧ SS i ≤ 40) (hSN : ∀ i : Nat, i < 160 → rI (SN i)) : Ct l yX4_isAsTold wsX4_isAsTold 5 114 D [(cI, .int), (cB, .byte)] [.ref x, .int (iI ((s0 : Nat) : Int)), .int (iI ((p : Nat) : Int))] (wObj x f q kq vq h g ik ++ (wTab cI vq V bv ++ (wSh cI h SB SS SN))) (S := Tb × Int) (fun u => some (.int (iI (b2 (decide (toF SN (40 * s0) p (SS s0).toNat 0 V = true)))))) (fun u => True) (fun u => wObj x f q kq vq h g ik ++ (wTab cI vq u.1 u.2 ++ (wSh cI h SB SS SN))) := by
  refine CtZ.of (cc := cX4_isAsTold) (maxL := 5) (by decide +kernel) rfl (Nat.le_of_ble_eq_true rfl) ?_
  intro pg e s m args below meth c Q A hx hb hml hts hown hP hK hD hS ls hl kend
  have hown : s.vm.findClass RX4 = some m.cls := hown
  have hl : lv_has ls 5 [(0, .ref x), (1, .int (iI ((s0 : Nat) : Int))), (2, .int (iI ((p : Nat) : Int)))] := hl
  have hz := hSS s0 hs
  have hn9 := Inv_n hI
  refine x_iconst hx hb dX4_isAsTold_0 ?_
  refine lv_istore_n (lv' := [(3, .int (iI 0)), (0, .ref x), (1, .int (iI ((s0 : Nat) : Int))), (2, .int (iI ((p : Nat) : Int)))]) hx hb dX4_isAsTold_1 rfl hl (by decide) rfl (fun ls hl => ?_)
  have L2 : ∀ (k t : Nat) (Vt : Tb) (bt : Int) (H : Heap) (locs : List Loc) (ls : Array Slot), t + k = (SS s0).toNat → (toF SN (40 * s0) p k t (if t = 0 then Vt else dyF 0 Vt) = toF SN (40 * s0) p (SS s0).toNat 0 V) → (Inv (B + (t : Int)) Vt) → (Vt 0 = V 0) → va_P D vwCl (wObj x f q kq vq h g ik ++ (wTab cI vq Vt bt ++ (wSh cI h SB SS SN))) H → va_D A (wObj x f q kq vq h g ik ++ (wTab cI vq Vt bt ++ (wSh cI h SB SS SN))) → va_S A s.heap H locs → lv_has ls 5 [(0, .ref x), (1, .int (iI ((s0 : Nat) : Int))), (2, .int (iI ((p : Nat) : Int))), (3, .int (iI ((t : Nat) : Int)))] → W pg l e { frames := 5, cells := 0, slots := 0, locals := 114 } s m args below meth c H locs 0 0 Q (F0 m 2 ls []) := by
    intro k
    induction k with
    | zero =>
      intro t Vt bt H locs ls hkt hr hi0 h0 hP hD hS hl
      refine lv_iload_n hx hb dX4_isAsTold_2 rfl (lv_at hl 3 rfl) ?_
      refine lv_aload_n hx hb dX4_isAsTold_3 rfl (lv_at hl 0 rfl) ?_
      refine va_get (D := D) (ci := 3) (v := .ref (h 0)) (C := RX4) (T := TX4) (N := 7) hx hb hts (iT_X4_isAsTold_X4) hown hK hP 0 rfl rfl 3 (by decide) (hts (.fieldLink RX4 25 "WordSupper" "sheets" "LWordSupper$Sheets;") (by decide +kernel)) (fun _ h9 => h9) rfl dX4_isAsTold_4 ?_
      refine va_get (D := D) (ci := 0) (v := .ref (h 2)) (C := RX1) (T := TX1) (N := 3) hx hb hts (iT_X4_isAsTold_X1) hown hK hP 9 rfl rfl 1 (by decide) (hts (.fieldLink RX4 180 "WordSupper$Sheets" "size" "[I") (by decide +kernel)) (fun _ h9 => h9) rfl dX4_isAsTold_7 ?_
      refine lv_iload_n hx hb dX4_isAsTold_10 rfl (lv_at hl 1 rfl) ?_
      refine x_iald hx hb hK hP 11 0 rfl rfl s0 rfl (by omega) (by decide) (SS s0) (gd_at _ (by omega)) dX4_isAsTold_11 ?_
      refine x_icmp_ge (tgt := 65) hx hb (by omega) (by omega) dX4_isAsTold_12 (by decide) (fun c_12 => ?_) (fun c_12 => ?_)
      · refine x_iconst hx hb dX4_isAsTold_65 ?_
        exact kend (Vt, bt) hP hS (an_i (b2_t (by rw [← hr]; rfl)).symm) trivial (by decide) dX4_isAsTold_66
      · exfalso; omega
    | succ k ih =>
      intro t Vt bt H locs ls hkt hr hi0 h0 hP hD hS hl
      refine lv_iload_n hx hb dX4_isAsTold_2 rfl (lv_at hl 3 rfl) ?_
      refine lv_aload_n hx hb dX4_isAsTold_3 rfl (lv_at hl 0 rfl) ?_
      refine va_get (D := D) (ci := 3) (v := .ref (h 0)) (C := RX4) (T := TX4) (N := 7) hx hb hts (iT_X4_isAsTold_X4) hown hK hP 0 rfl rfl 3 (by decide) (hts (.fieldLink RX4 25 "WordSupper" "sheets" "LWordSupper$Sheets;") (by decide +kernel)) (fun _ h9 => h9) rfl dX4_isAsTold_4 ?_
      refine va_get (D := D) (ci := 0) (v := .ref (h 2)) (C := RX1) (T := TX1) (N := 3) hx hb hts (iT_X4_isAsTold_X1) hown hK hP 9 rfl rfl 1 (by decide) (hts (.fieldLink RX4 180 "WordSupper$Sheets" "size" "[I") (by decide +kernel)) (fun _ h9 => h9) rfl dX4_isAsTold_7 ?_
      refine lv_iload_n hx hb dX4_isAsTold_10 rfl (lv_at hl 1 rfl) ?_
      refine x_iald hx hb hK hP 11 0 rfl rfl s0 rfl (by omega) (by decide) (SS s0) (gd_at _ (by omega)) dX4_isAsTold_11 ?_
      refine x_icmp_ge (tgt := 65) hx hb (by omega) (by omega) dX4_isAsTold_12 (by decide) (fun c_12 => ?_) (fun c_12 => ?_)
      · exfalso; omega
      · refine lv_iload_n hx hb dX4_isAsTold_15 rfl (lv_at hl 3 rfl) ?_
        refine x_if_le (tgt := 27) hx hb (by omega) dX4_isAsTold_16 (by decide) (fun c_16 => ?_) (fun c_16 => ?_)
        · have e_W : (if t = 0 then Vt else dyF 0 Vt) = Vt := if_pos (by omega)
          rw [e_W] at hr
          have hw2 : Inv (B + (t : Int)) Vt := hi0
          have hw0 : Vt 0 = V 0 := h0
          refine lv_aload_n hx hb dX4_isAsTold_27 rfl (lv_at hl 0 rfl) ?_
          refine va_get (D := D) (ci := 3) (v := .ref (h 0)) (C := RX4) (T := TX4) (N := 7) hx hb hts (iT_X4_isAsTold_X4) hown hK hP 0 rfl rfl 3 (by decide) (hts (.fieldLink RX4 25 "WordSupper" "sheets" "LWordSupper$Sheets;") (by decide +kernel)) (fun _ h9 => h9) rfl dX4_isAsTold_28 ?_
          refine lv_iload_n hx hb dX4_isAsTold_31 rfl (lv_at hl 1 rfl) ?_
          refine lv_iload_n hx hb dX4_isAsTold_32 rfl (lv_at hl 3 rfl) ?_
          refine x_callV (As := [.int (iI ((s0 : Nat) : Int)), .int (iI ((t : Nat) : Int))]) (rest := []) ⟨hx, hb, hml, hown, hts⟩ (kX1_number h SB SS SN s0 t (by omega) (by omega)) (cwV 2 hts gX4_isAsTold_X1_number rfl rfl rfl ykVX1_number ⟨Nat.le_of_ble_eq_true rfl, Nat.le_of_ble_eq_true rfl⟩) hP hK hD hS 9 0 rfl rfl rfl [9, 10, 11, 12] rfl (by decide) (fun _ => rfl) (fun _ => wObj x f q kq vq h g ik ++ (wTab cI vq Vt bt ++ (wSh cI h SB SS SN))) (fun _ => rfl) rfl hl.1 rfl (Nat.le_of_ble_eq_true rfl) dX4_isAsTold_33 ⟨Nat.le_of_ble_eq_true rfl, Nat.le_of_ble_eq_true rfl⟩ (fun _ H locs _ hP hD hS => ?_)
          refine W.eq (g2 := F0 m 36 ls [.int (iI (SN (40 * s0 + t)))]) rfl ?_
          refine lv_istore (lv' := [(4, .int (iI (SN (40 * s0 + t)))), (0, .ref x), (1, .int (iI ((s0 : Nat) : Int))), (2, .int (iI ((p : Nat) : Int))), (3, .int (iI ((t : Nat) : Int)))]) hx hb dX4_isAsTold_36 hl (by decide) rfl (fun ls hl => ?_)
          have hq1 := hSN (40 * s0 + t) (by omega)
          refine lv_iload hx hb dX4_isAsTold_38 (lv_at hl 0 rfl) ?_
          refine x_iconst hx hb dX4_isAsTold_40 ?_
          refine x_icmp_eq (tgt := 59) hx hb (by omega) (by decide) dX4_isAsTold_41 (by decide) (fun c_41 => ?_) (fun c_41 => ?_)
          · refine x_iinc hx hb 4 ((t + 1 : Nat) : Int) (by omega) [(3, .int (iI ((t + 1 : Nat) : Int))), (4, .int (iI (SN (40 * s0 + t)))), (0, .ref x), (1, .int (iI ((s0 : Nat) : Int))), (2, .int (iI ((p : Nat) : Int)))] dX4_isAsTold_59 hl rfl (by decide) rfl (fun ls hl => ?_)
            refine lv_goto (tgt := 2) hx hb dX4_isAsTold_62 (by decide) ?_
            exact ih (t + 1) Vt bt _ _ _ (by omega) (by rw [if_neg (by omega), ← hr, toF, if_pos (by omega)]) (Inv_mono hw2 (by omega)) hw0 hP hD hS (lv_sub hl [2, 3, 4, 0] rfl)
          · refine lv_iload hx hb dX4_isAsTold_44 (lv_at hl 0 rfl) ?_
            refine lv_aload_n hx hb dX4_isAsTold_46 rfl (lv_at hl 1 rfl) ?_
            refine va_get (D := D) (ci := 3) (v := .ref (vq 0)) (C := RX4) (T := TX4) (N := 7) hx hb hts (iT_X4_isAsTold_X4) hown hK hP 0 rfl rfl 2 (by decide) (hts (.fieldLink RX4 19 "WordSupper" "spare" "LWordSupper$Table;") (by decide +kernel)) (fun _ h9 => h9) rfl dX4_isAsTold_47 ?_
            refine lv_iload_n hx hb dX4_isAsTold_50 rfl (lv_at hl 3 rfl) ?_
            refine x_callV (As := [.int (iI ((p : Nat) : Int))]) (rest := [.int (iI (SN (40 * s0 + t)))]) ⟨hx, hb, hml, hown, hts⟩ (kX2_left vq Vt bt p (by omega)) (cwV 1 hts gX4_isAsTold_X2_left rfl rfl rfl ykVX2_left ⟨Nat.le_of_ble_eq_true rfl, Nat.le_of_ble_eq_true rfl⟩) hP hK hD hS 1 1 rfl rfl rfl [1, 2, 3, 4, 5, 6, 7, 8] rfl (by decide) (fun _ => rfl) (fun _ => wObj x f q kq vq h g ik ++ (wTab cI vq Vt bt ++ (wSh cI h SB SS SN))) (fun _ => rfl) rfl hl.1 rfl (Nat.le_of_ble_eq_true rfl) dX4_isAsTold_51 ⟨Nat.le_of_ble_eq_true rfl, Nat.le_of_ble_eq_true rfl⟩ (fun _ H locs _ hP hD hS => ?_)
            refine W.eq (g2 := F0 m 54 ls [.int (iI (lfF Vt p)), .int (iI (SN (40 * s0 + t)))]) rfl ?_
            have hq2 := Inv_lf (p := p) hw2 (by omega)
            refine x_icmp_eq (tgt := 59) hx hb (by omega) (by omega) dX4_isAsTold_54 (by decide) (fun c_54 => ?_) (fun c_54 => ?_)
            · refine x_iinc hx hb 4 ((t + 1 : Nat) : Int) (by omega) [(3, .int (iI ((t + 1 : Nat) : Int))), (4, .int (iI (SN (40 * s0 + t)))), (0, .ref x), (1, .int (iI ((s0 : Nat) : Int))), (2, .int (iI ((p : Nat) : Int)))] dX4_isAsTold_59 hl rfl (by decide) rfl (fun ls hl => ?_)
              refine lv_goto (tgt := 2) hx hb dX4_isAsTold_62 (by decide) ?_
              exact ih (t + 1) Vt bt _ _ _ (by omega) (by rw [if_neg (by omega), ← hr, toF, if_pos (by omega)]) (Inv_mono hw2 (by omega)) hw0 hP hD hS (lv_sub hl [2, 3, 4, 0] rfl)
            · refine x_iconst hx hb dX4_isAsTold_57 ?_
              exact kend (Vt, bt) hP hS (an_i (b2_f (by rw [← hr, toF, if_neg (by omega)]; exact Bool.false_ne_true)).symm) trivial (by decide) dX4_isAsTold_58
        · refine lv_aload_n hx hb dX4_isAsTold_19 rfl (lv_at hl 0 rfl) ?_
          refine va_get (D := D) (ci := 3) (v := .ref (vq 0)) (C := RX4) (T := TX4) (N := 7) hx hb hts (iT_X4_isAsTold_X4) hown hK hP 0 rfl rfl 2 (by decide) (hts (.fieldLink RX4 19 "WordSupper" "spare" "LWordSupper$Table;") (by decide +kernel)) (fun _ h9 => h9) rfl dX4_isAsTold_20 ?_
          refine x_iconst hx hb dX4_isAsTold_23 ?_
          refine x_callV (As := [.int (iI 0)]) (rest := []) ⟨hx, hb, hml, hown, hts⟩ (kX2_passDay vq Vt bt 0 (B + (t : Int)) hi0 (by omega) (by decide)) (cwV 1 hts gX4_isAsTold_X2_passDay rfl rfl rfl ykVX2_passDay ⟨Nat.le_of_ble_eq_true rfl, Nat.le_of_ble_eq_true rfl⟩) hP hK hD hS 1 1 rfl rfl rfl [1, 2, 3, 4, 5, 6, 7, 8] rfl (by decide) (fun _ => rfl) (fun u => wObj x f q kq vq h g ik ++ (wTab cI vq u.1 u.2 ++ (wSh cI h SB SS SN))) (fun _ => rfl) rfl hl.1 rfl (Nat.le_of_ble_eq_true rfl) dX4_isAsTold_24 ⟨Nat.le_of_ble_eq_true rfl, Nat.le_of_ble_eq_true rfl⟩ (fun u3 H locs hp4 hP hD hS => ?_)
          obtain ⟨T11, b12⟩ := u3
          replace hp4 : T11 = dyF 0 Vt := hp4
          have hP : va_P D vwCl (wObj x f q kq vq h g ik ++ (wTab cI vq T11 b12 ++ (wSh cI h SB SS SN))) H := hP
          have hD : va_D A (wObj x f q kq vq h g ik ++ (wTab cI vq T11 b12 ++ (wSh cI h SB SS SN))) := hD
          refine W.eq (g2 := F0 m 27 ls []) rfl ?_
          have e_W : (if t = 0 then Vt else dyF 0 Vt) = T11 := by rw [if_neg (by omega), hp4]
          rw [e_W] at hr
          have hw2 : Inv (B + (t : Int) + 1) T11 := by rw [hp4]; exact (dyF_I hi0).1
          have hw0 : T11 0 = V 0 := by rw [hp4, (dyF_I hi0).2.1]; exact h0
          refine lv_aload_n hx hb dX4_isAsTold_27 rfl (lv_at hl 0 rfl) ?_
          refine va_get (D := D) (ci := 3) (v := .ref (h 0)) (C := RX4) (T := TX4) (N := 7) hx hb hts (iT_X4_isAsTold_X4) hown hK hP 0 rfl rfl 3 (by decide) (hts (.fieldLink RX4 25 "WordSupper" "sheets" "LWordSupper$Sheets;") (by decide +kernel)) (fun _ h9 => h9) rfl dX4_isAsTold_28 ?_
          refine lv_iload_n hx hb dX4_isAsTold_31 rfl (lv_at hl 1 rfl) ?_
          refine lv_iload_n hx hb dX4_isAsTold_32 rfl (lv_at hl 3 rfl) ?_
          refine x_callV (As := [.int (iI ((s0 : Nat) : Int)), .int (iI ((t : Nat) : Int))]) (rest := []) ⟨hx, hb, hml, hown, hts⟩ (kX1_number h SB SS SN s0 t (by omega) (by omega)) (cwV 2 hts gX4_isAsTold_X1_number rfl rfl rfl ykVX1_number ⟨Nat.le_of_ble_eq_true rfl, Nat.le_of_ble_eq_true rfl⟩) hP hK hD hS 9 0 rfl rfl rfl [9, 10, 11, 12] rfl (by decide) (fun _ => rfl) (fun _ => wObj x f q kq vq h g ik ++ (wTab cI vq T11 b12 ++ (wSh cI h SB SS SN))) (fun _ => rfl) rfl hl.1 rfl (Nat.le_of_ble_eq_true rfl) dX4_isAsTold_33 ⟨Nat.le_of_ble_eq_true rfl, Nat.le_of_ble_eq_true rfl⟩ (fun _ H locs _ hP hD hS => ?_)
          refine W.eq (g2 := F0 m 36 ls [.int (iI (SN (40 * s0 + t)))]) rfl ?_
          refine lv_istore (lv' := [(4, .int (iI (SN (40 * s0 + t)))), (0, .ref x), (1, .int (iI ((s0 : Nat) : Int))), (2, .int (iI ((p : Nat) : Int))), (3, .int (iI ((t : Nat) : Int)))]) hx hb dX4_isAsTold_36 hl (by decide) rfl (fun ls hl => ?_)
          have hq1 := hSN (40 * s0 + t) (by omega)
          refine lv_iload hx hb dX4_isAsTold_38 (lv_at hl 0 rfl) ?_
          refine x_iconst hx hb dX4_isAsTold_40 ?_
          refine x_icmp_eq (tgt := 59) hx hb (by omega) (by decide) dX4_isAsTold_41 (by decide) (fun c_41 => ?_) (fun c_41 => ?_)
          · refine x_iinc hx hb 4 ((t + 1 : Nat) : Int) (by omega) [(3, .int (iI ((t + 1 : Nat) : Int))), (4, .int (iI (SN (40 * s0 + t)))), (0, .ref x), (1, .int (iI ((s0 : Nat) : Int))), (2, .int (iI ((p : Nat) : Int)))] dX4_isAsTold_59 hl rfl (by decide) rfl (fun ls hl => ?_)
            refine lv_goto (tgt := 2) hx hb dX4_isAsTold_62 (by decide) ?_
            exact ih (t + 1) T11 b12 _ _ _ (by omega) (by rw [if_neg (by omega), ← hr, toF, if_pos (by omega)]) (Inv_mono hw2 (by omega)) hw0 hP hD hS (lv_sub hl [2, 3, 4, 0] rfl)
          · refine lv_iload hx hb dX4_isAsTold_44 (lv_at hl 0 rfl) ?_
            refine lv_aload_n hx hb dX4_isAsTold_46 rfl (lv_at hl 1 rfl) ?_
            refine va_get (D := D) (ci := 3) (v := .ref (vq 0)) (C := RX4) (T := TX4) (N := 7) hx hb hts (iT_X4_isAsTold_X4) hown hK hP 0 rfl rfl 2 (by decide) (hts (.fieldLink RX4 19 "WordSupper" "spare" "LWordSupper$Table;") (by decide +kernel)) (fun _ h9 => h9) rfl dX4_isAsTold_47 ?_
            refine lv_iload_n hx hb dX4_isAsTold_50 rfl (lv_at hl 3 rfl) ?_
            refine x_callV (As := [.int (iI ((p : Nat) : Int))]) (rest := [.int (iI (SN (40 * s0 + t)))]) ⟨hx, hb, hml, hown, hts⟩ (kX2_left vq T11 b12 p (by omega)) (cwV 1 hts gX4_isAsTold_X2_left rfl rfl rfl ykVX2_left ⟨Nat.le_of_ble_eq_true rfl, Nat.le_of_ble_eq_true rfl⟩) hP hK hD hS 1 1 rfl rfl rfl [1, 2, 3, 4, 5, 6, 7, 8] rfl (by decide) (fun _ => rfl) (fun _ => wObj x f q kq vq h g ik ++ (wTab cI vq T11 b12 ++ (wSh cI h SB SS SN))) (fun _ => rfl) rfl hl.1 rfl (Nat.le_of_ble_eq_true rfl) dX4_isAsTold_51 ⟨Nat.le_of_ble_eq_true rfl, Nat.le_of_ble_eq_true rfl⟩ (fun _ H locs _ hP hD hS => ?_)
            refine W.eq (g2 := F0 m 54 ls [.int (iI (lfF T11 p)), .int (iI (SN (40 * s0 + t)))]) rfl ?_
            have hq2 := Inv_lf (p := p) hw2 (by omega)
            refine x_icmp_eq (tgt := 59) hx hb (by omega) (by omega) dX4_isAsTold_54 (by decide) (fun c_54 => ?_) (fun c_54 => ?_)
            · refine x_iinc hx hb 4 ((t + 1 : Nat) : Int) (by omega) [(3, .int (iI ((t + 1 : Nat) : Int))), (4, .int (iI (SN (40 * s0 + t)))), (0, .ref x), (1, .int (iI ((s0 : Nat) : Int))), (2, .int (iI ((p : Nat) : Int)))] dX4_isAsTold_59 hl rfl (by decide) rfl (fun ls hl => ?_)
              refine lv_goto (tgt := 2) hx hb dX4_isAsTold_62 (by decide) ?_
              exact ih (t + 1) T11 b12 _ _ _ (by omega) (by rw [if_neg (by omega), ← hr, toF, if_pos (by omega)]) (Inv_mono hw2 (by omega)) hw0 hP hD hS (lv_sub hl [2, 3, 4, 0] rfl)
            · refine x_iconst hx hb dX4_isAsTold_57 ?_
              exact kend (T11, b12) hP hS (an_i (b2_f (by rw [← hr, toF, if_neg (by omega)]; exact Bool.false_ne_true)).symm) trivial (by decide) dX4_isAsTold_58
  exact L2 (SS s0).toNat 0 V bv _ _ _ (by omega) rfl (by simpa using hI) rfl hP hD hS (lv_sub hl [1, 2, 3, 0] rfl)
