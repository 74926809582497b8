theorem ykSX5_isIn : yX5_isIn.cls ≠ "java/lang/invoke/MethodHandle" ∧ yX5_isIn.cls ≠ "java/lang/invoke/VarHandle" ∧ (parseMethodDescriptor yX5_isIn.desc).map (fun d => d.parameters.length) = some 3 := by decide +kernel
theorem ykVX5_isIn : yX5_isIn.cls = RX5 ∧ yX5_isIn.cls ≠ "java/lang/invoke/MethodHandle" ∧ yX5_isIn.cls ≠ "java/lang/invoke/VarHandle" ∧ (parseMethodDescriptor yX5_isIn.desc).map (fun d => d.parameters.length) = some 3 := ⟨rfl, ykSX5_isIn⟩
set_option maxHeartbeats 4000000 in
set_option maxRecDepth 100000 in
theorem kX5_isIn {l : Launch} {D : va_G} {cI cB : ClassId} (v : Int) (lo : Int) (hi : Int) (hv : rL v) (hl0 : rL lo) (hh0 : rL hi) : Ct l yX5_isIn wsX5_isIn 0 0 D [(cI, .int), (cB, .byte)] [.long (lI v), .long (lI lo), .long (lI hi)] (([] : va_W)) (S := Unit) (fun _ => some (.int (iI (b2 (decide (lo ≤ v ∧ v ≤ hi)))))) (fun _ => True) (fun _ => ([] : va_W)) := by
  refine CtZ.of (cc := cX5_isIn) (maxL := 6) (by decide +kernel) rfl (Nat.le_of_ble_eq_true rfl) ?_
  intro pg e s m args below meth c Q A hx hb hml hts hown hP hK hD hS ls hl kend
  have hown : s.vm.findClass RX5 = some m.cls := hown
  have hl : lv_has ls 6 [(0, .long (lI v)), (2, .long (lI lo)), (4, .long (lI hi))] := hl
  refine lv_lload_n hx hb dX5_isIn_0 rfl (lv_at hl 0 rfl) ?_
  refine lv_lload_n hx hb dX5_isIn_1 rfl (lv_at hl 1 rfl) ?_
  refine x_lcmp_lt (tgt := 17) hx hb hv hl0 dX5_isIn_2 dX5_isIn_3 (by decide) (fun c_2 => ?_) (fun c_2 => ?_)
  · refine x_iconst hx hb dX5_isIn_17 ?_
    exact kend () hP hS (an_i (b2_f (by omega)).symm) trivial (by decide) dX5_isIn_18
  · refine lv_lload_n hx hb dX5_isIn_6 rfl (lv_at hl 0 rfl) ?_
    refine lv_lload hx hb dX5_isIn_7 (lv_at hl 2 rfl) ?_
    refine x_lcmp_gt (tgt := 17) hx hb hv hh0 dX5_isIn_9 dX5_isIn_10 (by decide) (fun c_9 => ?_) (fun c_9 => ?_)
    · refine x_iconst hx hb dX5_isIn_17 ?_
      exact kend () hP hS (an_i (b2_f (by omega)).symm) trivial (by decide) dX5_isIn_18
    · refine x_iconst hx hb dX5_isIn_13 ?_
      refine lv_goto (tgt := 18) hx hb dX5_isIn_14 (by decide) ?_
      exact kend () hP hS (an_i (b2_t (by omega)).symm) trivial (by decide) dX5_isIn_18
theorem ykSX5_isTaste : yX5_isTaste.cls ≠ "java/lang/invoke/MethodHandle" ∧ yX5_isTaste.cls ≠ "java/lang/invoke/VarHandle" ∧ (parseMethodDescriptor yX5_isTaste.desc).map (fun d => d.parameters.length) = some 1 := by decide +kernel
theorem ykVX5_isTaste : yX5_isTaste.cls = RX5 ∧ yX5_isTaste.cls ≠ "java/lang/invoke/MethodHandle" ∧ yX5_isTaste.cls ≠ "java/lang/invoke/VarHandle" ∧ (parseMethodDescriptor yX5_isTaste.desc).map (fun d => d.parameters.length) = some 1 := ⟨rfl, ykSX5_isTaste⟩
set_option maxHeartbeats 4000000 in
set_option maxRecDepth 100000 in
theorem kX5_isTaste {l : Launch} {D : va_G} {cI cB : ClassId} (t : Int) (ht : rI t) : Ct l yX5_isTaste wsX5_isTaste 0 0 D [(cI, .int), (cB, .byte)] [.int (iI t)] (([] : va_W)) (S := Unit) (fun _ => some (.int (iI (b2 (decide (0 ≤ t ∧ t < 6)))))) (fun _ => True) (fun _ => ([] : va_W)) := by
  refine CtZ.of (cc := cX5_isTaste) (maxL := 1) (by decide +kernel) rfl (Nat.le_of_ble_eq_true rfl) ?_
  intro pg e s m args below meth c Q A hx hb hml hts hown hP hK hD hS ls hl kend
  have hown : s.vm.findClass RX5 = some m.cls := hown
  have hl : lv_has ls 1 [(0, .int (iI t))] := hl
  refine lv_iload_n hx hb dX5_isTaste_0 rfl (lv_at hl 0 rfl) ?_
  refine x_if_lt (tgt := 14) hx hb (by omega) dX5_isTaste_1 (by decide) (fun c_1 => ?_) (fun c_1 => ?_)
  · refine x_iconst hx hb dX5_isTaste_14 ?_
    exact kend () hP hS (an_i (b2_f (by omega)).symm) trivial (by decide) dX5_isTaste_15
  · refine lv_iload_n hx hb dX5_isTaste_4 rfl (lv_at hl 0 rfl) ?_
    refine x_bipush hx hb dX5_isTaste_5 (by decide) ?_
    refine x_icmp_ge (tgt := 14) hx hb (by omega) (by decide) dX5_isTaste_7 (by decide) (fun c_7 => ?_) (fun c_7 => ?_)
    · refine x_iconst hx hb dX5_isTaste_14 ?_
      exact kend () hP hS (an_i (b2_f (by omega)).symm) trivial (by decide) dX5_isTaste_15
    · refine x_iconst hx hb dX5_isTaste_10 ?_
      refine lv_goto (tgt := 15) hx hb dX5_isTaste_11 (by decide) ?_
      exact kend () hP hS (an_i (b2_t (by omega)).symm) trivial (by decide) dX5_isTaste_15
theorem ykSX5_at : yX5_at.cls ≠ "java/lang/invoke/MethodHandle" ∧ yX5_at.cls ≠ "java/lang/invoke/VarHandle" ∧ (parseMethodDescriptor yX5_at.desc).map (fun d => d.parameters.length) = some 2 := by decide +kernel
theorem ykVX5_at : yX5_at.cls = RX5 ∧ yX5_at.cls ≠ "java/lang/invoke/MethodHandle" ∧ yX5_at.cls ≠ "java/lang/invoke/VarHandle" ∧ (parseMethodDescriptor yX5_at.desc).map (fun d => d.parameters.length) = some 2 := ⟨rfl, ykSX5_at⟩
set_option maxHeartbeats 4000000 in
set_option maxRecDepth 100000 in
theorem kX5_at {l : Launch} {D : va_G} {cI cB : ClassId} (p : Nat) (w : Nat) : Ct l yX5_at wsX5_at 0 0 D [(cI, .int), (cB, .byte)] [.int (iI ((p : Nat) : Int)), .int (iI ((w : Nat) : Int))] (([] : va_W)) (S := Unit) (fun _ => some (.int (iI ((cx p w : Nat) : Int)))) (fun _ => True) (fun _ => ([] : va_W)) := by
  refine CtI.of (cc := cX5_at) (maxL := 2) (by decide +kernel) rfl (Nat.le_of_ble_eq_true rfl) ?_
  intro pg e s m args below meth c Q A hx hb hml hts hown hP hK hD hS ls hl kend
  have hown : s.vm.findClass RX5 = some m.cls := hown
  have hl : lv_has ls 2 [(0, .int (iI ((p : Nat) : Int))), (1, .int (iI ((w : Nat) : Int)))] := hl
  refine x_bipush hx hb dX5_at_0 (by decide) ?_
  refine x_bipush hx hb dX5_at_2 (by decide) ?_
  refine lv_iload_n hx hb dX5_at_4 rfl (lv_at hl 0 rfl) ?_
  refine x_imul hx hb dX5_at_5 ?_
  refine x_topi ((10 * p : Nat) : Int) (by omega) ?_
  refine x_iadd hx hb dX5_at_6 ?_
  refine x_topi ((10 + (10 * p) : Nat) : Int) (by omega) ?_
  refine lv_iload_n hx hb dX5_at_7 rfl (lv_at hl 1 rfl) ?_
  refine x_iadd hx hb dX5_at_8 ?_
  refine x_topi (((10 + (10 * p)) + w : Nat) : Int) (by omega) ?_
  refine x_topi ((cx p w : Nat) : Int) (by unfold cx; omega) ?_
  exact kend () hP hS (an_i (rfl)) trivial dX5_at_9
theorem ykSX5_least : yX5_least.cls ≠ "java/lang/invoke/MethodHandle" ∧ yX5_least.cls ≠ "java/lang/invoke/VarHandle" ∧ (parseMethodDescriptor yX5_least.desc).map (fun d => d.parameters.length) = some 2 := by decide +kernel
theorem ykVX5_least : yX5_least.cls = RX5 ∧ yX5_least.cls ≠ "java/lang/invoke/MethodHandle" ∧ yX5_least.cls ≠ "java/lang/invoke/VarHandle" ∧ (parseMethodDescriptor yX5_least.desc).map (fun d => d.parameters.length) = some 2 := ⟨rfl, ykSX5_least⟩
set_option maxHeartbeats 4000000 in
set_option maxRecDepth 100000 in
theorem kX5_least {l : Launch} {D : va_G} {cI cB : ClassId} (a : Int) (b0 : Int) (ha : rI a) (hb0 : rI b0) : Ct l yX5_least wsX5_least 0 0 D [(cI, .int), (cB, .byte)] [.int (iI a), .int (iI b0)] (([] : va_W)) (S := Unit) (fun _ => some (.int (iI (min a b0)))) (fun _ => True) (fun _ => ([] : va_W)) := by
  refine CtI.of (cc := cX5_least) (maxL := 2) (by decide +kernel) rfl (Nat.le_of_ble_eq_true rfl) ?_
  intro pg e s m args below meth c Q A hx hb hml hts hown hP hK hD hS ls hl kend
  have hown : s.vm.findClass RX5 = some m.cls := hown
  have hl : lv_has ls 2 [(0, .int (iI a)), (1, .int (iI b0))] := hl
  refine lv_iload_n hx hb dX5_least_0 rfl (lv_at hl 0 rfl) ?_
  refine lv_iload_n hx hb dX5_least_1 rfl (lv_at hl 1 rfl) ?_
  refine x_icmp_ge (tgt := 9) hx hb (by omega) (by omega) dX5_least_2 (by decide) (fun c_2 => ?_) (fun c_2 => ?_)
  · refine lv_iload_n hx hb dX5_least_9 rfl (lv_at hl 1 rfl) ?_
    exact kend () hP hS (an_i (by omega)) trivial dX5_least_10
  · refine lv_iload_n hx hb dX5_least_5 rfl (lv_at hl 0 rfl) ?_
    refine lv_goto (tgt := 10) hx hb dX5_least_6 (by decide) ?_
    exact kend () hP hS (an_i (by omega)) trivial dX5_least_10
theorem ykSX5_greatest : yX5_greatest.cls ≠ "java/lang/invoke/MethodHandle" ∧ yX5_greatest.cls ≠ "java/lang/invoke/VarHandle" ∧ (parseMethodDescriptor yX5_greatest.desc).map (fun d => d.parameters.length) = some 2 := by decide +kernel
theorem ykVX5_greatest : yX5_greatest.cls = RX5 ∧ yX5_greatest.cls ≠ "java/lang/invoke/MethodHandle" ∧ yX5_greatest.cls ≠ "java/lang/invoke/VarHandle" ∧ (parseMethodDescriptor yX5_greatest.desc).map (fun d => d.parameters.length) = some 2 := ⟨rfl, ykSX5_greatest⟩
set_option maxHeartbeats 4000000 in
set_option maxRecDepth 100000 in
theorem kX5_greatest {l : Launch} {D : va_G} {cI cB : ClassId} (a : Int) (b0 : Int) (ha : rI a) (hb0 : rI b0) : Ct l yX5_greatest wsX5_greatest 0 0 D [(cI, .int), (cB, .byte)] [.int (iI a), .int (iI b0)] (([] : va_W)) (S := Unit) (fun _ => some (.int (iI (max a b0)))) (fun _ => True) (fun _ => ([] : va_W)) := by
  refine CtI.of (cc := cX5_greatest) (maxL := 2) (by decide +kernel) rfl (Nat.le_of_ble_eq_true rfl) ?_
  intro pg e s m args below meth c Q A hx hb hml hts hown hP hK hD hS ls hl kend
  have hown : s.vm.findClass RX5 = some m.cls := hown
  have hl : lv_has ls 2 [(0, .int (iI a)), (1, .int (iI b0))] := hl
  refine lv_iload_n hx hb dX5_greatest_0 rfl (lv_at hl 0 rfl) ?_
  refine lv_iload_n hx hb dX5_greatest_1 rfl (lv_at hl 1 rfl) ?_
  refine x_icmp_le (tgt := 9) hx hb (by omega) (by omega) dX5_greatest_2 (by decide) (fun c_2 => ?_) (fun c_2 => ?_)
  · refine lv_iload_n hx hb dX5_greatest_9 rfl (lv_at hl 1 rfl) ?_
    exact kend () hP hS (an_i (by omega)) trivial dX5_greatest_10
  · refine lv_iload_n hx hb dX5_greatest_5 rfl (lv_at hl 0 rfl) ?_
    refine lv_goto (tgt := 10) hx hb dX5_greatest_6 (by decide) ?_
    exact kend () hP hS (an_i (by omega)) trivial dX5_greatest_10
theorem ykSX5_isOne : yX5_isOne.cls ≠ "java/lang/invoke/MethodHandle" ∧ yX5_isOne.cls ≠ "java/lang/invoke/VarHandle" ∧ (parseMethodDescriptor yX5_isOne.desc).map (fun d => d.parameters.length) = some 1 := by decide +kernel
theorem ykVX5_isOne : yX5_isOne.cls = RX5 ∧ yX5_isOne.cls ≠ "java/lang/invoke/MethodHandle" ∧ yX5_isOne.cls ≠ "java/lang/invoke/VarHandle" ∧ (parseMethodDescriptor yX5_isOne.desc).map (fun d => d.parameters.length) = some 1 := ⟨rfl, ykSX5_isOne⟩
set_option maxRecDepth 20000 in
theorem iT_X5_isOne_X5 : ∀ w ∈ u_ws RX5 TX5 18, w ∈ wsX5_isOne := by decide +kernel
set_option maxHeartbeats 4000000 in
set_option maxRecDepth 100000 in
theorem kX5_isOne {l : Launch} {D : va_G} {cI cB : ClassId} (r : Nat → Nat) (ik : Int) (tn : Int) (j : Nat → Int) (T : Tb) (sp : Int) (hs : rI sp) (hn : 0 ≤ T 0 ∧ T 0 ≤ 8) : Ct l yX5_isOne wsX5_isOne 0 0 D [(cI, .int), (cB, .byte)] [.ref (r 0), .int (iI sp)] (wRo r ik tn j ++ (wA cI (r 1) 100 T)) (S := Unit) (fun _ => some (.int (iI (b2 (decide (0 ≤ sp ∧ sp < T 0)))))) (fun _ => True) (fun _ => wRo r ik tn j ++ (wA cI (r 1) 100 T)) := by
  refine CtZ.of (cc := cX5_isOne) (maxL := 2) (by decide +kernel) rfl (Nat.le_of_ble_eq_true rfl) ?_
  intro pg e s m args below meth c Q A hx hb hml hts hown hP hK hD hS ls hl kend
  have hown : s.vm.findClass RX5 = some m.cls := hown
  have hl : lv_has ls 2 [(0, .ref (r 0)), (1, .int (iI sp))] := hl
  refine lv_iload_n hx hb dX5_isOne_0 rfl (lv_at hl 1 rfl) ?_
  refine x_if_lt (tgt := 18) hx hb (by omega) dX5_isOne_1 (by decide) (fun c_1 => ?_) (fun c_1 => ?_)
  · refine x_iconst hx hb dX5_isOne_18 ?_
    exact kend () hP hS (an_i (b2_f (by omega)).symm) trivial (by decide) dX5_isOne_19
  · refine lv_iload_n hx hb dX5_isOne_4 rfl (lv_at hl 1 rfl) ?_
    refine lv_aload_n hx hb dX5_isOne_5 rfl (lv_at hl 0 rfl) ?_
    refine va_get (D := D) (ci := 4) (v := .ref (r 1)) (C := RX5) (T := TX5) (N := 18) hx hb hts (iT_X5_isOne_X5) hown hK hP 0 rfl rfl 0 (by decide) (hts (.fieldLink RX5 7 "WordSupperModel" "s" "[I") (by decide +kernel)) (fun _ h9 => h9) rfl dX5_isOne_6 ?_
    refine x_iconst hx hb dX5_isOne_9 ?_
    refine x_iald hx hb hK hP 1 0 rfl rfl 0 rfl (by omega) (by decide) (T 0) (gd_at _ (by omega)) dX5_isOne_10 ?_
    refine x_icmp_ge (tgt := 18) hx hb (by omega) (by omega) dX5_isOne_11 (by decide) (fun c_11 => ?_) (fun c_11 => ?_)
    · refine x_iconst hx hb dX5_isOne_18 ?_
      exact kend () hP hS (an_i (b2_f (by omega)).symm) trivial (by decide) dX5_isOne_19
    · refine x_iconst hx hb dX5_isOne_14 ?_
      refine lv_goto (tgt := 19) hx hb dX5_isOne_15 (by decide) ?_
      exact kend () hP hS (an_i (b2_t (by omega)).symm) trivial (by decide) dX5_isOne_19
theorem ykSX5_its : yX5_its.cls ≠ "java/lang/invoke/MethodHandle" ∧ yX5_its.cls ≠ "java/lang/invoke/VarHandle" ∧ (parseMethodDescriptor yX5_its.desc).map (fun d => d.parameters.length) = some 2 := by decide +kernel
theorem ykVX5_its : yX5_its.cls = RX5 ∧ yX5_its.cls ≠ "java/lang/invoke/MethodHandle" ∧ yX5_its.cls ≠ "java/lang/invoke/VarHandle" ∧ (parseMethodDescriptor yX5_its.desc).map (fun d => d.parameters.length) = some 2 := ⟨rfl, ykSX5_its⟩
set_option maxRecDepth 20000 in
theorem iT_X5_its_X5 : ∀ w ∈ u_ws RX5 TX5 18, w ∈ wsX5_its := by decide +kernel
set_option maxHeartbeats 4000000 in
set_option maxRecDepth 100000 in
theorem kX5_its {l : Launch} {D : va_G} {cI cB : ClassId} (r : Nat → Nat) (ik : Int) (tn : Int) (j : Nat → Int) (T : Tb) (p : Nat) (w : Nat) (hp : p < 8) (hw : w < 10) : Ct l yX5_its wsX5_its 0 0 D [(cI, .int), (cB, .byte)] [.ref (r 0), .int (iI ((p : Nat) : Int)), .int (iI ((w : Nat) : Int))] (wRo r ik tn j ++ (wA cI (r 1) 100 T)) (S := Unit) (fun _ => some (.int (iI (T (cx p w))))) (fun _ => True) (fun _ => wRo r ik tn j ++ (wA cI (r 1) 100 T)) := by
  refine CtI.of (cc := cX5_its) (maxL := 3) (by decide +kernel) rfl (Nat.le_of_ble_eq_true rfl) ?_
  intro pg e s m args below meth c Q A hx hb hml hts hown hP hK hD hS ls hl kend
  have hown : s.vm.findClass RX5 = some m.cls := hown
  have hl : lv_has ls 3 [(0, .ref (r 0)), (1, .int (iI ((p : Nat) : Int))), (2, .int (iI ((w : Nat) : Int)))] := hl
  refine lv_aload_n hx hb dX5_its_0 rfl (lv_at hl 0 rfl) ?_
  refine va_get (D := D) (ci := 4) (v := .ref (r 1)) (C := RX5) (T := TX5) (N := 18) hx hb hts (iT_X5_its_X5) hown hK hP 0 rfl rfl 0 (by decide) (hts (.fieldLink RX5 7 "WordSupperModel" "s" "[I") (by decide +kernel)) (fun _ h9 => h9) rfl dX5_its_1 ?_
  refine x_bipush hx hb dX5_its_4 (by decide) ?_
  refine x_bipush hx hb dX5_its_6 (by decide) ?_
  refine lv_iload_n hx hb dX5_its_8 rfl (lv_at hl 1 rfl) ?_
  refine x_imul hx hb dX5_its_9 ?_
  refine x_topi ((10 * p : Nat) : Int) (by omega) ?_
  refine x_iadd hx hb dX5_its_10 ?_
  refine x_topi ((10 + (10 * p) : Nat) : Int) (by omega) ?_
  refine lv_iload_n hx hb dX5_its_11 rfl (lv_at hl 2 rfl) ?_
  refine x_iadd hx hb dX5_its_12 ?_
  refine x_topi (((10 + (10 * p)) + w : Nat) : Int) (by omega) ?_
  refine x_topi ((cx p w : Nat) : Int) (by unfold cx; omega) ?_
  refine x_iald hx hb hK hP 1 0 rfl rfl (cx p w) rfl (cx_lt1 (by omega) (by omega)) (by decide) (T (cx p w)) (gd_at _ (cx_lt1 (by omega) (by omega))) dX5_its_13 ?_
  exact kend () hP hS (an_i (rfl)) trivial dX5_its_14
theorem ykSX5_becomes : yX5_becomes.cls ≠ "java/lang/invoke/MethodHandle" ∧ yX5_becomes.cls ≠ "java/lang/invoke/VarHandle" ∧ (parseMethodDescriptor yX5_becomes.desc).map (fun d => d.parameters.length) = some 2 := by decide +kernel
theorem ykVX5_becomes : yX5_becomes.cls = RX5 ∧ yX5_becomes.cls ≠ "java/lang/invoke/MethodHandle" ∧ yX5_becomes.cls ≠ "java/lang/invoke/VarHandle" ∧ (parseMethodDescriptor yX5_becomes.desc).map (fun d => d.parameters.length) = some 2 := ⟨rfl, ykSX5_becomes⟩
set_option maxRecDepth 20000 in
theorem iT_X5_becomes_X5 : ∀ w ∈ u_ws RX5 TX5 18, w ∈ wsX5_becomes := by decide +kernel
set_option maxHeartbeats 4000000 in
set_option maxRecDepth 100000 in
theorem kX5_becomes {l : Launch} {D : va_G} {cI cB : ClassId} (r : Nat → Nat) (ik : Int) (tn : Int) (j : Nat → Int) (T : Tb) (i : Nat) (v : Int) (hi : i < 100) : Ct l yX5_becomes wsX5_becomes 0 0 D [(cI, .int), (cB, .byte)] [.ref (r 0), .int (iI ((i : Nat) : Int)), .int (iI v)] (wRo r ik tn j ++ (wA cI (r 1) 100 T)) (S := Unit) (fun _ => some (.int (iI (T i)))) (fun _ => True) (fun _ => wRo r ik tn j ++ (wA cI (r 1) 100 (va_up T i v))) := by
  refine CtI.of (cc := cX5_becomes) (maxL := 4) (by decide +kernel) rfl (Nat.le_of_ble_eq_true rfl) ?_
  intro pg e s m args below meth c Q A hx hb hml hts hown hP hK hD hS ls hl kend
  have hown : s.vm.findClass RX5 = some m.cls := hown
  have hl : lv_has ls 4 [(0, .ref (r 0)), (1, .int (iI ((i : Nat) : Int))), (2, .int (iI v))] := hl
  refine lv_aload_n hx hb dX5_becomes_0 rfl (lv_at hl 0 rfl) ?_
  refine va_get (D := D) (ci := 4) (v := .ref (r 1)) (C := RX5) (T := TX5) (N := 18) hx hb hts (iT_X5_becomes_X5) hown hK hP 0 rfl rfl 0 (by decide) (hts (.fieldLink RX5 7 "WordSupperModel" "s" "[I") (by decide +kernel)) (fun _ h9 => h9) rfl dX5_becomes_1 ?_
  refine lv_iload_n hx hb dX5_becomes_4 rfl (lv_at hl 1 rfl) ?_
  refine x_iald hx hb hK hP 1 0 rfl rfl i rfl (by omega) (by decide) (T i) (gd_at _ (by omega)) dX5_becomes_5 ?_
  refine lv_istore_n (lv' := [(3, .int (iI (T i))), (0, .ref (r 0)), (1, .int (iI ((i : Nat) : Int))), (2, .int (iI v))]) hx hb dX5_becomes_6 rfl hl (by decide) rfl (fun ls hl => ?_)
  refine lv_aload_n hx hb dX5_becomes_7 rfl (lv_at hl 1 rfl) ?_
  refine va_get (D := D) (ci := 4) (v := .ref (r 1)) (C := RX5) (T := TX5) (N := 18) hx hb hts (iT_X5_becomes_X5) hown hK hP 0 rfl rfl 0 (by decide) (hts (.fieldLink RX5 7 "WordSupperModel" "s" "[I") (by decide +kernel)) (fun _ h9 => h9) rfl dX5_becomes_8 ?_
  refine lv_iload_n hx hb dX5_becomes_11 rfl (lv_at hl 2 rfl) ?_
  refine lv_iload_n hx hb dX5_becomes_12 rfl (lv_at hl 3 rfl) ?_
  refine x_iast hx hb hK hP hD hS 1 0 rfl rfl i rfl (by omega) (by decide) (wRo r ik tn j ++ (wA cI (r 1) 100 (va_up T i v))) (by rw [← wA_up cI (r 1) 100 T v i (by omega)]; rfl) dX5_becomes_13 (fun H locs hP hD hS => ?_)
  refine lv_iload_n hx hb dX5_becomes_14 rfl (lv_at hl 0 rfl) ?_
  exact kend () hP hS (an_i (rfl)) trivial dX5_becomes_15
theorem ykSX5_copyRow : yX5_copyRow.cls ≠ "java/lang/invoke/MethodHandle" ∧ yX5_copyRow.cls ≠ "java/lang/invoke/VarHandle" ∧ (parseMethodDescriptor yX5_copyRow.desc).map (fun d => d.parameters.length) = some 2 := by decide +kernel
theorem ykVX5_copyRow : yX5_copyRow.cls = RX5 ∧ yX5_copyRow.cls ≠ "java/lang/invoke/MethodHandle" ∧ yX5_copyRow.cls ≠ "java/lang/invoke/VarHandle" ∧ (parseMethodDescriptor yX5_copyRow.desc).map (fun d => d.parameters.length) = some 2 := ⟨rfl, ykSX5_copyRow⟩
set_option maxHeartbeats 4000000 in
set_option maxRecDepth 100000 in
theorem kX5_copyRow {l : Launch} {D : va_G} {cI cB : ClassId} (a1 : Nat) (G1 : Tb) (a2 : Nat) (G2 : Tb) : Ct l yX5_copyRow wsX5_copyRow 0 0 D [(cI, .int), (cB, .byte)] [.ref a1, .ref a2] (wA cI a1 100 G1 ++ (wA cI a2 100 G2)) (S := Unit) (fun _ => none) (fun _ => True) (fun _ => wA cI a1 100 G1 ++ (wA cI a2 100 G1)) := by
  refine CtV.of (cc := cX5_copyRow) (maxL := 3) (by decide +kernel) rfl (Nat.le_of_ble_eq_true rfl) ?_
  intro pg e s m args below meth c Q A hx hb hml hts hown hP hK hD hS ls hl kend
  have hown : s.vm.findClass RX5 = some m.cls := hown
  have hl : lv_has ls 3 [(0, .ref a1), (1, .ref a2)] := hl
  refine x_iconst hx hb dX5_copyRow_0 ?_
  refine lv_istore_n (lv' := [(2, .int (iI 0)), (0, .ref a1), (1, .ref a2)]) hx hb dX5_copyRow_1 rfl hl (by decide) rfl (fun ls hl => ?_)
  have L2 : ∀ (k t : Nat) (Gt : Tb) (H : Heap) (locs : List Loc) (ls : Array Slot), t + k = 100 → (∀ i, i < t → Gt i = G1 i) → va_P D vwCl (wA cI a1 100 G1 ++ (wA cI a2 100 Gt)) H → va_D A (wA cI a1 100 G1 ++ (wA cI a2 100 Gt)) → va_S A s.heap H locs → lv_has ls 3 [(0, .ref a1), (1, .ref a2), (2, .int (iI ((t : Nat) : Int)))] → W pg l e { frames := 0, cells := 0, slots := 0, locals := 0 } s m args below meth c H locs 0 0 Q (F0 m 2 ls []) := by
    intro k
    induction k with
    | zero =>
      intro t Gt H locs ls hkt hg hP hD hS hl
      refine lv_iload_n hx hb dX5_copyRow_2 rfl (lv_at hl 2 rfl) ?_
      refine x_bipush hx hb dX5_copyRow_3 (by decide) ?_
      refine x_icmp_ge (tgt := 20) hx hb (by omega) (by decide) dX5_copyRow_5 (by decide) (fun c_5 => ?_) (fun c_5 => ?_)
      · have ht9 : t = 100 := by omega
        rw [wA_congr (cI := cI) (a := a2) (fun i hi => hg i (by omega))] at hP
        exact kend () hP hS rfl trivial dX5_copyRow_20
      · exfalso; omega
    | succ k ih =>
      intro t Gt H locs ls hkt hg hP hD hS hl
      refine lv_iload_n hx hb dX5_copyRow_2 rfl (lv_at hl 2 rfl) ?_
      refine x_bipush hx hb dX5_copyRow_3 (by decide) ?_
      refine x_icmp_ge (tgt := 20) hx hb (by omega) (by decide) dX5_copyRow_5 (by decide) (fun c_5 => ?_) (fun c_5 => ?_)
      · exfalso; omega
      · refine lv_aload_n hx hb dX5_copyRow_8 rfl (lv_at hl 1 rfl) ?_
        refine lv_iload_n hx hb dX5_copyRow_9 rfl (lv_at hl 2 rfl) ?_
        refine lv_aload_n hx hb dX5_copyRow_10 rfl (lv_at hl 0 rfl) ?_
        refine lv_iload_n hx hb dX5_copyRow_11 rfl (lv_at hl 2 rfl) ?_
        refine x_iald hx hb hK hP 0 0 rfl rfl t rfl (by omega) (by decide) (G1 t) (gd_at _ (by omega)) dX5_copyRow_12 ?_
        refine x_iast hx hb hK hP hD hS 1 0 rfl rfl t rfl (by omega) (by decide) (wA cI a1 100 G1 ++ (wA cI a2 100 (va_up Gt t (G1 t)))) (by rw [← wA_up cI a2 100 Gt (G1 t) t (by omega)]; rfl) dX5_copyRow_13 (fun H locs hP hD hS => ?_)
        refine x_iinc hx hb 2 ((t + 1 : Nat) : Int) (by omega) [(2, .int (iI ((t + 1 : Nat) : Int))), (0, .ref a1), (1, .ref a2)] dX5_copyRow_14 hl rfl (by decide) rfl (fun ls hl => ?_)
        refine lv_goto (tgt := 2) hx hb dX5_copyRow_17 (by decide) ?_
        exact ih (t + 1) (va_up Gt t (G1 t)) _ _ _ (by omega) (fun i hi => cpy_st hg hi) hP hD hS (lv_sub hl [1, 2, 0] rfl)
  exact L2 100 0 G2 _ _ _ (by omega) (fun i hi => absurd hi (Nat.not_lt_zero i)) hP hD hS (lv_sub hl [1, 2, 0] rfl)
theorem ykSX5_finds : yX5_finds.cls ≠ "java/lang/invoke/MethodHandle" ∧ yX5_finds.cls ≠ "java/lang/invoke/VarHandle" ∧ (parseMethodDescriptor yX5_finds.desc).map (fun d => d.parameters.length) = some 1 := by decide +kernel
theorem ykVX5_finds : yX5_finds.cls = RX5 ∧ yX5_finds.cls ≠ "java/lang/invoke/MethodHandle" ∧ yX5_finds.cls ≠ "java/lang/invoke/VarHandle" ∧ (parseMethodDescriptor yX5_finds.desc).map (fun d => d.parameters.length) = some 1 := ⟨rfl, ykSX5_finds⟩
set_option maxRecDepth 20000 in
theorem iT_X5_finds_X5 : ∀ w ∈ u_ws RX5 TX5 18, w ∈ wsX5_finds := by decide +kernel
set_option maxHeartbeats 4000000 in
set_option maxRecDepth 100000 in
theorem kX5_finds {l : Launch} {D : va_G} {cI cB : ClassId} (r : Nat → Nat) (ik : Int) (tn : Int) (j : Nat → Int) (F : Nat → Int) (fd : Int) (kk : Nat) (hf : fd = -1000001 - (kk : Int)) (hk : kk < 7) : Ct l yX5_finds wsX5_finds 0 0 D [(cI, .int), (cB, .byte)] [.ref (r 0), .int (iI fd)] (wRo r ik tn j ++ (wA cI (r 5) 8 (fR F))) (S := Unit) (fun _ => some (.int (iI fd))) (fun _ => True) (fun _ => wRo r ik tn j ++ (wA cI (r 5) 8 (fR (va_up F kk (F kk + 1))))) := by
  refine CtI.of (cc := cX5_finds) (maxL := 2) (by decide +kernel) rfl (Nat.le_of_ble_eq_true rfl) ?_
  intro pg e s m args below meth c Q A hx hb hml hts hown hP hK hD hS ls hl kend
  have hown : s.vm.findClass RX5 = some m.cls := hown
  have hl : lv_has ls 2 [(0, .ref (r 0)), (1, .int (iI fd))] := hl
  refine lv_aload_n hx hb dX5_finds_0 rfl (lv_at hl 0 rfl) ?_
  refine va_get (D := D) (ci := 4) (v := .ref (r 5)) (C := RX5) (T := TX5) (N := 18) hx hb hts (iT_X5_finds_X5) hown hK hP 0 rfl rfl 5 (by decide) (hts (.fieldLink RX5 22 "WordSupperModel" "findings" "[I") (by decide +kernel)) (fun _ h9 => h9) rfl dX5_finds_1 ?_
  refine x_iconst hx hb dX5_finds_4 ?_
  refine lv_dup2_11 hx hb dX5_finds_5 rfl rfl ?_
  refine x_iald hx hb hK hP 1 0 rfl rfl 0 rfl (by omega) (by decide) ((fR F) 0) (gd_at _ (by omega)) dX5_finds_6 ?_
  refine x_iconst hx hb dX5_finds_7 ?_
  refine x_iadd hx hb dX5_finds_8 ?_
  refine x_iast hx hb hK hP hD hS 1 0 rfl rfl 0 rfl (by omega) (by decide) (wRo r ik tn j ++ (wA cI (r 5) 8 (va_up (fR F) 0 (((fR F) 0) + 1)))) (by rw [← wA_up cI (r 5) 8 (fR F) (((fR F) 0) + 1) 0 (by omega)]; rfl) dX5_finds_9 (fun H locs hP hD hS => ?_)
  refine lv_aload_n hx hb dX5_finds_10 rfl (lv_at hl 0 rfl) ?_
  refine va_get (D := D) (ci := 4) (v := .ref (r 5)) (C := RX5) (T := TX5) (N := 18) hx hb hts (iT_X5_finds_X5) hown hK hP 0 rfl rfl 5 (by decide) (hts (.fieldLink RX5 22 "WordSupperModel" "findings" "[I") (by decide +kernel)) (fun _ h9 => h9) rfl dX5_finds_11 ?_
  refine x_ldc hx hb (-1000001) rfl hown (hts (.constant RX5 37 (-1000001)) (by decide +kernel)) dX5_finds_14 ?_
  refine lv_iload_n hx hb dX5_finds_16 rfl (lv_at hl 1 rfl) ?_
  refine x_isub hx hb dX5_finds_17 ?_
  refine x_iconst hx hb dX5_finds_18 ?_
  refine x_iadd hx hb dX5_finds_19 ?_
  refine x_topi ((kk + 1 : Nat) : Int) (by omega) ?_
  refine lv_dup2_11 hx hb dX5_finds_20 rfl rfl ?_
  refine x_iald hx hb hK hP 1 0 rfl rfl (kk + 1) rfl (by omega) (by decide) ((va_up (fR F) 0 (((fR F) 0) + 1)) (kk + 1)) (gd_at _ (by omega)) dX5_finds_21 ?_
  refine x_topi (fR F (kk + 1)) (up_n _ _ (by omega)) ?_
  refine x_iconst hx hb dX5_finds_22 ?_
  refine x_iadd hx hb dX5_finds_23 ?_
  refine x_iast hx hb hK hP hD hS 1 0 rfl rfl (kk + 1) rfl (by omega) (by decide) (wRo r ik tn j ++ (wA cI (r 5) 8 (va_up (va_up (fR F) 0 (((fR F) 0) + 1)) (kk + 1) ((fR F (kk + 1)) + 1)))) (by rw [← wA_up cI (r 5) 8 (va_up (fR F) 0 (((fR F) 0) + 1)) ((fR F (kk + 1)) + 1) (kk + 1) (by omega)]; rfl) dX5_finds_24 (fun H locs hP hD hS => ?_)
  rw [fR_up hk] at hP
  refine lv_iload_n hx hb dX5_finds_25 rfl (lv_at hl 1 rfl) ?_
  exact kend () hP hS (an_i (rfl)) trivial dX5_finds_26
theorem ykSX5_left : yX5_left.cls ≠ "java/lang/invoke/MethodHandle" ∧ yX5_left.cls ≠ "java/lang/invoke/VarHandle" ∧ (parseMethodDescriptor yX5_left.desc).map (fun d => d.parameters.length) = some 1 := by decide +kernel
theorem ykVX5_left : yX5_left.cls = RX5 ∧ yX5_left.cls ≠ "java/lang/invoke/MethodHandle" ∧ yX5_left.cls ≠ "java/lang/invoke/VarHandle" ∧ (parseMethodDescriptor yX5_left.desc).map (fun d => d.parameters.length) = some 1 := ⟨rfl, ykSX5_left⟩
set_option maxHeartbeats 4000000 in
set_option maxRecDepth 100000 in
theorem kX5_left {l : Launch} {D : va_G} {cI cB : ClassId} (r : Nat → Nat) (ik : Int) (tn : Int) (j : Nat → Int) (T : Tb) (p : Nat) (hp : p < 8) : Ct l yX5_left wsX5_left 1 22 D [(cI, .int), (cB, .byte)] [.ref (r 0), .int (iI ((p : Nat) : Int))] (wRo r ik tn j ++ (wA cI (r 1) 100 T)) (S := Unit) (fun _ => some (.int (iI (lfF T p)))) (fun _ => True) (fun _ => wRo r ik tn j ++ (wA cI (r 1) 100 T)) := by
  refine CtI.of (cc := cX5_left) (maxL := 4) (by decide +kernel) rfl (Nat.le_of_ble_eq_true rfl) ?_
  intro pg e s m args below meth c Q A hx hb hml hts hown hP hK hD hS ls hl kend
  have hown : s.vm.findClass RX5 = some m.cls := hown
  have hl : lv_has ls 4 [(0, .ref (r 0)), (1, .int (iI ((p : Nat) : Int)))] := hl
  refine x_iconst hx hb dX5_left_0 ?_
  refine lv_istore_n (lv' := [(2, .int (iI 0)), (0, .ref (r 0)), (1, .int (iI ((p : Nat) : Int)))]) hx hb dX5_left_1 rfl hl (by decide) rfl (fun ls hl => ?_)
  refine x_iconst hx hb dX5_left_2 ?_
  refine lv_istore_n (lv' := [(3, .int (iI 0)), (2, .int (iI 0)), (0, .ref (r 0)), (1, .int (iI ((p : Nat) : Int)))]) hx hb dX5_left_3 rfl hl (by decide) rfl (fun ls hl => ?_)
  have L4 : ∀ (k t : Nat) (sv : Int) (H : Heap) (locs : List Loc) (ls : Array Slot), t + k = 6 → (run (fun (t : Nat) (s : Int) => s + T (cx p (4 + t))) k t sv = lfF T p) → va_P D vwCl (wRo r ik tn j ++ (wA cI (r 1) 100 T)) H → va_D A (wRo r ik tn j ++ (wA cI (r 1) 100 T)) → va_S A s.heap H locs → lv_has ls 4 [(0, .ref (r 0)), (1, .int (iI ((p : Nat) : Int))), (2, .int (iI sv)), (3, .int (iI ((t : Nat) : Int)))] → W pg l e { frames := 1, cells := 0, slots := 0, locals := 22 } s m args below meth c H locs 0 0 Q (F0 m 4 ls []) := by
    intro k
    induction k with
    | zero =>
      intro t sv H locs ls hkt hr hP hD hS hl
      refine lv_iload_n hx hb dX5_left_4 rfl (lv_at hl 3 rfl) ?_
      refine x_bipush hx hb dX5_left_5 (by decide) ?_
      refine x_icmp_ge (tgt := 27) hx hb (by omega) (by decide) dX5_left_7 (by decide) (fun c_7 => ?_) (fun c_7 => ?_)
      · refine lv_iload_n hx hb dX5_left_27 rfl (lv_at hl 2 rfl) ?_
        exact kend () hP hS (an_i (hr)) trivial dX5_left_28
      · exfalso; omega
    | succ k ih =>
      intro t sv H locs ls hkt hr hP hD hS hl
      refine lv_iload_n hx hb dX5_left_4 rfl (lv_at hl 3 rfl) ?_
      refine x_bipush hx hb dX5_left_5 (by decide) ?_
      refine x_icmp_ge (tgt := 27) hx hb (by omega) (by decide) dX5_left_7 (by decide) (fun c_7 => ?_) (fun c_7 => ?_)
      · exfalso; omega
      · refine lv_iload_n hx hb dX5_left_10 rfl (lv_at hl 2 rfl) ?_
        refine lv_aload_n hx hb dX5_left_11 rfl (lv_at hl 0 rfl) ?_
        refine lv_iload_n hx hb dX5_left_12 rfl (lv_at hl 1 rfl) ?_
        refine x_iconst hx hb dX5_left_13 ?_
        refine lv_iload_n hx hb dX5_left_14 rfl (lv_at hl 3 rfl) ?_
        refine x_iadd hx hb dX5_left_15 ?_
        refine x_topi ((4 + t : Nat) : Int) (by omega) ?_
        refine x_callV (As := [.int (iI ((p : Nat) : Int)), .int (iI ((4 + t : Nat) : Int))]) (rest := [.int (iI sv)]) ⟨hx, hb, hml, hown, hts⟩ (kX5_its r ik tn j T p (4 + t) (by omega) (by omega)) (cwV 2 hts gX5_left_X5_its rfl rfl rfl ykVX5_its ⟨Nat.le_of_ble_eq_true rfl, Nat.le_of_ble_eq_true rfl⟩) hP hK hD hS 0 4 rfl rfl rfl [0, 1] rfl (by decide) (fun _ => rfl) (fun _ => wRo r ik tn j ++ (wA cI (r 1) 100 T)) (fun _ => rfl) rfl hl.1 rfl (Nat.le_of_ble_eq_true rfl) dX5_left_16 ⟨Nat.le_of_ble_eq_true rfl, Nat.le_of_ble_eq_true rfl⟩ (fun _ H locs _ hP hD hS => ?_)
        refine W.eq (g2 := F0 m 19 ls [.int (iI (T (cx p (4 + t)))), .int (iI sv)]) rfl ?_
        refine x_iadd hx hb dX5_left_19 ?_
        refine lv_istore_n (lv' := [(2, .int (iI (sv + (T (cx p (4 + t)))))), (0, .ref (r 0)), (1, .int (iI ((p : Nat) : Int))), (3, .int (iI ((t : Nat) : Int)))]) hx hb dX5_left_20 rfl hl (by decide) rfl (fun ls hl => ?_)
        refine x_iinc hx hb 3 ((t + 1 : Nat) : Int) (by omega) [(3, .int (iI ((t + 1 : Nat) : Int))), (2, .int (iI (sv + (T (cx p (4 + t)))))), (0, .ref (r 0)), (1, .int (iI ((p : Nat) : Int)))] dX5_left_21 hl rfl (by decide) rfl (fun ls hl => ?_)
        refine lv_goto (tgt := 4) hx hb dX5_left_24 (by decide) ?_
        exact ih (t + 1) (sv + (T (cx p (4 + t)))) _ _ _ (by omega) hr hP hD hS (lv_sub hl [2, 3, 1, 0] rfl)
  exact L4 (6) 0 0 _ _ _ (by omega) rfl hP hD hS (lv_sub hl [2, 3, 1, 0] rfl)
theorem ykSX5_tasted : yX5_tasted.cls ≠ "java/lang/invoke/MethodHandle" ∧ yX5_tasted.cls ≠ "java/lang/invoke/VarHandle" ∧ (parseMethodDescriptor yX5_tasted.desc).map (fun d => d.parameters.length) = some 1 := by decide +kernel
theorem ykVX5_tasted : yX5_tasted.cls = RX5 ∧ yX5_tasted.cls ≠ "java/lang/invoke/MethodHandle" ∧ yX5_tasted.cls ≠ "java/lang/invoke/VarHandle" ∧ (parseMethodDescriptor yX5_tasted.desc).map (fun d => d.parameters.length) = some 1 := ⟨rfl, ykSX5_tasted⟩
set_option maxHeartbeats 4000000 in
set_option maxRecDepth 100000 in
theorem kX5_tasted {l : Launch} {D : va_G} {cI cB : ClassId} (r : Nat → Nat) (ik : Int) (tn : Int) (j : Nat → Int) (T : Tb) (p : Nat) (hp : p < 8) (hpl : ∀ t : Nat, t < 6 → 0 ≤ T (cx p (4 + t)) ∧ T (cx p (4 + t)) ≤ 999) : Ct l yX5_tasted wsX5_tasted 1 22 D [(cI, .int), (cB, .byte)] [.ref (r 0), .int (iI ((p : Nat) : Int))] (wRo r ik tn j ++ (wA cI (r 1) 100 T)) (S := Unit) (fun _ => some (.int (iI (tsF T p)))) (fun _ => True) (fun _ => wRo r ik tn j ++ (wA cI (r 1) 100 T)) := by
  refine CtI.of (cc := cX5_tasted) (maxL := 4) (by decide +kernel) rfl (Nat.le_of_ble_eq_true rfl) ?_
  intro pg e s m args below meth c Q A hx hb hml hts hown hP hK hD hS ls hl kend
  have hown : s.vm.findClass RX5 = some m.cls := hown
  have hl : lv_has ls 4 [(0, .ref (r 0)), (1, .int (iI ((p : Nat) : Int)))] := hl
  refine x_iconst hx hb dX5_tasted_0 ?_
  refine lv_istore_n (lv' := [(2, .int (iI 0)), (0, .ref (r 0)), (1, .int (iI ((p : Nat) : Int)))]) hx hb dX5_tasted_1 rfl hl (by decide) rfl (fun ls hl => ?_)
  refine x_iconst hx hb dX5_tasted_2 ?_
  refine lv_istore_n (lv' := [(3, .int (iI 0)), (2, .int (iI 0)), (0, .ref (r 0)), (1, .int (iI ((p : Nat) : Int)))]) hx hb dX5_tasted_3 rfl hl (by decide) rfl (fun ls hl => ?_)
  have L4 : ∀ (k t : Nat) (sv : Int) (H : Heap) (locs : List Loc) (ls : Array Slot), t + k = 6 → (run (fun (t : Nat) (s : Int) => orI s (if 0 < T (cx p (4 + t)) then shlI 1 t else 0)) k t sv = tsF T p) → va_P D vwCl (wRo r ik tn j ++ (wA cI (r 1) 100 T)) H → va_D A (wRo r ik tn j ++ (wA cI (r 1) 100 T)) → va_S A s.heap H locs → lv_has ls 4 [(0, .ref (r 0)), (1, .int (iI ((p : Nat) : Int))), (2, .int (iI sv)), (3, .int (iI ((t : Nat) : Int)))] → W pg l e { frames := 1, cells := 0, slots := 0, locals := 22 } s m args below meth c H locs 0 0 Q (F0 m 4 ls []) := by
    intro k
    induction k with
    | zero =>
      intro t sv H locs ls hkt hr hP hD hS hl
      refine lv_iload_n hx hb dX5_tasted_4 rfl (lv_at hl 3 rfl) ?_
      refine x_bipush hx hb dX5_tasted_5 (by decide) ?_
      refine x_icmp_ge (tgt := 37) hx hb (by omega) (by decide) dX5_tasted_7 (by decide) (fun c_7 => ?_) (fun c_7 => ?_)
      · refine lv_iload_n hx hb dX5_tasted_37 rfl (lv_at hl 2 rfl) ?_
        exact kend () hP hS (an_i (hr)) trivial dX5_tasted_38
      · exfalso; omega
    | succ k ih =>
      intro t sv H locs ls hkt hr hP hD hS hl
      refine lv_iload_n hx hb dX5_tasted_4 rfl (lv_at hl 3 rfl) ?_
      refine x_bipush hx hb dX5_tasted_5 (by decide) ?_
      refine x_icmp_ge (tgt := 37) hx hb (by omega) (by decide) dX5_tasted_7 (by decide) (fun c_7 => ?_) (fun c_7 => ?_)
      · exfalso; omega
      · refine lv_iload_n hx hb dX5_tasted_10 rfl (lv_at hl 2 rfl) ?_
        refine lv_aload_n hx hb dX5_tasted_11 rfl (lv_at hl 0 rfl) ?_
        refine lv_iload_n hx hb dX5_tasted_12 rfl (lv_at hl 1 rfl) ?_
        refine x_iconst hx hb dX5_tasted_13 ?_
        refine lv_iload_n hx hb dX5_tasted_14 rfl (lv_at hl 3 rfl) ?_
        refine x_iadd hx hb dX5_tasted_15 ?_
        refine x_topi ((4 + t : Nat) : Int) (by omega) ?_
        refine x_callV (As := [.int (iI ((p : Nat) : Int)), .int (iI ((4 + t : Nat) : Int))]) (rest := [.int (iI sv)]) ⟨hx, hb, hml, hown, hts⟩ (kX5_its r ik tn j T p (4 + t) (by omega) (by omega)) (cwV 2 hts gX5_tasted_X5_its rfl rfl rfl ykVX5_its ⟨Nat.le_of_ble_eq_true rfl, Nat.le_of_ble_eq_true rfl⟩) hP hK hD hS 0 4 rfl rfl rfl [0, 1] rfl (by decide) (fun _ => rfl) (fun _ => wRo r ik tn j ++ (wA cI (r 1) 100 T)) (fun _ => rfl) rfl hl.1 rfl (Nat.le_of_ble_eq_true rfl) dX5_tasted_16 ⟨Nat.le_of_ble_eq_true rfl, Nat.le_of_ble_eq_true rfl⟩ (fun _ H locs _ hP hD hS => ?_)
        refine W.eq (g2 := F0 m 19 ls [.int (iI (T (cx p (4 + t)))), .int (iI sv)]) rfl ?_
        have hv := hpl t (by omega)
        refine x_if_le (tgt := 28) hx hb (by omega) dX5_tasted_19 (by decide) (fun c_19 => ?_) (fun c_19 => ?_)
        · refine x_iconst hx hb dX5_tasted_28 ?_
          refine x_ior hx hb dX5_tasted_29 ?_
          refine lv_istore_n (lv' := [(2, .int (iI (orI sv 0))), (0, .ref (r 0)), (1, .int (iI ((p : Nat) : Int))), (3, .int (iI ((t : Nat) : Int)))]) hx hb dX5_tasted_30 rfl hl (by decide) rfl (fun ls hl => ?_)
          refine x_iinc hx hb 3 ((t + 1 : Nat) : Int) (by omega) [(3, .int (iI ((t + 1 : Nat) : Int))), (2, .int (iI (orI sv 0))), (0, .ref (r 0)), (1, .int (iI ((p : Nat) : Int)))] dX5_tasted_31 hl rfl (by decide) rfl (fun ls hl => ?_)
          refine lv_goto (tgt := 4) hx hb dX5_tasted_34 (by decide) ?_
          exact ih (t + 1) (orI sv 0) _ _ _ (by omega) (run_step hr (by rw [if_neg (by omega)])) hP hD hS (lv_sub hl [2, 3, 1, 0] rfl)
        · refine x_iconst hx hb dX5_tasted_22 ?_
          refine lv_iload_n hx hb dX5_tasted_23 rfl (lv_at hl 3 rfl) ?_
          refine x_ishl hx hb dX5_tasted_24 ?_
          refine lv_goto (tgt := 29) hx hb dX5_tasted_25 (by decide) ?_
          refine x_ior hx hb dX5_tasted_29 ?_
          refine lv_istore_n (lv' := [(2, .int (iI (orI sv (shlI 1 ((t : Nat) : Int))))), (0, .ref (r 0)), (1, .int (iI ((p : Nat) : Int))), (3, .int (iI ((t : Nat) : Int)))]) hx hb dX5_tasted_30 rfl hl (by decide) rfl (fun ls hl => ?_)
          refine x_iinc hx hb 3 ((t + 1 : Nat) : Int) (by omega) [(3, .int (iI ((t + 1 : Nat) : Int))), (2, .int (iI (orI sv (shlI 1 ((t : Nat) : Int))))), (0, .ref (r 0)), (1, .int (iI ((p : Nat) : Int)))] dX5_tasted_31 hl rfl (by decide) rfl (fun ls hl => ?_)
          refine lv_goto (tgt := 4) hx hb dX5_tasted_34 (by decide) ?_
          exact ih (t + 1) (orI sv (shlI 1 ((t : Nat) : Int))) _ _ _ (by omega) (run_step hr (by rw [if_pos (by omega)])) hP hD hS (lv_sub hl [2, 3, 1, 0] rfl)
  exact L4 (6) 0 0 _ _ _ (by omega) rfl hP hD hS (lv_sub hl [2, 3, 1, 0] rfl)
theorem ykSX5_chewsOf : yX5_chewsOf.cls ≠ "java/lang/invoke/MethodHandle" ∧ yX5_chewsOf.cls ≠ "java/lang/invoke/VarHandle" ∧ (parseMethodDescriptor yX5_chewsOf.desc).map (fun d => d.parameters.length) = some 2 := by decide +kernel
theorem ykVX5_chewsOf : yX5_chewsOf.cls = RX5 ∧ yX5_chewsOf.cls ≠ "java/lang/invoke/MethodHandle" ∧ yX5_chewsOf.cls ≠ "java/lang/invoke/VarHandle" ∧ (parseMethodDescriptor yX5_chewsOf.desc).map (fun d => d.parameters.length) = some 2 := ⟨rfl, ykSX5_chewsOf⟩
set_option maxRecDepth 20000 in
theorem iT_X5_chewsOf_X5 : ∀ w ∈ u_ws RX5 TX5 18, w ∈ wsX5_chewsOf := by decide +kernel
set_option maxHeartbeats 4000000 in
set_option maxRecDepth 100000 in
theorem kX5_chewsOf {l : Launch} {D : va_G} {cI cB : ClassId} (r : Nat → Nat) (ik : Int) (tn : Int) (j : Nat → Int) (T : Tb) (kd : Int) (t : Nat) (hk : 0 ≤ kd ∧ kd ≤ 6) (ht : t < 6) (hv : 0 ≤ T 3 ∧ T 3 ≤ 9) : Ct l yX5_chewsOf wsX5_chewsOf 0 0 D [(cI, .int), (cB, .byte)] [.ref (r 0), .int (iI kd), .int (iI ((t : Nat) : Int))] (wRo r ik tn j ++ (wA cI (r 1) 100 T)) (S := Unit) (fun _ => some (.int (iI (chF kd ((t : Nat) : Int) (T 3))))) (fun _ => True) (fun _ => wRo r ik tn j ++ (wA cI (r 1) 100 T)) := by
  refine CtI.of (cc := cX5_chewsOf) (maxL := 4) (by decide +kernel) rfl (Nat.le_of_ble_eq_true rfl) ?_
  intro pg e s m args below meth c Q A hx hb hml hts hown hP hK hD hS ls hl kend
  have hown : s.vm.findClass RX5 = some m.cls := hown
  have hl : lv_has ls 4 [(0, .ref (r 0)), (1, .int (iI kd)), (2, .int (iI ((t : Nat) : Int)))] := hl
  refine lv_iload_n hx hb dX5_chewsOf_0 rfl (lv_at hl 1 rfl) ?_
  refine x_iconst hx hb dX5_chewsOf_1 ?_
  refine x_icmp_ne (tgt := 9) hx hb (by omega) (by decide) dX5_chewsOf_2 (by decide) (fun c_2 => ?_) (fun c_2 => ?_)
  · refine x_iconst hx hb dX5_chewsOf_9 ?_
    refine lv_istore_n (lv' := [(3, .int (iI 0)), (0, .ref (r 0)), (1, .int (iI kd)), (2, .int (iI ((t : Nat) : Int)))]) hx hb dX5_chewsOf_10 rfl hl (by decide) rfl (fun ls hl => ?_)
    refine lv_iload_n hx hb dX5_chewsOf_11 rfl (lv_at hl 3 rfl) ?_
    rcases x_sw ((t : Nat) : Int) 0 4 with c_12 | c_12
    · refine lv_tableOut (tgt := 131) hx hb dX5_chewsOf_12 (by rw [iI_to (by omega)]; exact c_12) (by decide) ?_
      refine lv_iload_n hx hb dX5_chewsOf_131 rfl (lv_at hl 0 rfl) ?_
      exact kend () hP hS (an_i ((by unfold chF; (repeat' split) <;> omega))) trivial dX5_chewsOf_132
    · obtain ⟨c_12a, c_12b⟩ := c_12
      by_cases e_12 : ((t : Nat) : Int) = 0
      · refine lv_tableIn (off := 36) (tgt := 48) hx hb dX5_chewsOf_12 (by rw [iI_to (by omega)]; omega) (by rw [iI_to (by omega)]; omega) (by rw [iI_to (by omega), e_12]; rfl) (by decide) ?_
        refine x_iconst hx hb dX5_chewsOf_48 ?_
        refine lv_iload_n hx hb dX5_chewsOf_49 rfl (lv_at hl 0 rfl) ?_
        refine x_iadd hx hb dX5_chewsOf_50 ?_
        refine x_topi 1 (by decide) ?_
        exact kend () hP hS (an_i ((by unfold chF; (repeat' split) <;> omega))) trivial dX5_chewsOf_51
      by_cases e_12 : ((t : Nat) : Int) = 1
      · refine lv_tableIn (off := 40) (tgt := 52) hx hb dX5_chewsOf_12 (by rw [iI_to (by omega)]; omega) (by rw [iI_to (by omega)]; omega) (by rw [iI_to (by omega), e_12]; rfl) (by decide) ?_
        refine lv_iload_n hx hb dX5_chewsOf_52 rfl (lv_at hl 2 rfl) ?_
        refine x_iconst hx hb dX5_chewsOf_53 ?_
        refine x_icmp_eq (tgt := 63) hx hb (by omega) (by decide) dX5_chewsOf_54 (by decide) (fun c_54 => ?_) (fun c_54 => ?_)
        · refine x_iconst hx hb dX5_chewsOf_63 ?_
          refine lv_goto (tgt := 86) hx hb dX5_chewsOf_64 (by decide) ?_
          exact kend () hP hS (an_i ((by unfold chF; (repeat' split) <;> omega))) trivial dX5_chewsOf_86
        · refine lv_iload_n hx hb dX5_chewsOf_57 rfl (lv_at hl 2 rfl) ?_
          refine x_bipush hx hb dX5_chewsOf_58 (by decide) ?_
          refine x_icmp_ne (tgt := 67) hx hb (by omega) (by decide) dX5_chewsOf_60 (by decide) (fun c_60 => ?_) (fun c_60 => ?_)
          · refine x_iconst hx hb dX5_chewsOf_67 ?_
            refine lv_iload_n hx hb dX5_chewsOf_68 rfl (lv_at hl 0 rfl) ?_
            refine x_iadd hx hb dX5_chewsOf_69 ?_
            refine x_topi 3 (by decide) ?_
            refine lv_iload_n hx hb dX5_chewsOf_70 rfl (lv_at hl 2 rfl) ?_
            refine x_iconst hx hb dX5_chewsOf_71 ?_
            refine x_icmp_ne (tgt := 79) hx hb (by omega) (by decide) dX5_chewsOf_72 (by decide) (fun c_72 => ?_) (fun c_72 => ?_)
            · refine lv_aload_n hx hb dX5_chewsOf_79 rfl (lv_at hl 1 rfl) ?_
              refine va_get (D := D) (ci := 4) (v := .ref (r 1)) (C := RX5) (T := TX5) (N := 18) hx hb hts (iT_X5_chewsOf_X5) hown hK hP 0 rfl rfl 0 (by decide) (hts (.fieldLink RX5 7 "WordSupperModel" "s" "[I") (by decide +kernel)) (fun _ h9 => h9) rfl dX5_chewsOf_80 ?_
              refine x_iconst hx hb dX5_chewsOf_83 ?_
              refine x_iald hx hb hK hP 1 0 rfl rfl 3 rfl (by omega) (by decide) (T 3) (gd_at _ (by omega)) dX5_chewsOf_84 ?_
              refine x_iadd hx hb dX5_chewsOf_85 ?_
              exact kend () hP hS (an_i ((by unfold chF; (repeat' split) <;> omega))) trivial dX5_chewsOf_86
            · refine x_iconst hx hb dX5_chewsOf_75 ?_
              refine lv_goto (tgt := 85) hx hb dX5_chewsOf_76 (by decide) ?_
              refine x_iadd hx hb dX5_chewsOf_85 ?_
              refine x_topi 3 (by decide) ?_
              exact kend () hP hS (an_i ((by unfold chF; (repeat' split) <;> omega))) trivial dX5_chewsOf_86
          · refine x_iconst hx hb dX5_chewsOf_63 ?_
            refine lv_goto (tgt := 86) hx hb dX5_chewsOf_64 (by decide) ?_
            exact kend () hP hS (an_i ((by unfold chF; (repeat' split) <;> omega))) trivial dX5_chewsOf_86
      by_cases e_12 : ((t : Nat) : Int) = 2
      · refine lv_tableIn (off := 75) (tgt := 87) hx hb dX5_chewsOf_12 (by rw [iI_to (by omega)]; omega) (by rw [iI_to (by omega)]; omega) (by rw [iI_to (by omega), e_12]; rfl) (by decide) ?_
        refine lv_iload_n hx hb dX5_chewsOf_87 rfl (lv_at hl 2 rfl) ?_
        refine x_iconst hx hb dX5_chewsOf_88 ?_
        refine x_icmp_ne (tgt := 96) hx hb (by omega) (by decide) dX5_chewsOf_89 (by decide) (fun c_89 => ?_) (fun c_89 => ?_)
        · refine lv_iload_n hx hb dX5_chewsOf_96 rfl (lv_at hl 2 rfl) ?_
          refine x_iconst hx hb dX5_chewsOf_97 ?_
          refine x_icmp_eq (tgt := 106) hx hb (by omega) (by decide) dX5_chewsOf_98 (by decide) (fun c_98 => ?_) (fun c_98 => ?_)
          · refine x_iconst hx hb dX5_chewsOf_106 ?_
            refine lv_iload_n hx hb dX5_chewsOf_107 rfl (lv_at hl 0 rfl) ?_
            refine x_iadd hx hb dX5_chewsOf_108 ?_
            refine x_topi 2 (by decide) ?_
            refine lv_goto (tgt := 113) hx hb dX5_chewsOf_109 (by decide) ?_
            exact kend () hP hS (an_i ((by unfold chF; (repeat' split) <;> omega))) trivial dX5_chewsOf_113
          · refine lv_iload_n hx hb dX5_chewsOf_101 rfl (lv_at hl 2 rfl) ?_
            refine x_iconst hx hb dX5_chewsOf_102 ?_
            refine x_icmp_ne (tgt := 112) hx hb (by omega) (by decide) dX5_chewsOf_103 (by decide) (fun c_103 => ?_) (fun c_103 => ?_)
            · refine x_iconst hx hb dX5_chewsOf_112 ?_
              exact kend () hP hS (an_i ((by unfold chF; (repeat' split) <;> omega))) trivial dX5_chewsOf_113
            · refine x_iconst hx hb dX5_chewsOf_106 ?_
              refine lv_iload_n hx hb dX5_chewsOf_107 rfl (lv_at hl 0 rfl) ?_
              refine x_iadd hx hb dX5_chewsOf_108 ?_
              refine x_topi 2 (by decide) ?_
              refine lv_goto (tgt := 113) hx hb dX5_chewsOf_109 (by decide) ?_
              exact kend () hP hS (an_i ((by unfold chF; (repeat' split) <;> omega))) trivial dX5_chewsOf_113
        · refine x_iconst hx hb dX5_chewsOf_92 ?_
          refine lv_goto (tgt := 113) hx hb dX5_chewsOf_93 (by decide) ?_
          exact kend () hP hS (an_i ((by unfold chF; (repeat' split) <;> omega))) trivial dX5_chewsOf_113
      by_cases e_12 : ((t : Nat) : Int) = 3
      · refine lv_tableIn (off := 102) (tgt := 114) hx hb dX5_chewsOf_12 (by rw [iI_to (by omega)]; omega) (by rw [iI_to (by omega)]; omega) (by rw [iI_to (by omega), e_12]; rfl) (by decide) ?_
        refine x_iconst hx hb dX5_chewsOf_114 ?_
        refine lv_iload_n hx hb dX5_chewsOf_115 rfl (lv_at hl 0 rfl) ?_
        refine x_iadd hx hb dX5_chewsOf_116 ?_
        refine x_topi 4 (by decide) ?_
        exact kend () hP hS (an_i ((by unfold chF; (repeat' split) <;> omega))) trivial dX5_chewsOf_117
      have e_12 : ((t : Nat) : Int) = 4 := by omega
      refine lv_tableIn (off := 106) (tgt := 118) hx hb dX5_chewsOf_12 (by rw [iI_to (by omega)]; omega) (by rw [iI_to (by omega)]; omega) (by rw [iI_to (by omega), e_12]; rfl) (by decide) ?_
      refine lv_iload_n hx hb dX5_chewsOf_118 rfl (lv_at hl 2 rfl) ?_
      refine x_bipush hx hb dX5_chewsOf_119 (by decide) ?_
      refine x_icmp_ne (tgt := 129) hx hb (by omega) (by decide) dX5_chewsOf_121 (by decide) (fun c_121 => ?_) (fun c_121 => ?_)
      · refine x_iconst hx hb dX5_chewsOf_129 ?_
        exact kend () hP hS (an_i ((by unfold chF; (repeat' split) <;> omega))) trivial dX5_chewsOf_130
      · refine x_bipush hx hb dX5_chewsOf_124 (by decide) ?_
        refine lv_goto (tgt := 130) hx hb dX5_chewsOf_126 (by decide) ?_
        exact kend () hP hS (an_i ((by unfold chF; (repeat' split) <;> omega))) trivial dX5_chewsOf_130
  · refine x_iconst hx hb dX5_chewsOf_5 ?_
    refine lv_goto (tgt := 10) hx hb dX5_chewsOf_6 (by decide) ?_
    refine lv_istore_n (lv' := [(3, .int (iI 1)), (0, .ref (r 0)), (1, .int (iI kd)), (2, .int (iI ((t : Nat) : Int)))]) hx hb dX5_chewsOf_10 rfl hl (by decide) rfl (fun ls hl => ?_)
    refine lv_iload_n hx hb dX5_chewsOf_11 rfl (lv_at hl 3 rfl) ?_
    rcases x_sw ((t : Nat) : Int) 0 4 with c_12 | c_12
    · refine lv_tableOut (tgt := 131) hx hb dX5_chewsOf_12 (by rw [iI_to (by omega)]; exact c_12) (by decide) ?_
      refine lv_iload_n hx hb dX5_chewsOf_131 rfl (lv_at hl 0 rfl) ?_
      exact kend () hP hS (an_i ((by unfold chF; (repeat' split) <;> omega))) trivial dX5_chewsOf_132
    · obtain ⟨c_12a, c_12b⟩ := c_12
      by_cases e_12 : ((t : Nat) : Int) = 0
      · refine lv_tableIn (off := 36) (tgt := 48) hx hb dX5_chewsOf_12 (by rw [iI_to (by omega)]; omega) (by rw [iI_to (by omega)]; omega) (by rw [iI_to (by omega), e_12]; rfl) (by decide) ?_
        refine x_iconst hx hb dX5_chewsOf_48 ?_
        refine lv_iload_n hx hb dX5_chewsOf_49 rfl (lv_at hl 0 rfl) ?_
        refine x_iadd hx hb dX5_chewsOf_50 ?_
        refine x_topi 2 (by decide) ?_
        exact kend () hP hS (an_i ((by unfold chF; (repeat' split) <;> omega))) trivial dX5_chewsOf_51
      by_cases e_12 : ((t : Nat) : Int) = 1
      · refine lv_tableIn (off := 40) (tgt := 52) hx hb dX5_chewsOf_12 (by rw [iI_to (by omega)]; omega) (by rw [iI_to (by omega)]; omega) (by rw [iI_to (by omega), e_12]; rfl) (by decide) ?_
        refine lv_iload_n hx hb dX5_chewsOf_52 rfl (lv_at hl 2 rfl) ?_
        refine x_iconst hx hb dX5_chewsOf_53 ?_
        refine x_icmp_eq (tgt := 63) hx hb (by omega) (by decide) dX5_chewsOf_54 (by decide) (fun c_54 => ?_) (fun c_54 => ?_)
        · refine x_iconst hx hb dX5_chewsOf_63 ?_
          refine lv_goto (tgt := 86) hx hb dX5_chewsOf_64 (by decide) ?_
          exact kend () hP hS (an_i ((by unfold chF; (repeat' split) <;> omega))) trivial dX5_chewsOf_86
        · refine lv_iload_n hx hb dX5_chewsOf_57 rfl (lv_at hl 2 rfl) ?_
          refine x_bipush hx hb dX5_chewsOf_58 (by decide) ?_
          refine x_icmp_ne (tgt := 67) hx hb (by omega) (by decide) dX5_chewsOf_60 (by decide) (fun c_60 => ?_) (fun c_60 => ?_)
          · refine x_iconst hx hb dX5_chewsOf_67 ?_
            refine lv_iload_n hx hb dX5_chewsOf_68 rfl (lv_at hl 0 rfl) ?_
            refine x_iadd hx hb dX5_chewsOf_69 ?_
            refine x_topi 4 (by decide) ?_
            refine lv_iload_n hx hb dX5_chewsOf_70 rfl (lv_at hl 2 rfl) ?_
            refine x_iconst hx hb dX5_chewsOf_71 ?_
            refine x_icmp_ne (tgt := 79) hx hb (by omega) (by decide) dX5_chewsOf_72 (by decide) (fun c_72 => ?_) (fun c_72 => ?_)
            · refine lv_aload_n hx hb dX5_chewsOf_79 rfl (lv_at hl 1 rfl) ?_
              refine va_get (D := D) (ci := 4) (v := .ref (r 1)) (C := RX5) (T := TX5) (N := 18) hx hb hts (iT_X5_chewsOf_X5) hown hK hP 0 rfl rfl 0 (by decide) (hts (.fieldLink RX5 7 "WordSupperModel" "s" "[I") (by decide +kernel)) (fun _ h9 => h9) rfl dX5_chewsOf_80 ?_
              refine x_iconst hx hb dX5_chewsOf_83 ?_
              refine x_iald hx hb hK hP 1 0 rfl rfl 3 rfl (by omega) (by decide) (T 3) (gd_at _ (by omega)) dX5_chewsOf_84 ?_
              refine x_iadd hx hb dX5_chewsOf_85 ?_
              exact kend () hP hS (an_i ((by unfold chF; (repeat' split) <;> omega))) trivial dX5_chewsOf_86
            · refine x_iconst hx hb dX5_chewsOf_75 ?_
              refine lv_goto (tgt := 85) hx hb dX5_chewsOf_76 (by decide) ?_
              refine x_iadd hx hb dX5_chewsOf_85 ?_
              refine x_topi 4 (by decide) ?_
              exact kend () hP hS (an_i ((by unfold chF; (repeat' split) <;> omega))) trivial dX5_chewsOf_86
          · refine x_iconst hx hb dX5_chewsOf_63 ?_
            refine lv_goto (tgt := 86) hx hb dX5_chewsOf_64 (by decide) ?_
            exact kend () hP hS (an_i ((by unfold chF; (repeat' split) <;> omega))) trivial dX5_chewsOf_86
      by_cases e_12 : ((t : Nat) : Int) = 2
      · refine lv_tableIn (off := 75) (tgt := 87) hx hb dX5_chewsOf_12 (by rw [iI_to (by omega)]; omega) (by rw [iI_to (by omega)]; omega) (by rw [iI_to (by omega), e_12]; rfl) (by decide) ?_
        refine lv_iload_n hx hb dX5_chewsOf_87 rfl (lv_at hl 2 rfl) ?_
        refine x_iconst hx hb dX5_chewsOf_88 ?_
        refine x_icmp_ne (tgt := 96) hx hb (by omega) (by decide) dX5_chewsOf_89 (by decide) (fun c_89 => ?_) (fun c_89 => ?_)
        · refine lv_iload_n hx hb dX5_chewsOf_96 rfl (lv_at hl 2 rfl) ?_
          refine x_iconst hx hb dX5_chewsOf_97 ?_
          refine x_icmp_eq (tgt := 106) hx hb (by omega) (by decide) dX5_chewsOf_98 (by decide) (fun c_98 => ?_) (fun c_98 => ?_)
          · refine x_iconst hx hb dX5_chewsOf_106 ?_
            refine lv_iload_n hx hb dX5_chewsOf_107 rfl (lv_at hl 0 rfl) ?_
            refine x_iadd hx hb dX5_chewsOf_108 ?_
            refine x_topi 3 (by decide) ?_
            refine lv_goto (tgt := 113) hx hb dX5_chewsOf_109 (by decide) ?_
            exact kend () hP hS (an_i ((by unfold chF; (repeat' split) <;> omega))) trivial dX5_chewsOf_113
          · refine lv_iload_n hx hb dX5_chewsOf_101 rfl (lv_at hl 2 rfl) ?_
            refine x_iconst hx hb dX5_chewsOf_102 ?_
            refine x_icmp_ne (tgt := 112) hx hb (by omega) (by decide) dX5_chewsOf_103 (by decide) (fun c_103 => ?_) (fun c_103 => ?_)
            · refine x_iconst hx hb dX5_chewsOf_112 ?_
              exact kend () hP hS (an_i ((by unfold chF; (repeat' split) <;> omega))) trivial dX5_chewsOf_113
            · refine x_iconst hx hb dX5_chewsOf_106 ?_
              refine lv_iload_n hx hb dX5_chewsOf_107 rfl (lv_at hl 0 rfl) ?_
              refine x_iadd hx hb dX5_chewsOf_108 ?_
              refine x_topi 3 (by decide) ?_
              refine lv_goto (tgt := 113) hx hb dX5_chewsOf_109 (by decide) ?_
              exact kend () hP hS (an_i ((by unfold chF; (repeat' split) <;> omega))) trivial dX5_chewsOf_113
        · refine x_iconst hx hb dX5_chewsOf_92 ?_
          refine lv_goto (tgt := 113) hx hb dX5_chewsOf_93 (by decide) ?_
          exact kend () hP hS (an_i ((by unfold chF; (repeat' split) <;> omega))) trivial dX5_chewsOf_113
      by_cases e_12 : ((t : Nat) : Int) = 3
      · refine lv_tableIn (off := 102) (tgt := 114) hx hb dX5_chewsOf_12 (by rw [iI_to (by omega)]; omega) (by rw [iI_to (by omega)]; omega) (by rw [iI_to (by omega), e_12]; rfl) (by decide) ?_
        refine x_iconst hx hb dX5_chewsOf_114 ?_
        refine lv_iload_n hx hb dX5_chewsOf_115 rfl (lv_at hl 0 rfl) ?_
        refine x_iadd hx hb dX5_chewsOf_116 ?_
        refine x_topi 5 (by decide) ?_
        exact kend () hP hS (an_i ((by unfold chF; (repeat' split) <;> omega))) trivial dX5_chewsOf_117
      have e_12 : ((t : Nat) : Int) = 4 := by omega
      refine lv_tableIn (off := 106) (tgt := 118) hx hb dX5_chewsOf_12 (by rw [iI_to (by omega)]; omega) (by rw [iI_to (by omega)]; omega) (by rw [iI_to (by omega), e_12]; rfl) (by decide) ?_
      refine lv_iload_n hx hb dX5_chewsOf_118 rfl (lv_at hl 2 rfl) ?_
      refine x_bipush hx hb dX5_chewsOf_119 (by decide) ?_
      refine x_icmp_ne (tgt := 129) hx hb (by omega) (by decide) dX5_chewsOf_121 (by decide) (fun c_121 => ?_) (fun c_121 => ?_)
      · refine x_iconst hx hb dX5_chewsOf_129 ?_
        exact kend () hP hS (an_i ((by unfold chF; (repeat' split) <;> omega))) trivial dX5_chewsOf_130
      · refine x_bipush hx hb dX5_chewsOf_124 (by decide) ?_
        refine lv_goto (tgt := 130) hx hb dX5_chewsOf_126 (by decide) ?_
        exact kend () hP hS (an_i ((by unfold chF; (repeat' split) <;> omega))) trivial dX5_chewsOf_130
theorem ykSX5_appetite : yX5_appetite.cls ≠ "java/lang/invoke/MethodHandle" ∧ yX5_appetite.cls ≠ "java/lang/invoke/VarHandle" ∧ (parseMethodDescriptor yX5_appetite.desc).map (fun d => d.parameters.length) = some 1 := by decide +kernel
theorem ykVX5_appetite : yX5_appetite.cls = RX5 ∧ yX5_appetite.cls ≠ "java/lang/invoke/MethodHandle" ∧ yX5_appetite.cls ≠ "java/lang/invoke/VarHandle" ∧ (parseMethodDescriptor yX5_appetite.desc).map (fun d => d.parameters.length) = some 1 := ⟨rfl, ykSX5_appetite⟩
set_option maxRecDepth 20000 in
theorem iT_X5_appetite_X5 : ∀ w ∈ u_ws RX5 TX5 18, w ∈ wsX5_appetite := by decide +kernel
set_option maxHeartbeats 4000000 in
set_option maxRecDepth 100000 in
theorem kX5_appetite {l : Launch} {D : va_G} {cI cB : ClassId} (r : Nat → Nat) (ik : Int) (tn : Int) (j : Nat → Int) (T : Tb) (p : Nat) (B : Int) (hI : Inv B T) (hp : (p : Int) < T 0) : Ct l yX5_appetite wsX5_appetite 2 45 D [(cI, .int), (cB, .byte)] [.ref (r 0), .int (iI ((p : Nat) : Int))] (wRo r ik tn j ++ (wA cI (r 1) 100 T)) (S := Unit) (fun _ => some (.int (iI (apF T p)))) (fun _ => True) (fun _ => wRo r ik tn j ++ (wA cI (r 1) 100 T)) := by
  refine CtI.of (cc := cX5_appetite) (maxL := 4) (by decide +kernel) rfl (Nat.le_of_ble_eq_true rfl) ?_
  intro pg e s m args below meth c Q A hx hb hml hts hown hP hK hD hS ls hl kend
  have hown : s.vm.findClass RX5 = some m.cls := hown
  have hl : lv_has ls 4 [(0, .ref (r 0)), (1, .int (iI ((p : Nat) : Int)))] := hl
  have hn := Inv_n hI
  have h1 := Inv_k hI hp
  have h2 := Inv_f hI hp
  have h3 := Inv_v hI
  have h4 := Inv_lf hI hp
  refine x_bipush hx hb dX5_appetite_0 (by decide) ?_
  refine lv_aload_n hx hb dX5_appetite_2 rfl (lv_at hl 0 rfl) ?_
  refine lv_iload_n hx hb dX5_appetite_3 rfl (lv_at hl 1 rfl) ?_
  refine x_iconst hx hb dX5_appetite_4 ?_
  refine x_callV (As := [.int (iI ((p : Nat) : Int)), .int (iI 2)]) (rest := [.int (iI 12)]) ⟨hx, hb, hml, hown, hts⟩ (kX5_its r ik tn j T p 2 (by omega) (by omega)) (cwV 2 hts gX5_appetite_X5_its rfl rfl rfl ykVX5_its ⟨Nat.le_of_ble_eq_true rfl, Nat.le_of_ble_eq_true rfl⟩) hP hK hD hS 0 4 rfl rfl rfl [0, 1] rfl (by decide) (fun _ => rfl) (fun _ => wRo r ik tn j ++ (wA cI (r 1) 100 T)) (fun _ => rfl) rfl hl.1 rfl (Nat.le_of_ble_eq_true rfl) dX5_appetite_5 ⟨Nat.le_of_ble_eq_true rfl, Nat.le_of_ble_eq_true rfl⟩ (fun _ H locs _ hP hD hS => ?_)
  refine W.eq (g2 := F0 m 8 ls [.int (iI (T (cx p 2))), .int (iI 12)]) rfl ?_
  refine x_bipush hx hb dX5_appetite_8 (by decide) ?_
  refine x_idiv hx hb (by omega) (by omega) (by decide) (by decide) dX5_appetite_10 ?_
  refine x_isub hx hb dX5_appetite_11 ?_
  refine lv_istore_n (lv' := [(2, .int (iI (12 - ((T (cx p 2)) / 10)))), (0, .ref (r 0)), (1, .int (iI ((p : Nat) : Int)))]) hx hb dX5_appetite_12 rfl hl (by decide) rfl (fun ls hl => ?_)
  refine x_bipush hx hb dX5_appetite_13 (by decide) ?_
  refine lv_aload_n hx hb dX5_appetite_15 rfl (lv_at hl 1 rfl) ?_
  refine lv_iload_n hx hb dX5_appetite_16 rfl (lv_at hl 2 rfl) ?_
  refine x_callV (As := [.int (iI ((p : Nat) : Int))]) (rest := [.int (iI 6)]) ⟨hx, hb, hml, hown, hts⟩ (kX5_left r ik tn j T p (by omega)) (cwV 1 hts gX5_appetite_X5_left rfl rfl rfl ykVX5_left ⟨Nat.le_of_ble_eq_true rfl, Nat.le_of_ble_eq_true rfl⟩) hP hK hD hS 0 4 rfl rfl rfl [0, 1] rfl (by decide) (fun _ => rfl) (fun _ => wRo r ik tn j ++ (wA cI (r 1) 100 T)) (fun _ => rfl) rfl hl.1 rfl (Nat.le_of_ble_eq_true rfl) dX5_appetite_17 ⟨Nat.le_of_ble_eq_true rfl, Nat.le_of_ble_eq_true rfl⟩ (fun _ H locs _ hP hD hS => ?_)
  refine W.eq (g2 := F0 m 20 ls [.int (iI (lfF T p)), .int (iI 6)]) rfl ?_
  refine x_if_ne (tgt := 28) hx hb (by omega) dX5_appetite_20 (by decide) (fun c_20 => ?_) (fun c_20 => ?_)
  · refine x_iconst hx hb dX5_appetite_28 ?_
    refine x_iadd hx hb dX5_appetite_29 ?_
    refine x_topi 6 (by decide) ?_
    refine lv_istore_n (lv' := [(3, .int (iI 6)), (2, .int (iI (12 - ((T (cx p 2)) / 10)))), (0, .ref (r 0)), (1, .int (iI ((p : Nat) : Int)))]) hx hb dX5_appetite_30 rfl hl (by decide) rfl (fun ls hl => ?_)
    refine lv_aload_n hx hb dX5_appetite_31 rfl (lv_at hl 2 rfl) ?_
    refine lv_iload_n hx hb dX5_appetite_32 rfl (lv_at hl 3 rfl) ?_
    refine x_iconst hx hb dX5_appetite_33 ?_
    refine x_callV (As := [.int (iI ((p : Nat) : Int)), .int (iI 0)]) (rest := []) ⟨hx, hb, hml, hown, hts⟩ (kX5_its r ik tn j T p 0 (by omega) (by omega)) (cwV 2 hts gX5_appetite_X5_its rfl rfl rfl ykVX5_its ⟨Nat.le_of_ble_eq_true rfl, Nat.le_of_ble_eq_true rfl⟩) hP hK hD hS 0 4 rfl rfl rfl [0, 1] rfl (by decide) (fun _ => rfl) (fun _ => wRo r ik tn j ++ (wA cI (r 1) 100 T)) (fun _ => rfl) rfl hl.1 rfl (Nat.le_of_ble_eq_true rfl) dX5_appetite_34 ⟨Nat.le_of_ble_eq_true rfl, Nat.le_of_ble_eq_true rfl⟩ (fun _ H locs _ hP hD hS => ?_)
    refine W.eq (g2 := F0 m 37 ls [.int (iI (T (cx p 0)))]) rfl ?_
    rcases x_sw (T (cx p 0)) 1 6 with c_37 | c_37
    · refine lv_tableOut (tgt := 105) hx hb dX5_appetite_37 (by rw [iI_to (by omega)]; exact c_37) (by decide) ?_
      refine x_bipush hx hb dX5_appetite_105 (by decide) ?_
      exact kend () hP hS (an_i ((by unfold apF hgF; (repeat' split) <;> omega))) trivial dX5_appetite_107
    · obtain ⟨c_37a, c_37b⟩ := c_37
      by_cases e_37 : (T (cx p 0)) = 1
      · refine lv_tableIn (off := 39) (tgt := 76) hx hb dX5_appetite_37 (by rw [iI_to (by omega)]; omega) (by rw [iI_to (by omega)]; omega) (by rw [iI_to (by omega), e_37]; rfl) (by decide) ?_
        refine lv_iload_n hx hb dX5_appetite_76 rfl (lv_at hl 1 rfl) ?_
        exact kend () hP hS (an_i ((by unfold apF hgF; (repeat' split) <;> omega))) trivial dX5_appetite_77
      by_cases e_37 : (T (cx p 0)) = 2
      · refine lv_tableIn (off := 41) (tgt := 78) hx hb dX5_appetite_37 (by rw [iI_to (by omega)]; omega) (by rw [iI_to (by omega)]; omega) (by rw [iI_to (by omega), e_37]; rfl) (by decide) ?_
        refine x_bipush hx hb dX5_appetite_78 (by decide) ?_
        exact kend () hP hS (an_i ((by unfold apF hgF; (repeat' split) <;> omega))) trivial dX5_appetite_80
      by_cases e_37 : (T (cx p 0)) = 3
      · refine lv_tableIn (off := 44) (tgt := 81) hx hb dX5_appetite_37 (by rw [iI_to (by omega)]; omega) (by rw [iI_to (by omega)]; omega) (by rw [iI_to (by omega), e_37]; rfl) (by decide) ?_
        refine lv_iload_n hx hb dX5_appetite_81 rfl (lv_at hl 0 rfl) ?_
        exact kend () hP hS (an_i ((by unfold apF hgF; (repeat' split) <;> omega))) trivial dX5_appetite_82
      by_cases e_37 : (T (cx p 0)) = 4
      · refine lv_tableIn (off := 46) (tgt := 83) hx hb dX5_appetite_37 (by rw [iI_to (by omega)]; omega) (by rw [iI_to (by omega)]; omega) (by rw [iI_to (by omega), e_37]; rfl) (by decide) ?_
        refine lv_iload_n hx hb dX5_appetite_83 rfl (lv_at hl 0 rfl) ?_
        refine x_iconst hx hb dX5_appetite_84 ?_
        refine x_iadd hx hb dX5_appetite_85 ?_
        refine x_topi 10 (by decide) ?_
        exact kend () hP hS (an_i ((by unfold apF hgF; (repeat' split) <;> omega))) trivial dX5_appetite_86
      by_cases e_37 : (T (cx p 0)) = 5
      · refine lv_tableIn (off := 50) (tgt := 87) hx hb dX5_appetite_37 (by rw [iI_to (by omega)]; omega) (by rw [iI_to (by omega)]; omega) (by rw [iI_to (by omega), e_37]; rfl) (by decide) ?_
        refine x_bipush hx hb dX5_appetite_87 (by decide) ?_
        refine lv_aload_n hx hb dX5_appetite_89 rfl (lv_at hl 2 rfl) ?_
        refine va_get (D := D) (ci := 4) (v := .ref (r 1)) (C := RX5) (T := TX5) (N := 18) hx hb hts (iT_X5_appetite_X5) hown hK hP 0 rfl rfl 0 (by decide) (hts (.fieldLink RX5 7 "WordSupperModel" "s" "[I") (by decide +kernel)) (fun _ h9 => h9) rfl dX5_appetite_90 ?_
        refine x_iconst hx hb dX5_appetite_93 ?_
        refine x_iald hx hb hK hP 1 0 rfl rfl 3 rfl (by omega) (by decide) (T 3) (gd_at _ (by omega)) dX5_appetite_94 ?_
        refine x_iadd hx hb dX5_appetite_95 ?_
        exact kend () hP hS (an_i ((by unfold apF hgF; (repeat' split) <;> omega))) trivial dX5_appetite_96
      have e_37 : (T (cx p 0)) = 6 := by omega
      refine lv_tableIn (off := 60) (tgt := 97) hx hb dX5_appetite_37 (by rw [iI_to (by omega)]; omega) (by rw [iI_to (by omega)]; omega) (by rw [iI_to (by omega), e_37]; rfl) (by decide) ?_
      refine x_iconst hx hb dX5_appetite_97 ?_
      refine lv_iload_n hx hb dX5_appetite_98 rfl (lv_at hl 1 rfl) ?_
      refine x_iconst hx hb dX5_appetite_99 ?_
      refine x_isub hx hb dX5_appetite_100 ?_
      refine x_callS (As := [.int (iI 0), .int (iI ((12 - ((T (cx p 2)) / 10)) - 3))]) (rest := []) ⟨hx, hb, hml, hown, hts⟩ (kX5_greatest 0 ((12 - ((T (cx p 2)) / 10)) - 3) (by omega) (by omega)) (va_cwS 2 hts gX5_appetite_X5_greatest rfl rfl rfl ykSX5_greatest ⟨Nat.le_of_ble_eq_true rfl, Nat.le_of_ble_eq_true rfl⟩) hP hK hD hS [] rfl (by decide) (fun _ => rfl) (fun _ => wRo r ik tn j ++ (wA cI (r 1) 100 T)) (fun _ => rfl) rfl hl.1 rfl (Nat.le_of_ble_eq_true rfl) dX5_appetite_101 ⟨Nat.le_of_ble_eq_true rfl, Nat.le_of_ble_eq_true rfl⟩ (fun _ H locs _ hP hD hS => ?_)
      refine W.eq (g2 := F0 m 104 ls [.int (iI (max 0 ((12 - ((T (cx p 2)) / 10)) - 3)))]) rfl ?_
      exact kend () hP hS (an_i ((by unfold apF hgF; (repeat' split) <;> omega))) trivial dX5_appetite_104
  · refine x_bipush hx hb dX5_appetite_23 (by decide) ?_
    refine lv_goto (tgt := 29) hx hb dX5_appetite_25 (by decide) ?_
    refine x_iadd hx hb dX5_appetite_29 ?_
    refine x_topi 26 (by decide) ?_
    refine lv_istore_n (lv' := [(3, .int (iI 26)), (2, .int (iI (12 - ((T (cx p 2)) / 10)))), (0, .ref (r 0)), (1, .int (iI ((p : Nat) : Int)))]) hx hb dX5_appetite_30 rfl hl (by decide) rfl (fun ls hl => ?_)
    refine lv_aload_n hx hb dX5_appetite_31 rfl (lv_at hl 2 rfl) ?_
    refine lv_iload_n hx hb dX5_appetite_32 rfl (lv_at hl 3 rfl) ?_
    refine x_iconst hx hb dX5_appetite_33 ?_
    refine x_callV (As := [.int (iI ((p : Nat) : Int)), .int (iI 0)]) (rest := []) ⟨hx, hb, hml, hown, hts⟩ (kX5_its r ik tn j T p 0 (by omega) (by omega)) (cwV 2 hts gX5_appetite_X5_its rfl rfl rfl ykVX5_its ⟨Nat.le_of_ble_eq_true rfl, Nat.le_of_ble_eq_true rfl⟩) hP hK hD hS 0 4 rfl rfl rfl [0, 1] rfl (by decide) (fun _ => rfl) (fun _ => wRo r ik tn j ++ (wA cI (r 1) 100 T)) (fun _ => rfl) rfl hl.1 rfl (Nat.le_of_ble_eq_true rfl) dX5_appetite_34 ⟨Nat.le_of_ble_eq_true rfl, Nat.le_of_ble_eq_true rfl⟩ (fun _ H locs _ hP hD hS => ?_)
    refine W.eq (g2 := F0 m 37 ls [.int (iI (T (cx p 0)))]) rfl ?_
    rcases x_sw (T (cx p 0)) 1 6 with c_37 | c_37
    · refine lv_tableOut (tgt := 105) hx hb dX5_appetite_37 (by rw [iI_to (by omega)]; exact c_37) (by decide) ?_
      refine x_bipush hx hb dX5_appetite_105 (by decide) ?_
      exact kend () hP hS (an_i ((by unfold apF hgF; (repeat' split) <;> omega))) trivial dX5_appetite_107
    · obtain ⟨c_37a, c_37b⟩ := c_37
      by_cases e_37 : (T (cx p 0)) = 1
      · refine lv_tableIn (off := 39) (tgt := 76) hx hb dX5_appetite_37 (by rw [iI_to (by omega)]; omega) (by rw [iI_to (by omega)]; omega) (by rw [iI_to (by omega), e_37]; rfl) (by decide) ?_
        refine lv_iload_n hx hb dX5_appetite_76 rfl (lv_at hl 1 rfl) ?_
        exact kend () hP hS (an_i ((by unfold apF hgF; (repeat' split) <;> omega))) trivial dX5_appetite_77
      by_cases e_37 : (T (cx p 0)) = 2
      · refine lv_tableIn (off := 41) (tgt := 78) hx hb dX5_appetite_37 (by rw [iI_to (by omega)]; omega) (by rw [iI_to (by omega)]; omega) (by rw [iI_to (by omega), e_37]; rfl) (by decide) ?_
        refine x_bipush hx hb dX5_appetite_78 (by decide) ?_
        exact kend () hP hS (an_i ((by unfold apF hgF; (repeat' split) <;> omega))) trivial dX5_appetite_80
      by_cases e_37 : (T (cx p 0)) = 3
      · refine lv_tableIn (off := 44) (tgt := 81) hx hb dX5_appetite_37 (by rw [iI_to (by omega)]; omega) (by rw [iI_to (by omega)]; omega) (by rw [iI_to (by omega), e_37]; rfl) (by decide) ?_
        refine lv_iload_n hx hb dX5_appetite_81 rfl (lv_at hl 0 rfl) ?_
        exact kend () hP hS (an_i ((by unfold apF hgF; (repeat' split) <;> omega))) trivial dX5_appetite_82
      by_cases e_37 : (T (cx p 0)) = 4
      · refine lv_tableIn (off := 46) (tgt := 83) hx hb dX5_appetite_37 (by rw [iI_to (by omega)]; omega) (by rw [iI_to (by omega)]; omega) (by rw [iI_to (by omega), e_37]; rfl) (by decide) ?_
        refine lv_iload_n hx hb dX5_appetite_83 rfl (lv_at hl 0 rfl) ?_
        refine x_iconst hx hb dX5_appetite_84 ?_
        refine x_iadd hx hb dX5_appetite_85 ?_
        refine x_topi 30 (by decide) ?_
        exact kend () hP hS (an_i ((by unfold apF hgF; (repeat' split) <;> omega))) trivial dX5_appetite_86
      by_cases e_37 : (T (cx p 0)) = 5
      · refine lv_tableIn (off := 50) (tgt := 87) hx hb dX5_appetite_37 (by rw [iI_to (by omega)]; omega) (by rw [iI_to (by omega)]; omega) (by rw [iI_to (by omega), e_37]; rfl) (by decide) ?_
        refine x_bipush hx hb dX5_appetite_87 (by decide) ?_
        refine lv_aload_n hx hb dX5_appetite_89 rfl (lv_at hl 2 rfl) ?_
        refine va_get (D := D) (ci := 4) (v := .ref (r 1)) (C := RX5) (T := TX5) (N := 18) hx hb hts (iT_X5_appetite_X5) hown hK hP 0 rfl rfl 0 (by decide) (hts (.fieldLink RX5 7 "WordSupperModel" "s" "[I") (by decide +kernel)) (fun _ h9 => h9) rfl dX5_appetite_90 ?_
        refine x_iconst hx hb dX5_appetite_93 ?_
        refine x_iald hx hb hK hP 1 0 rfl rfl 3 rfl (by omega) (by decide) (T 3) (gd_at _ (by omega)) dX5_appetite_94 ?_
        refine x_iadd hx hb dX5_appetite_95 ?_
        exact kend () hP hS (an_i ((by unfold apF hgF; (repeat' split) <;> omega))) trivial dX5_appetite_96
      have e_37 : (T (cx p 0)) = 6 := by omega
      refine lv_tableIn (off := 60) (tgt := 97) hx hb dX5_appetite_37 (by rw [iI_to (by omega)]; omega) (by rw [iI_to (by omega)]; omega) (by rw [iI_to (by omega), e_37]; rfl) (by decide) ?_
      refine x_iconst hx hb dX5_appetite_97 ?_
      refine lv_iload_n hx hb dX5_appetite_98 rfl (lv_at hl 1 rfl) ?_
      refine x_iconst hx hb dX5_appetite_99 ?_
      refine x_isub hx hb dX5_appetite_100 ?_
      refine x_callS (As := [.int (iI 0), .int (iI ((12 - ((T (cx p 2)) / 10)) - 3))]) (rest := []) ⟨hx, hb, hml, hown, hts⟩ (kX5_greatest 0 ((12 - ((T (cx p 2)) / 10)) - 3) (by omega) (by omega)) (va_cwS 2 hts gX5_appetite_X5_greatest rfl rfl rfl ykSX5_greatest ⟨Nat.le_of_ble_eq_true rfl, Nat.le_of_ble_eq_true rfl⟩) hP hK hD hS [] rfl (by decide) (fun _ => rfl) (fun _ => wRo r ik tn j ++ (wA cI (r 1) 100 T)) (fun _ => rfl) rfl hl.1 rfl (Nat.le_of_ble_eq_true rfl) dX5_appetite_101 ⟨Nat.le_of_ble_eq_true rfl, Nat.le_of_ble_eq_true rfl⟩ (fun _ H locs _ hP hD hS => ?_)
      refine W.eq (g2 := F0 m 104 ls [.int (iI (max 0 ((12 - ((T (cx p 2)) / 10)) - 3)))]) rfl ?_
      exact kend () hP hS (an_i ((by unfold apF hgF; (repeat' split) <;> omega))) trivial dX5_appetite_104
theorem ykSX5_talksOf : yX5_talksOf.cls ≠ "java/lang/invoke/MethodHandle" ∧ yX5_talksOf.cls ≠ "java/lang/invoke/VarHandle" ∧ (parseMethodDescriptor yX5_talksOf.desc).map (fun d => d.parameters.length) = some 2 := by decide +kernel
theorem ykVX5_talksOf : yX5_talksOf.cls = RX5 ∧ yX5_talksOf.cls ≠ "java/lang/invoke/MethodHandle" ∧ yX5_talksOf.cls ≠ "java/lang/invoke/VarHandle" ∧ (parseMethodDescriptor yX5_talksOf.desc).map (fun d => d.parameters.length) = some 2 := ⟨rfl, ykSX5_talksOf⟩
set_option maxRecDepth 20000 in
theorem iT_X5_talksOf_X5 : ∀ w ∈ u_ws RX5 TX5 18, w ∈ wsX5_talksOf := by decide +kernel
set_option maxHeartbeats 4000000 in
set_option maxRecDepth 100000 in
theorem kX5_talksOf {l : Launch} {D : va_G} {cI cB : ClassId} (r : Nat → Nat) (ik : Int) (tn : Int) (j : Nat → Int) (T : Tb) (kd : Int) (t : Nat) (hk : 0 ≤ kd ∧ kd ≤ 6) (ht : t < 6) (hd : 0 ≤ T 1 ∧ T 1 ≤ 100000) : Ct l yX5_talksOf wsX5_talksOf 0 0 D [(cI, .int), (cB, .byte)] [.ref (r 0), .int (iI kd), .int (iI ((t : Nat) : Int))] (wRo r ik tn j ++ (wA cI (r 1) 100 T)) (S := Unit) (fun _ => some (.int (iI (tkF kd ((t : Nat) : Int) (T 1))))) (fun _ => True) (fun _ => wRo r ik tn j ++ (wA cI (r 1) 100 T)) := by
  refine CtI.of (cc := cX5_talksOf) (maxL := 3) (by decide +kernel) rfl (Nat.le_of_ble_eq_true rfl) ?_
  intro pg e s m args below meth c Q A hx hb hml hts hown hP hK hD hS ls hl kend
  have hown : s.vm.findClass RX5 = some m.cls := hown
  have hl : lv_has ls 3 [(0, .ref (r 0)), (1, .int (iI kd)), (2, .int (iI ((t : Nat) : Int)))] := hl
  refine lv_iload_n hx hb dX5_talksOf_0 rfl (lv_at hl 2 rfl) ?_
  rcases x_sw ((t : Nat) : Int) 0 4 with c_1 | c_1
  · refine lv_tableOut (tgt := 130) hx hb dX5_talksOf_1 (by rw [iI_to (by omega)]; exact c_1) (by decide) ?_
    refine lv_iload_n hx hb dX5_talksOf_130 rfl (lv_at hl 1 rfl) ?_
    refine x_iconst hx hb dX5_talksOf_131 ?_
    refine x_icmp_ne (tgt := 152) hx hb (by omega) (by decide) dX5_talksOf_132 (by decide) (fun c_132 => ?_) (fun c_132 => ?_)
    · refine x_iconst hx hb dX5_talksOf_152 ?_
      exact kend () hP hS (an_i ((by unfold tkF; (repeat' split) <;> omega))) trivial dX5_talksOf_153
    · refine lv_aload_n hx hb dX5_talksOf_135 rfl (lv_at hl 0 rfl) ?_
      refine va_get (D := D) (ci := 4) (v := .ref (r 1)) (C := RX5) (T := TX5) (N := 18) hx hb hts (iT_X5_talksOf_X5) hown hK hP 0 rfl rfl 0 (by decide) (hts (.fieldLink RX5 7 "WordSupperModel" "s" "[I") (by decide +kernel)) (fun _ h9 => h9) rfl dX5_talksOf_136 ?_
      refine x_iconst hx hb dX5_talksOf_139 ?_
      refine x_iald hx hb hK hP 1 0 rfl rfl 1 rfl (by omega) (by decide) (T 1) (gd_at _ (by omega)) dX5_talksOf_140 ?_
      refine x_bipush hx hb dX5_talksOf_141 (by decide) ?_
      refine x_irem hx hb (by omega) (by omega) (by decide) (by decide) dX5_talksOf_143 ?_
      refine x_iconst hx hb dX5_talksOf_144 ?_
      refine x_icmp_ne (tgt := 152) hx hb (by omega) (by decide) dX5_talksOf_145 (by decide) (fun c_145 => ?_) (fun c_145 => ?_)
      · refine x_iconst hx hb dX5_talksOf_152 ?_
        exact kend () hP hS (an_i ((by unfold tkF; (repeat' split) <;> omega))) trivial dX5_talksOf_153
      · refine x_iconst hx hb dX5_talksOf_148 ?_
        refine lv_goto (tgt := 153) hx hb dX5_talksOf_149 (by decide) ?_
        exact kend () hP hS (an_i ((by unfold tkF; (repeat' split) <;> omega))) trivial dX5_talksOf_153
  · obtain ⟨c_1a, c_1b⟩ := c_1
    by_cases e_1 : ((t : Nat) : Int) = 0
    · refine lv_tableIn (off := 35) (tgt := 36) hx hb dX5_talksOf_1 (by rw [iI_to (by omega)]; omega) (by rw [iI_to (by omega)]; omega) (by rw [iI_to (by omega), e_1]; rfl) (by decide) ?_
      refine lv_iload_n hx hb dX5_talksOf_36 rfl (lv_at hl 1 rfl) ?_
      refine x_iconst hx hb dX5_talksOf_37 ?_
      refine x_icmp_eq (tgt := 51) hx hb (by omega) (by decide) dX5_talksOf_38 (by decide) (fun c_38 => ?_) (fun c_38 => ?_)
      · refine x_iconst hx hb dX5_talksOf_51 ?_
        refine lv_goto (tgt := 56) hx hb dX5_talksOf_52 (by decide) ?_
        exact kend () hP hS (an_i ((by unfold tkF; (repeat' split) <;> omega))) trivial dX5_talksOf_56
      · refine lv_iload_n hx hb dX5_talksOf_41 rfl (lv_at hl 1 rfl) ?_
        refine x_iconst hx hb dX5_talksOf_42 ?_
        refine x_icmp_eq (tgt := 51) hx hb (by omega) (by decide) dX5_talksOf_43 (by decide) (fun c_43 => ?_) (fun c_43 => ?_)
        · refine x_iconst hx hb dX5_talksOf_51 ?_
          refine lv_goto (tgt := 56) hx hb dX5_talksOf_52 (by decide) ?_
          exact kend () hP hS (an_i ((by unfold tkF; (repeat' split) <;> omega))) trivial dX5_talksOf_56
        · refine lv_iload_n hx hb dX5_talksOf_46 rfl (lv_at hl 1 rfl) ?_
          refine x_iconst hx hb dX5_talksOf_47 ?_
          refine x_icmp_ne (tgt := 55) hx hb (by omega) (by decide) dX5_talksOf_48 (by decide) (fun c_48 => ?_) (fun c_48 => ?_)
          · refine x_iconst hx hb dX5_talksOf_55 ?_
            exact kend () hP hS (an_i ((by unfold tkF; (repeat' split) <;> omega))) trivial dX5_talksOf_56
          · refine x_iconst hx hb dX5_talksOf_51 ?_
            refine lv_goto (tgt := 56) hx hb dX5_talksOf_52 (by decide) ?_
            exact kend () hP hS (an_i ((by unfold tkF; (repeat' split) <;> omega))) trivial dX5_talksOf_56
    by_cases e_1 : ((t : Nat) : Int) = 1
    · refine lv_tableIn (off := 56) (tgt := 57) hx hb dX5_talksOf_1 (by rw [iI_to (by omega)]; omega) (by rw [iI_to (by omega)]; omega) (by rw [iI_to (by omega), e_1]; rfl) (by decide) ?_
      refine lv_iload_n hx hb dX5_talksOf_57 rfl (lv_at hl 1 rfl) ?_
      refine x_iconst hx hb dX5_talksOf_58 ?_
      refine x_icmp_eq (tgt := 68) hx hb (by omega) (by decide) dX5_talksOf_59 (by decide) (fun c_59 => ?_) (fun c_59 => ?_)
      · refine x_iconst hx hb dX5_talksOf_68 ?_
        refine lv_goto (tgt := 73) hx hb dX5_talksOf_69 (by decide) ?_
        exact kend () hP hS (an_i ((by unfold tkF; (repeat' split) <;> omega))) trivial dX5_talksOf_73
      · refine lv_iload_n hx hb dX5_talksOf_62 rfl (lv_at hl 1 rfl) ?_
        refine x_bipush hx hb dX5_talksOf_63 (by decide) ?_
        refine x_icmp_ne (tgt := 72) hx hb (by omega) (by decide) dX5_talksOf_65 (by decide) (fun c_65 => ?_) (fun c_65 => ?_)
        · refine x_iconst hx hb dX5_talksOf_72 ?_
          exact kend () hP hS (an_i ((by unfold tkF; (repeat' split) <;> omega))) trivial dX5_talksOf_73
        · refine x_iconst hx hb dX5_talksOf_68 ?_
          refine lv_goto (tgt := 73) hx hb dX5_talksOf_69 (by decide) ?_
          exact kend () hP hS (an_i ((by unfold tkF; (repeat' split) <;> omega))) trivial dX5_talksOf_73
    by_cases e_1 : ((t : Nat) : Int) = 2
    · refine lv_tableIn (off := 73) (tgt := 74) hx hb dX5_talksOf_1 (by rw [iI_to (by omega)]; omega) (by rw [iI_to (by omega)]; omega) (by rw [iI_to (by omega), e_1]; rfl) (by decide) ?_
      refine lv_iload_n hx hb dX5_talksOf_74 rfl (lv_at hl 1 rfl) ?_
      refine x_iconst hx hb dX5_talksOf_75 ?_
      refine x_icmp_ne (tgt := 94) hx hb (by omega) (by decide) dX5_talksOf_76 (by decide) (fun c_76 => ?_) (fun c_76 => ?_)
      · refine x_iconst hx hb dX5_talksOf_94 ?_
        exact kend () hP hS (an_i ((by unfold tkF; (repeat' split) <;> omega))) trivial dX5_talksOf_95
      · refine lv_aload_n hx hb dX5_talksOf_79 rfl (lv_at hl 0 rfl) ?_
        refine va_get (D := D) (ci := 4) (v := .ref (r 1)) (C := RX5) (T := TX5) (N := 18) hx hb hts (iT_X5_talksOf_X5) hown hK hP 0 rfl rfl 0 (by decide) (hts (.fieldLink RX5 7 "WordSupperModel" "s" "[I") (by decide +kernel)) (fun _ h9 => h9) rfl dX5_talksOf_80 ?_
        refine x_iconst hx hb dX5_talksOf_83 ?_
        refine x_iald hx hb hK hP 1 0 rfl rfl 1 rfl (by omega) (by decide) (T 1) (gd_at _ (by omega)) dX5_talksOf_84 ?_
        refine x_iconst hx hb dX5_talksOf_85 ?_
        refine x_irem hx hb (by omega) (by omega) (by decide) (by decide) dX5_talksOf_86 ?_
        refine x_if_ne (tgt := 94) hx hb (by omega) dX5_talksOf_87 (by decide) (fun c_87 => ?_) (fun c_87 => ?_)
        · refine x_iconst hx hb dX5_talksOf_94 ?_
          exact kend () hP hS (an_i ((by unfold tkF; (repeat' split) <;> omega))) trivial dX5_talksOf_95
        · refine x_iconst hx hb dX5_talksOf_90 ?_
          refine lv_goto (tgt := 95) hx hb dX5_talksOf_91 (by decide) ?_
          exact kend () hP hS (an_i ((by unfold tkF; (repeat' split) <;> omega))) trivial dX5_talksOf_95
    by_cases e_1 : ((t : Nat) : Int) = 3
    · refine lv_tableIn (off := 95) (tgt := 96) hx hb dX5_talksOf_1 (by rw [iI_to (by omega)]; omega) (by rw [iI_to (by omega)]; omega) (by rw [iI_to (by omega), e_1]; rfl) (by decide) ?_
      refine lv_iload_n hx hb dX5_talksOf_96 rfl (lv_at hl 1 rfl) ?_
      refine x_iconst hx hb dX5_talksOf_97 ?_
      refine x_icmp_ne (tgt := 105) hx hb (by omega) (by decide) dX5_talksOf_98 (by decide) (fun c_98 => ?_) (fun c_98 => ?_)
      · refine x_iconst hx hb dX5_talksOf_105 ?_
        exact kend () hP hS (an_i ((by unfold tkF; (repeat' split) <;> omega))) trivial dX5_talksOf_106
      · refine x_iconst hx hb dX5_talksOf_101 ?_
        refine lv_goto (tgt := 106) hx hb dX5_talksOf_102 (by decide) ?_
        exact kend () hP hS (an_i ((by unfold tkF; (repeat' split) <;> omega))) trivial dX5_talksOf_106
    have e_1 : ((t : Nat) : Int) = 4 := by omega
    refine lv_tableIn (off := 106) (tgt := 107) hx hb dX5_talksOf_1 (by rw [iI_to (by omega)]; omega) (by rw [iI_to (by omega)]; omega) (by rw [iI_to (by omega), e_1]; rfl) (by decide) ?_
    refine lv_iload_n hx hb dX5_talksOf_107 rfl (lv_at hl 1 rfl) ?_
    refine x_bipush hx hb dX5_talksOf_108 (by decide) ?_
    refine x_icmp_ne (tgt := 128) hx hb (by omega) (by decide) dX5_talksOf_110 (by decide) (fun c_110 => ?_) (fun c_110 => ?_)
    · refine x_iconst hx hb dX5_talksOf_128 ?_
      exact kend () hP hS (an_i ((by unfold tkF; (repeat' split) <;> omega))) trivial dX5_talksOf_129
    · refine lv_aload_n hx hb dX5_talksOf_113 rfl (lv_at hl 0 rfl) ?_
      refine va_get (D := D) (ci := 4) (v := .ref (r 1)) (C := RX5) (T := TX5) (N := 18) hx hb hts (iT_X5_talksOf_X5) hown hK hP 0 rfl rfl 0 (by decide) (hts (.fieldLink RX5 7 "WordSupperModel" "s" "[I") (by decide +kernel)) (fun _ h9 => h9) rfl dX5_talksOf_114 ?_
      refine x_iconst hx hb dX5_talksOf_117 ?_
      refine x_iald hx hb hK hP 1 0 rfl rfl 1 rfl (by omega) (by decide) (T 1) (gd_at _ (by omega)) dX5_talksOf_118 ?_
      refine x_iconst hx hb dX5_talksOf_119 ?_
      refine x_irem hx hb (by omega) (by omega) (by decide) (by decide) dX5_talksOf_120 ?_
      refine x_if_ne (tgt := 128) hx hb (by omega) dX5_talksOf_121 (by decide) (fun c_121 => ?_) (fun c_121 => ?_)
      · refine x_iconst hx hb dX5_talksOf_128 ?_
        exact kend () hP hS (an_i ((by unfold tkF; (repeat' split) <;> omega))) trivial dX5_talksOf_129
      · refine x_iconst hx hb dX5_talksOf_124 ?_
        refine lv_goto (tgt := 129) hx hb dX5_talksOf_125 (by decide) ?_
        exact kend () hP hS (an_i ((by unfold tkF; (repeat' split) <;> omega))) trivial dX5_talksOf_129
theorem ykSX5_says : yX5_says.cls ≠ "java/lang/invoke/MethodHandle" ∧ yX5_says.cls ≠ "java/lang/invoke/VarHandle" ∧ (parseMethodDescriptor yX5_says.desc).map (fun d => d.parameters.length) = some 2 := by decide +kernel
theorem ykVX5_says : yX5_says.cls = RX5 ∧ yX5_says.cls ≠ "java/lang/invoke/MethodHandle" ∧ yX5_says.cls ≠ "java/lang/invoke/VarHandle" ∧ (parseMethodDescriptor yX5_says.desc).map (fun d => d.parameters.length) = some 2 := ⟨rfl, ykSX5_says⟩
set_option maxRecDepth 20000 in
theorem iT_X5_says_X5 : ∀ w ∈ u_ws RX5 TX5 18, w ∈ wsX5_says := by decide +kernel
set_option maxHeartbeats 4000000 in
set_option maxRecDepth 100000 in
theorem kX5_says {l : Launch} {D : va_G} {cI cB : ClassId} (r : Nat → Nat) (ik : Int) (tn : Int) (j : Nat → Int) (T : Tb) (p : Nat) (lb : Int) (B : Int) (hI : Inv B T) (hp : (p : Int) < T 0) (hB : B ≤ 99999) (hlb : rI lb) : Ct l yX5_says wsX5_says 1 22 D [(cI, .int), (cB, .byte)] [.ref (r 0), .int (iI ((p : Nat) : Int)), .int (iI lb)] (wRo r ik tn j ++ (wA cI (r 1) 100 T)) (S := Tb) (fun u => none) (fun u => u = syF (decide (lb ≠ 0)) p T) (fun u => wRo r ik tn j ++ (wA cI (r 1) 100 u)) := by
  refine CtV.of (cc := cX5_says) (maxL := 5) (by decide +kernel) rfl (Nat.le_of_ble_eq_true rfl) ?_
  intro pg e s m args below meth c Q A hx hb hml hts hown hP hK hD hS ls hl kend
  have hown : s.vm.findClass RX5 = some m.cls := hown
  have hl : lv_has ls 5 [(0, .ref (r 0)), (1, .int (iI ((p : Nat) : Int))), (2, .int (iI lb))] := hl
  have hn := Inv_n hI
  refine x_iconst hx hb dX5_says_0 ?_
  refine lv_istore_n (lv' := [(3, .int (iI 0)), (0, .ref (r 0)), (1, .int (iI ((p : Nat) : Int))), (2, .int (iI lb))]) hx hb dX5_says_1 rfl hl (by decide) rfl (fun ls hl => ?_)
  have L2 : ∀ (k t : Nat) (Tt : Tb) (H : Heap) (locs : List Loc) (ls : Array Slot), t + k = 6 → (run (syS (decide (lb ≠ 0)) p) k t Tt = syF (decide (lb ≠ 0)) p T) → (Inv B Tt) → (Tt 0 = T 0) → va_P D vwCl (wRo r ik tn j ++ (wA cI (r 1) 100 Tt)) H → va_D A (wRo r ik tn j ++ (wA cI (r 1) 100 Tt)) → va_S A s.heap H locs → lv_has ls 5 [(0, .ref (r 0)), (1, .int (iI ((p : Nat) : Int))), (2, .int (iI lb)), (3, .int (iI ((t : Nat) : Int)))] → W pg l e { frames := 1, cells := 0, slots := 0, locals := 22 } s m args below meth c H locs 0 0 Q (F0 m 2 ls []) := by
    intro k
    induction k with
    | zero =>
      intro t Tt H locs ls hkt hr hi h0 hP hD hS hl
      refine lv_iload_n hx hb dX5_says_2 rfl (lv_at hl 3 rfl) ?_
      refine x_bipush hx hb dX5_says_3 (by decide) ?_
      refine x_icmp_ge (tgt := 73) hx hb (by omega) (by decide) dX5_says_5 (by decide) (fun c_5 => ?_) (fun c_5 => ?_)
      · exact kend Tt hP hS rfl hr dX5_says_73
      · exfalso; omega
    | succ k ih =>
      intro t Tt H locs ls hkt hr hi h0 hP hD hS hl
      refine lv_iload_n hx hb dX5_says_2 rfl (lv_at hl 3 rfl) ?_
      refine x_bipush hx hb dX5_says_3 (by decide) ?_
      refine x_icmp_ge (tgt := 73) hx hb (by omega) (by decide) dX5_says_5 (by decide) (fun c_5 => ?_) (fun c_5 => ?_)
      · exfalso; omega
      · have hp2 : (p : Int) < Tt 0 := by omega
        have g1 := Inv_k hi hp2
        have g2 := Inv_pl hi hp2 (show t < 6 by omega)
        have g3 := Inv_l hi (show t < 6 by omega)
        have g4 := tkF_b (Tt (cx p 0)) t (Tt 1)
        have g5 := Inv_d hi
        refine lv_aload_n hx hb dX5_says_8 rfl (lv_at hl 0 rfl) ?_
        refine lv_iload_n hx hb dX5_says_9 rfl (lv_at hl 1 rfl) ?_
        refine x_iconst hx hb dX5_says_10 ?_
        refine lv_iload_n hx hb dX5_says_11 rfl (lv_at hl 3 rfl) ?_
        refine x_iadd hx hb dX5_says_12 ?_
        refine x_topi ((4 + t : Nat) : Int) (by omega) ?_
        refine x_callV (As := [.int (iI ((p : Nat) : Int)), .int (iI ((4 + t : Nat) : Int))]) (rest := []) ⟨hx, hb, hml, hown, hts⟩ (kX5_its r ik tn j Tt p (4 + t) (by omega) (by omega)) (cwV 2 hts gX5_says_X5_its rfl rfl rfl ykVX5_its ⟨Nat.le_of_ble_eq_true rfl, Nat.le_of_ble_eq_true rfl⟩) hP hK hD hS 0 4 rfl rfl rfl [0, 1] rfl (by decide) (fun _ => rfl) (fun _ => wRo r ik tn j ++ (wA cI (r 1) 100 Tt)) (fun _ => rfl) rfl hl.1 rfl (Nat.le_of_ble_eq_true rfl) dX5_says_13 ⟨Nat.le_of_ble_eq_true rfl, Nat.le_of_ble_eq_true rfl⟩ (fun _ H locs _ hP hD hS => ?_)
        refine W.eq (g2 := F0 m 16 ls [.int (iI (Tt (cx p (4 + t))))]) rfl ?_
        refine lv_aload_n hx hb dX5_says_16 rfl (lv_at hl 0 rfl) ?_
        refine lv_aload_n hx hb dX5_says_17 rfl (lv_at hl 0 rfl) ?_
        refine lv_iload_n hx hb dX5_says_18 rfl (lv_at hl 1 rfl) ?_
        refine x_iconst hx hb dX5_says_19 ?_
        refine x_callV (As := [.int (iI ((p : Nat) : Int)), .int (iI 0)]) (rest := [.ref (r 0), .int (iI (Tt (cx p (4 + t))))]) ⟨hx, hb, hml, hown, hts⟩ (kX5_its r ik tn j Tt p 0 (by omega) (by omega)) (cwV 2 hts gX5_says_X5_its rfl rfl rfl ykVX5_its ⟨Nat.le_of_ble_eq_true rfl, Nat.le_of_ble_eq_true rfl⟩) hP hK hD hS 0 4 rfl rfl rfl [0, 1] rfl (by decide) (fun _ => rfl) (fun _ => wRo r ik tn j ++ (wA cI (r 1) 100 Tt)) (fun _ => rfl) rfl hl.1 rfl (Nat.le_of_ble_eq_true rfl) dX5_says_20 ⟨Nat.le_of_ble_eq_true rfl, Nat.le_of_ble_eq_true rfl⟩ (fun _ H locs _ hP hD hS => ?_)
        refine W.eq (g2 := F0 m 23 ls [.int (iI (Tt (cx p 0))), .ref (r 0), .int (iI (Tt (cx p (4 + t))))]) rfl ?_
        refine lv_iload_n hx hb dX5_says_23 rfl (lv_at hl 3 rfl) ?_
        refine x_callV (As := [.int (iI (Tt (cx p 0))), .int (iI ((t : Nat) : Int))]) (rest := [.int (iI (Tt (cx p (4 + t))))]) ⟨hx, hb, hml, hown, hts⟩ (kX5_talksOf r ik tn j Tt (Tt (cx p 0)) t (by omega) (by omega) (by omega)) (cwV 2 hts gX5_says_X5_talksOf rfl rfl rfl ykVX5_talksOf ⟨Nat.le_of_ble_eq_true rfl, Nat.le_of_ble_eq_true rfl⟩) hP hK hD hS 0 4 rfl rfl rfl [0, 1] rfl (by decide) (fun _ => rfl) (fun _ => wRo r ik tn j ++ (wA cI (r 1) 100 Tt)) (fun _ => rfl) rfl hl.1 rfl (Nat.le_of_ble_eq_true rfl) dX5_says_24 ⟨Nat.le_of_ble_eq_true rfl, Nat.le_of_ble_eq_true rfl⟩ (fun _ H locs _ hP hD hS => ?_)
        refine W.eq (g2 := F0 m 27 ls [.int (iI (tkF (Tt (cx p 0)) ((t : Nat) : Int) (Tt 1))), .int (iI (Tt (cx p (4 + t))))]) rfl ?_
        refine x_iadd hx hb dX5_says_27 ?_
        refine lv_iload_n hx hb dX5_says_28 rfl (lv_at hl 2 rfl) ?_
        refine x_if_eq (tgt := 43) hx hb (by omega) dX5_says_29 (by decide) (fun c_29 => ?_) (fun c_29 => ?_)
        · refine x_iconst hx hb dX5_says_43 ?_
          refine x_iadd hx hb dX5_says_44 ?_
          refine lv_istore (lv' := [(4, .int (iI (((Tt (cx p (4 + t))) + (tkF (Tt (cx p 0)) ((t : Nat) : Int) (Tt 1))) + 0))), (0, .ref (r 0)), (1, .int (iI ((p : Nat) : Int))), (2, .int (iI lb)), (3, .int (iI ((t : Nat) : Int)))]) hx hb dX5_says_45 hl (by decide) rfl (fun ls hl => ?_)
          refine lv_aload_n hx hb dX5_says_47 rfl (lv_at hl 1 rfl) ?_
          refine va_get (D := D) (ci := 4) (v := .ref (r 1)) (C := RX5) (T := TX5) (N := 18) hx hb hts (iT_X5_says_X5) hown hK hP 0 rfl rfl 0 (by decide) (hts (.fieldLink RX5 7 "WordSupperModel" "s" "[I") (by decide +kernel)) (fun _ h9 => h9) rfl dX5_says_48 ?_
          refine lv_iload_n hx hb dX5_says_51 rfl (lv_at hl 2 rfl) ?_
          refine x_iconst hx hb dX5_says_52 ?_
          refine lv_iload_n hx hb dX5_says_53 rfl (lv_at hl 4 rfl) ?_
          refine x_iadd hx hb dX5_says_54 ?_
          refine x_topi ((4 + t : Nat) : Int) (by omega) ?_
          refine x_callS (As := [.int (iI ((p : Nat) : Int)), .int (iI ((4 + t : Nat) : Int))]) (rest := [.ref (r 1)]) ⟨hx, hb, hml, hown, hts⟩ (kX5_at p (4 + t) ) (va_cwS 2 hts gX5_says_X5_at rfl rfl rfl ykSX5_at ⟨Nat.le_of_ble_eq_true rfl, Nat.le_of_ble_eq_true rfl⟩) hP hK hD hS [] rfl (by decide) (fun _ => rfl) (fun _ => wRo r ik tn j ++ (wA cI (r 1) 100 Tt)) (fun _ => rfl) rfl hl.1 rfl (Nat.le_of_ble_eq_true rfl) dX5_says_55 ⟨Nat.le_of_ble_eq_true rfl, Nat.le_of_ble_eq_true rfl⟩ (fun _ H locs _ hP hD hS => ?_)
          refine W.eq (g2 := F0 m 58 ls [.int (iI ((cx p (4 + t) : Nat) : Int)), .ref (r 1)]) rfl ?_
          refine x_sipush hx hb dX5_says_58 (by decide) ?_
          refine lv_iload hx hb dX5_says_61 (lv_at hl 0 rfl) ?_
          refine x_callS (As := [.int (iI 999), .int (iI (((Tt (cx p (4 + t))) + (tkF (Tt (cx p 0)) ((t : Nat) : Int) (Tt 1))) + 0))]) (rest := [.int (iI ((cx p (4 + t) : Nat) : Int)), .ref (r 1)]) ⟨hx, hb, hml, hown, hts⟩ (kX5_least 999 (((Tt (cx p (4 + t))) + (tkF (Tt (cx p 0)) ((t : Nat) : Int) (Tt 1))) + 0) (by omega) (by omega)) (va_cwS 2 hts gX5_says_X5_least rfl rfl rfl ykSX5_least ⟨Nat.le_of_ble_eq_true rfl, Nat.le_of_ble_eq_true rfl⟩) hP hK hD hS [] rfl (by decide) (fun _ => rfl) (fun _ => wRo r ik tn j ++ (wA cI (r 1) 100 Tt)) (fun _ => rfl) rfl hl.1 rfl (Nat.le_of_ble_eq_true rfl) dX5_says_63 ⟨Nat.le_of_ble_eq_true rfl, Nat.le_of_ble_eq_true rfl⟩ (fun _ H locs _ hP hD hS => ?_)
          refine W.eq (g2 := F0 m 66 ls [.int (iI (min 999 (((Tt (cx p (4 + t))) + (tkF (Tt (cx p 0)) ((t : Nat) : Int) (Tt 1))) + 0))), .int (iI ((cx p (4 + t) : Nat) : Int)), .ref (r 1)]) rfl ?_
          refine x_iast hx hb hK hP hD hS 1 0 rfl rfl (cx p (4 + t)) rfl (cx_lt1 (by omega) (by omega)) (by decide) (wRo r ik tn j ++ (wA cI (r 1) 100 (va_up Tt (cx p (4 + t)) (min 999 (((Tt (cx p (4 + t))) + (tkF (Tt (cx p 0)) ((t : Nat) : Int) (Tt 1))) + 0))))) (by rw [← wA_up cI (r 1) 100 Tt (min 999 (((Tt (cx p (4 + t))) + (tkF (Tt (cx p 0)) ((t : Nat) : Int) (Tt 1))) + 0)) (cx p (4 + t)) (cx_lt1 (by omega) (by omega))]; rfl) dX5_says_66 (fun H locs hP hD hS => ?_)
          refine x_iinc hx hb 4 ((t + 1 : Nat) : Int) (by omega) [(3, .int (iI ((t + 1 : Nat) : Int))), (4, .int (iI (((Tt (cx p (4 + t))) + (tkF (Tt (cx p 0)) ((t : Nat) : Int) (Tt 1))) + 0))), (0, .ref (r 0)), (1, .int (iI ((p : Nat) : Int))), (2, .int (iI lb))] dX5_says_67 hl rfl (by decide) rfl (fun ls hl => ?_)
          refine lv_goto (tgt := 2) hx hb dX5_says_70 (by decide) ?_
          exact ih (t + 1) (va_up Tt (cx p (4 + t)) (min 999 (((Tt (cx p (4 + t))) + (tkF (Tt (cx p 0)) ((t : Nat) : Int) (Tt 1))) + 0))) _ _ _ (by omega) (run_step hr (by unfold syS; rw [if_neg (by simpa using c_29), Int.add_assoc])) (by refine Inv_cx hi (by omega) (by omega) (fun _ => pkd_pl ?_); omega) (by rw [up_lo _ _ (by omega)]; exact h0) hP hD hS (lv_sub hl [2, 3, 4, 0] rfl)
        · refine lv_aload_n hx hb dX5_says_32 rfl (lv_at hl 0 rfl) ?_
          refine va_get (D := D) (ci := 4) (v := .ref (r 1)) (C := RX5) (T := TX5) (N := 18) hx hb hts (iT_X5_says_X5) hown hK hP 0 rfl rfl 0 (by decide) (hts (.fieldLink RX5 7 "WordSupperModel" "s" "[I") (by decide +kernel)) (fun _ h9 => h9) rfl dX5_says_33 ?_
          refine x_iconst hx hb dX5_says_36 ?_
          refine lv_iload_n hx hb dX5_says_37 rfl (lv_at hl 3 rfl) ?_
          refine x_iadd hx hb dX5_says_38 ?_
          refine x_topi ((4 + t : Nat) : Int) (by omega) ?_
          refine x_iald hx hb hK hP 1 0 rfl rfl (4 + t) rfl (by omega) (by decide) (Tt (4 + t)) (gd_at _ (by omega)) dX5_says_39 ?_
          refine lv_goto (tgt := 44) hx hb dX5_says_40 (by decide) ?_
          refine x_iadd hx hb dX5_says_44 ?_
          refine lv_istore (lv' := [(4, .int (iI (((Tt (cx p (4 + t))) + (tkF (Tt (cx p 0)) ((t : Nat) : Int) (Tt 1))) + (Tt (4 + t))))), (0, .ref (r 0)), (1, .int (iI ((p : Nat) : Int))), (2, .int (iI lb)), (3, .int (iI ((t : Nat) : Int)))]) hx hb dX5_says_45 hl (by decide) rfl (fun ls hl => ?_)
          refine lv_aload_n hx hb dX5_says_47 rfl (lv_at hl 1 rfl) ?_
          refine va_get (D := D) (ci := 4) (v := .ref (r 1)) (C := RX5) (T := TX5) (N := 18) hx hb hts (iT_X5_says_X5) hown hK hP 0 rfl rfl 0 (by decide) (hts (.fieldLink RX5 7 "WordSupperModel" "s" "[I") (by decide +kernel)) (fun _ h9 => h9) rfl dX5_says_48 ?_
          refine lv_iload_n hx hb dX5_says_51 rfl (lv_at hl 2 rfl) ?_
          refine x_iconst hx hb dX5_says_52 ?_
          refine lv_iload_n hx hb dX5_says_53 rfl (lv_at hl 4 rfl) ?_
          refine x_iadd hx hb dX5_says_54 ?_
          refine x_topi ((4 + t : Nat) : Int) (by omega) ?_
          refine x_callS (As := [.int (iI ((p : Nat) : Int)), .int (iI ((4 + t : Nat) : Int))]) (rest := [.ref (r 1)]) ⟨hx, hb, hml, hown, hts⟩ (kX5_at p (4 + t) ) (va_cwS 2 hts gX5_says_X5_at rfl rfl rfl ykSX5_at ⟨Nat.le_of_ble_eq_true rfl, Nat.le_of_ble_eq_true rfl⟩) hP hK hD hS [] rfl (by decide) (fun _ => rfl) (fun _ => wRo r ik tn j ++ (wA cI (r 1) 100 Tt)) (fun _ => rfl) rfl hl.1 rfl (Nat.le_of_ble_eq_true rfl) dX5_says_55 ⟨Nat.le_of_ble_eq_true rfl, Nat.le_of_ble_eq_true rfl⟩ (fun _ H locs _ hP hD hS => ?_)
          refine W.eq (g2 := F0 m 58 ls [.int (iI ((cx p (4 + t) : Nat) : Int)), .ref (r 1)]) rfl ?_
          refine x_sipush hx hb dX5_says_58 (by decide) ?_
          refine lv_iload hx hb dX5_says_61 (lv_at hl 0 rfl) ?_
          refine x_callS (As := [.int (iI 999), .int (iI (((Tt (cx p (4 + t))) + (tkF (Tt (cx p 0)) ((t : Nat) : Int) (Tt 1))) + (Tt (4 + t))))]) (rest := [.int (iI ((cx p (4 + t) : Nat) : Int)), .ref (r 1)]) ⟨hx, hb, hml, hown, hts⟩ (kX5_least 999 (((Tt (cx p (4 + t))) + (tkF (Tt (cx p 0)) ((t : Nat) : Int) (Tt 1))) + (Tt (4 + t))) (by omega) (by omega)) (va_cwS 2 hts gX5_says_X5_least rfl rfl rfl ykSX5_least ⟨Nat.le_of_ble_eq_true rfl, Nat.le_of_ble_eq_true rfl⟩) hP hK hD hS [] rfl (by decide) (fun _ => rfl) (fun _ => wRo r ik tn j ++ (wA cI (r 1) 100 Tt)) (fun _ => rfl) rfl hl.1 rfl (Nat.le_of_ble_eq_true rfl) dX5_says_63 ⟨Nat.le_of_ble_eq_true rfl, Nat.le_of_ble_eq_true rfl⟩ (fun _ H locs _ hP hD hS => ?_)
          refine W.eq (g2 := F0 m 66 ls [.int (iI (min 999 (((Tt (cx p (4 + t))) + (tkF (Tt (cx p 0)) ((t : Nat) : Int) (Tt 1))) + (Tt (4 + t))))), .int (iI ((cx p (4 + t) : Nat) : Int)), .ref (r 1)]) rfl ?_
          refine x_iast hx hb hK hP hD hS 1 0 rfl rfl (cx p (4 + t)) rfl (cx_lt1 (by omega) (by omega)) (by decide) (wRo r ik tn j ++ (wA cI (r 1) 100 (va_up Tt (cx p (4 + t)) (min 999 (((Tt (cx p (4 + t))) + (tkF (Tt (cx p 0)) ((t : Nat) : Int) (Tt 1))) + (Tt (4 + t))))))) (by rw [← wA_up cI (r 1) 100 Tt (min 999 (((Tt (cx p (4 + t))) + (tkF (Tt (cx p 0)) ((t : Nat) : Int) (Tt 1))) + (Tt (4 + t)))) (cx p (4 + t)) (cx_lt1 (by omega) (by omega))]; rfl) dX5_says_66 (fun H locs hP hD hS => ?_)
          refine x_iinc hx hb 4 ((t + 1 : Nat) : Int) (by omega) [(3, .int (iI ((t + 1 : Nat) : Int))), (4, .int (iI (((Tt (cx p (4 + t))) + (tkF (Tt (cx p 0)) ((t : Nat) : Int) (Tt 1))) + (Tt (4 + t))))), (0, .ref (r 0)), (1, .int (iI ((p : Nat) : Int))), (2, .int (iI lb))] dX5_says_67 hl rfl (by decide) rfl (fun ls hl => ?_)
          refine lv_goto (tgt := 2) hx hb dX5_says_70 (by decide) ?_
          exact ih (t + 1) (va_up Tt (cx p (4 + t)) (min 999 (((Tt (cx p (4 + t))) + (tkF (Tt (cx p 0)) ((t : Nat) : Int) (Tt 1))) + (Tt (4 + t))))) _ _ _ (by omega) (run_step hr (by unfold syS; rw [if_pos (decide_eq_true c_29), Int.add_assoc])) (by refine Inv_cx hi (by omega) (by omega) (fun _ => pkd_pl ?_); omega) (by rw [up_lo _ _ (by omega)]; exact h0) hP hD hS (lv_sub hl [2, 3, 4, 0] rfl)
  exact L2 6 0 T _ _ _ (by omega) rfl hI rfl hP hD hS (lv_sub hl [1, 2, 3, 0] rfl)
theorem ykSX5_swallows : yX5_swallows.cls ≠ "java/lang/invoke/MethodHandle" ∧ yX5_swallows.cls ≠ "java/lang/invoke/VarHandle" ∧ (parseMethodDescriptor yX5_swallows.desc).map (fun d => d.parameters.length) = some 2 := by decide +kernel
theorem ykVX5_swallows : yX5_swallows.cls = RX5 ∧ yX5_swallows.cls ≠ "java/lang/invoke/MethodHandle" ∧ yX5_swallows.cls ≠ "java/lang/invoke/VarHandle" ∧ (parseMethodDescriptor yX5_swallows.desc).map (fun d => d.parameters.length) = some 2 := ⟨rfl, ykSX5_swallows⟩
set_option maxRecDepth 20000 in
theorem iT_X5_swallows_X5 : ∀ w ∈ u_ws RX5 TX5 18, w ∈ wsX5_swallows := by decide +kernel
set_option maxHeartbeats 4000000 in
set_option maxRecDepth 100000 in
theorem kX5_swallows {l : Launch} {D : va_G} {cI cB : ClassId} (r : Nat → Nat) (ik : Int) (tn : Int) (j : Nat → Int) (T : Tb) (kd : Int) (h : Nat) (B : Int) (hI : Inv B T) (hk : 0 ≤ kd ∧ kd ≤ 6) (hh : (h : Int) < T 0) (hb0 : 0 ≤ j 0 ∧ j 0 ≤ 100) (hs0 : 0 ≤ j 1 ∧ j 1 ≤ 10000) : Ct l yX5_swallows wsX5_swallows 1 23 D [(cI, .int), (cB, .byte)] [.ref (r 0), .int (iI kd), .int (iI ((h : Nat) : Int))] (wRo r ik tn j ++ (wA cI (r 1) 100 T)) (S := Tb × (Nat → Int)) (fun u => none) (fun u => (u.1, u.2 0, u.2 1) = swF kd h (T, j 0, j 1)) (fun u => wRo r ik tn u.2 ++ (wA cI (r 1) 100 u.1)) := by
  refine CtV.of (cc := cX5_swallows) (maxL := 7) (by decide +kernel) rfl (Nat.le_of_ble_eq_true rfl) ?_
  intro pg e s m args below meth c Q A hx hb hml hts hown hP hK hD hS ls hl kend
  have hown : s.vm.findClass RX5 = some m.cls := hown
  have hl : lv_has ls 7 [(0, .ref (r 0)), (1, .int (iI kd)), (2, .int (iI ((h : Nat) : Int)))] := hl
  have hn := Inv_n hI
  refine x_iconst hx hb dX5_swallows_0 ?_
  refine lv_istore_n (lv' := [(3, .int (iI 0)), (0, .ref (r 0)), (1, .int (iI kd)), (2, .int (iI ((h : Nat) : Int)))]) hx hb dX5_swallows_1 rfl hl (by decide) rfl (fun ls hl => ?_)
  have L2 : ∀ (k t : Nat) (Tt : Tb) (jt : Nat → Int) (H : Heap) (locs : List Loc) (ls : Array Slot), t + k = 6 → (run (swS kd h) k t (Tt, jt 0, jt 1) = swF kd h (T, j 0, j 1)) → (Inv B Tt ∧ (∀ i, i < 10 → Tt i = T i) ∧ (0 ≤ jt 0 ∧ jt 0 ≤ 100) ∧ 0 ≤ jt 1 ∧ jt 1 ≤ 10000 + 999 * (t : Int)) → va_P D vwCl (wRo r ik tn jt ++ (wA cI (r 1) 100 Tt)) H → va_D A (wRo r ik tn jt ++ (wA cI (r 1) 100 Tt)) → va_S A s.heap H locs → lv_has ls 7 [(0, .ref (r 0)), (1, .int (iI kd)), (2, .int (iI ((h : Nat) : Int))), (3, .int (iI ((t : Nat) : Int)))] → W pg l e { frames := 1, cells := 0, slots := 0, locals := 23 } s m args below meth c H locs 0 0 Q (F0 m 2 ls []) := by
    intro k
    induction k with
    | zero =>
      intro t Tt jt H locs ls hkt hr hi hP hD hS hl
      refine lv_iload_n hx hb dX5_swallows_2 rfl (lv_at hl 3 rfl) ?_
      refine x_bipush hx hb dX5_swallows_3 (by decide) ?_
      refine x_icmp_ge (tgt := 107) hx hb (by omega) (by decide) dX5_swallows_5 (by decide) (fun c_5 => ?_) (fun c_5 => ?_)
      · exact kend (Tt, jt) hP hS rfl hr dX5_swallows_107
      · exfalso; omega
    | succ k ih =>
      intro t Tt jt H locs ls hkt hr hi hP hD hS hl
      refine lv_iload_n hx hb dX5_swallows_2 rfl (lv_at hl 3 rfl) ?_
      refine x_bipush hx hb dX5_swallows_3 (by decide) ?_
      refine x_icmp_ge (tgt := 107) hx hb (by omega) (by decide) dX5_swallows_5 (by decide) (fun c_5 => ?_) (fun c_5 => ?_)
      · exfalso; omega
      · obtain ⟨g1, g2, g4, g5, g6⟩ := hi
        have g0 := g2 0 (by omega)
        have g7 := Inv_pl (p := h) g1 (by omega) (show t < 6 by omega)
        have g8 := Inv_v g1
        have g9 := chF_b (t := (t : Int)) hk g8
        refine lv_aload_n hx hb dX5_swallows_8 rfl (lv_at hl 0 rfl) ?_
        refine lv_iload_n hx hb dX5_swallows_9 rfl (lv_at hl 2 rfl) ?_
        refine x_iconst hx hb dX5_swallows_10 ?_
        refine lv_iload_n hx hb dX5_swallows_11 rfl (lv_at hl 3 rfl) ?_
        refine x_iadd hx hb dX5_swallows_12 ?_
        refine x_topi ((4 + t : Nat) : Int) (by omega) ?_
        refine x_callV (As := [.int (iI ((h : Nat) : Int)), .int (iI ((4 + t : Nat) : Int))]) (rest := []) ⟨hx, hb, hml, hown, hts⟩ (kX5_its r ik tn jt Tt h (4 + t) (by omega) (by omega)) (cwV 2 hts gX5_swallows_X5_its rfl rfl rfl ykVX5_its ⟨Nat.le_of_ble_eq_true rfl, Nat.le_of_ble_eq_true rfl⟩) hP hK hD hS 0 4 rfl rfl rfl [0, 1] rfl (by decide) (fun _ => rfl) (fun _ => wRo r ik tn jt ++ (wA cI (r 1) 100 Tt)) (fun _ => rfl) rfl hl.1 rfl (Nat.le_of_ble_eq_true rfl) dX5_swallows_13 ⟨Nat.le_of_ble_eq_true rfl, Nat.le_of_ble_eq_true rfl⟩ (fun _ H locs _ hP hD hS => ?_)
        refine W.eq (g2 := F0 m 16 ls [.int (iI (Tt (cx h (4 + t))))]) rfl ?_
        refine lv_istore (lv' := [(4, .int (iI (Tt (cx h (4 + t))))), (0, .ref (r 0)), (1, .int (iI kd)), (2, .int (iI ((h : Nat) : Int))), (3, .int (iI ((t : Nat) : Int)))]) hx hb dX5_swallows_16 hl (by decide) rfl (fun ls hl => ?_)
        refine lv_aload_n hx hb dX5_swallows_18 rfl (lv_at hl 1 rfl) ?_
        refine lv_iload_n hx hb dX5_swallows_19 rfl (lv_at hl 2 rfl) ?_
        refine lv_iload_n hx hb dX5_swallows_20 rfl (lv_at hl 4 rfl) ?_
        refine x_callV (As := [.int (iI kd), .int (iI ((t : Nat) : Int))]) (rest := []) ⟨hx, hb, hml, hown, hts⟩ (kX5_chewsOf r ik tn jt Tt kd t (by omega) (by omega) (by omega)) (cwV 2 hts gX5_swallows_X5_chewsOf rfl rfl rfl ykVX5_chewsOf ⟨Nat.le_of_ble_eq_true rfl, Nat.le_of_ble_eq_true rfl⟩) hP hK hD hS 0 4 rfl rfl rfl [0, 1] rfl (by decide) (fun _ => rfl) (fun _ => wRo r ik tn jt ++ (wA cI (r 1) 100 Tt)) (fun _ => rfl) rfl hl.1 rfl (Nat.le_of_ble_eq_true rfl) dX5_swallows_21 ⟨Nat.le_of_ble_eq_true rfl, Nat.le_of_ble_eq_true rfl⟩ (fun _ H locs _ hP hD hS => ?_)
        refine W.eq (g2 := F0 m 24 ls [.int (iI (chF kd ((t : Nat) : Int) (Tt 3)))]) rfl ?_
        refine lv_istore (lv' := [(5, .int (iI (chF kd ((t : Nat) : Int) (Tt 3)))), (4, .int (iI (Tt (cx h (4 + t))))), (0, .ref (r 0)), (1, .int (iI kd)), (2, .int (iI ((h : Nat) : Int))), (3, .int (iI ((t : Nat) : Int)))]) hx hb dX5_swallows_24 hl (by decide) rfl (fun ls hl => ?_)
        refine lv_iload hx hb dX5_swallows_26 (lv_at hl 0 rfl) ?_
        refine x_if_ge (tgt := 35) hx hb (by omega) dX5_swallows_28 (by decide) (fun c_28 => ?_) (fun c_28 => ?_)
        · refine lv_iload hx hb dX5_swallows_35 (lv_at hl 0 rfl) ?_
          refine x_if_ne (tgt := 45) hx hb (by omega) dX5_swallows_37 (by decide) (fun c_37 => ?_) (fun c_37 => ?_)
          · have hq := Int.ediv_nonneg g4.1 (show 0 ≤ chF kd t (Tt 3) by omega)
            have hq2 := Int.ediv_le_self (chF kd t (Tt 3)) g4.1
            refine lv_iload hx hb dX5_swallows_45 (lv_at hl 1 rfl) ?_
            refine lv_aload_n hx hb dX5_swallows_47 rfl (lv_at hl 2 rfl) ?_
            refine va_get (D := D) (ci := 4) (v := .int (iI (jt 0))) (C := RX5) (T := TX5) (N := 18) hx hb hts (iT_X5_swallows_X5) hown hK hP 0 rfl rfl 11 (by decide) (hts (.fieldLink RX5 106 "WordSupperModel" "bites" "I") (by decide +kernel)) (fun _ h9 => h9) rfl dX5_swallows_48 ?_
            refine lv_iload hx hb dX5_swallows_51 (lv_at hl 0 rfl) ?_
            refine x_idiv hx hb (by omega) (by omega) (by omega) (by omega) dX5_swallows_53 ?_
            refine x_callS (As := [.int (iI (Tt (cx h (4 + t)))), .int (iI ((jt 0) / (chF kd ((t : Nat) : Int) (Tt 3))))]) (rest := []) ⟨hx, hb, hml, hown, hts⟩ (kX5_least (Tt (cx h (4 + t))) ((jt 0) / (chF kd ((t : Nat) : Int) (Tt 3))) (by omega) (by omega)) (va_cwS 2 hts gX5_swallows_X5_least rfl rfl rfl ykSX5_least ⟨Nat.le_of_ble_eq_true rfl, Nat.le_of_ble_eq_true rfl⟩) hP hK hD hS [] rfl (by decide) (fun _ => rfl) (fun _ => wRo r ik tn jt ++ (wA cI (r 1) 100 Tt)) (fun _ => rfl) rfl hl.1 rfl (Nat.le_of_ble_eq_true rfl) dX5_swallows_54 ⟨Nat.le_of_ble_eq_true rfl, Nat.le_of_ble_eq_true rfl⟩ (fun _ H locs _ hP hD hS => ?_)
            refine W.eq (g2 := F0 m 57 ls [.int (iI (min (Tt (cx h (4 + t))) ((jt 0) / (chF kd ((t : Nat) : Int) (Tt 3)))))]) rfl ?_
            refine lv_istore (lv' := [(6, .int (iI (min (Tt (cx h (4 + t))) ((jt 0) / (chF kd ((t : Nat) : Int) (Tt 3)))))), (5, .int (iI (chF kd ((t : Nat) : Int) (Tt 3)))), (4, .int (iI (Tt (cx h (4 + t))))), (0, .ref (r 0)), (1, .int (iI kd)), (2, .int (iI ((h : Nat) : Int))), (3, .int (iI ((t : Nat) : Int)))]) hx hb dX5_swallows_57 hl (by decide) rfl (fun ls hl => ?_)
            refine lv_aload_n hx hb dX5_swallows_59 rfl (lv_at hl 3 rfl) ?_
            refine va_get (D := D) (ci := 4) (v := .ref (r 1)) (C := RX5) (T := TX5) (N := 18) hx hb hts (iT_X5_swallows_X5) hown hK hP 0 rfl rfl 0 (by decide) (hts (.fieldLink RX5 7 "WordSupperModel" "s" "[I") (by decide +kernel)) (fun _ h9 => h9) rfl dX5_swallows_60 ?_
            refine lv_iload_n hx hb dX5_swallows_63 rfl (lv_at hl 5 rfl) ?_
            refine x_iconst hx hb dX5_swallows_64 ?_
            refine lv_iload_n hx hb dX5_swallows_65 rfl (lv_at hl 6 rfl) ?_
            refine x_iadd hx hb dX5_swallows_66 ?_
            refine x_topi ((4 + t : Nat) : Int) (by omega) ?_
            refine x_callS (As := [.int (iI ((h : Nat) : Int)), .int (iI ((4 + t : Nat) : Int))]) (rest := [.ref (r 1)]) ⟨hx, hb, hml, hown, hts⟩ (kX5_at h (4 + t) ) (va_cwS 2 hts gX5_swallows_X5_at rfl rfl rfl ykSX5_at ⟨Nat.le_of_ble_eq_true rfl, Nat.le_of_ble_eq_true rfl⟩) hP hK hD hS [] rfl (by decide) (fun _ => rfl) (fun _ => wRo r ik tn jt ++ (wA cI (r 1) 100 Tt)) (fun _ => rfl) rfl hl.1 rfl (Nat.le_of_ble_eq_true rfl) dX5_swallows_67 ⟨Nat.le_of_ble_eq_true rfl, Nat.le_of_ble_eq_true rfl⟩ (fun _ H locs _ hP hD hS => ?_)
            refine W.eq (g2 := F0 m 70 ls [.int (iI ((cx h (4 + t) : Nat) : Int)), .ref (r 1)]) rfl ?_
            refine lv_iload hx hb dX5_swallows_70 (lv_at hl 2 rfl) ?_
            refine lv_iload hx hb dX5_swallows_72 (lv_at hl 0 rfl) ?_
            refine x_isub hx hb dX5_swallows_74 ?_
            refine x_iast hx hb hK hP hD hS 1 0 rfl rfl (cx h (4 + t)) rfl (cx_lt1 (by omega) (by omega)) (by decide) (wRo r ik tn jt ++ (wA cI (r 1) 100 (va_up Tt (cx h (4 + t)) ((Tt (cx h (4 + t))) - (min (Tt (cx h (4 + t))) ((jt 0) / (chF kd ((t : Nat) : Int) (Tt 3)))))))) (by rw [← wA_up cI (r 1) 100 Tt ((Tt (cx h (4 + t))) - (min (Tt (cx h (4 + t))) ((jt 0) / (chF kd ((t : Nat) : Int) (Tt 3))))) (cx h (4 + t)) (cx_lt1 (by omega) (by omega))]; rfl) dX5_swallows_75 (fun H locs hP hD hS => ?_)
            refine lv_aload_n hx hb dX5_swallows_76 rfl (lv_at hl 3 rfl) ?_
            refine lv_dup hx hb dX5_swallows_77 rfl ?_
            refine va_get (D := D) (ci := 4) (v := .int (iI (jt 0))) (C := RX5) (T := TX5) (N := 18) hx hb hts (iT_X5_swallows_X5) hown hK hP 0 rfl rfl 11 (by decide) (hts (.fieldLink RX5 106 "WordSupperModel" "bites" "I") (by decide +kernel)) (fun _ h9 => h9) rfl dX5_swallows_78 ?_
            refine lv_iload hx hb dX5_swallows_81 (lv_at hl 0 rfl) ?_
            refine lv_iload hx hb dX5_swallows_83 (lv_at hl 1 rfl) ?_
            refine x_imul hx hb dX5_swallows_85 ?_
            refine x_isub hx hb dX5_swallows_86 ?_
            refine x_putI (D := D) (ty := .int) (C := RX5) (T := TX5) (N := 18) hx hb 4 hts (iT_X5_swallows_X5) tyX5 tyX5_ok nmX5 hown hK hP hD hS 0 rfl rfl 11 (by decide) (hts (.fieldLink RX5 106 "WordSupperModel" "bites" "I") (by decide +kernel)) (fun _ h9 => h9) rfl (by decide +kernel) rfl rfl (Nat.le_of_ble_eq_true rfl) (wRo r ik tn (va_up jt 0 ((jt 0) - ((min (Tt (cx h (4 + t))) ((jt 0) / (chF kd ((t : Nat) : Int) (Tt 3)))) * (chF kd ((t : Nat) : Int) (Tt 3))))) ++ (wA cI (r 1) 100 (va_up Tt (cx h (4 + t)) ((Tt (cx h (4 + t))) - (min (Tt (cx h (4 + t))) ((jt 0) / (chF kd ((t : Nat) : Int) (Tt 3)))))))) (by rw [← wRo_j0 r ik tn jt ((jt 0) - ((min (Tt (cx h (4 + t))) ((jt 0) / (chF kd ((t : Nat) : Int) (Tt 3)))) * (chF kd ((t : Nat) : Int) (Tt 3))))]; rfl) dX5_swallows_87 (fun H locs hP hD hS => ?_)
            refine lv_aload_n hx hb dX5_swallows_90 rfl (lv_at hl 3 rfl) ?_
            refine lv_dup hx hb dX5_swallows_91 rfl ?_
            refine va_get (D := D) (ci := 4) (v := .int (iI ((va_up jt 0 ((jt 0) - ((min (Tt (cx h (4 + t))) ((jt 0) / (chF kd ((t : Nat) : Int) (Tt 3)))) * (chF kd ((t : Nat) : Int) (Tt 3))))) 1))) (C := RX5) (T := TX5) (N := 18) hx hb hts (iT_X5_swallows_X5) hown hK hP 0 rfl rfl 12 (by decide) (hts (.fieldLink RX5 110 "WordSupperModel" "swallowed" "I") (by decide +kernel)) (fun _ h9 => h9) rfl dX5_swallows_92 ?_
            refine lv_iload hx hb dX5_swallows_95 (lv_at hl 0 rfl) ?_
            refine x_iadd hx hb dX5_swallows_97 ?_
            refine x_putI (D := D) (ty := .int) (C := RX5) (T := TX5) (N := 18) hx hb 4 hts (iT_X5_swallows_X5) tyX5 tyX5_ok nmX5 hown hK hP hD hS 0 rfl rfl 12 (by decide) (hts (.fieldLink RX5 110 "WordSupperModel" "swallowed" "I") (by decide +kernel)) (fun _ h9 => h9) rfl (by decide +kernel) rfl rfl (Nat.le_of_ble_eq_true rfl) (wRo r ik tn (va_up (va_up jt 0 ((jt 0) - ((min (Tt (cx h (4 + t))) ((jt 0) / (chF kd ((t : Nat) : Int) (Tt 3)))) * (chF kd ((t : Nat) : Int) (Tt 3))))) 1 (((va_up jt 0 ((jt 0) - ((min (Tt (cx h (4 + t))) ((jt 0) / (chF kd ((t : Nat) : Int) (Tt 3)))) * (chF kd ((t : Nat) : Int) (Tt 3))))) 1) + (min (Tt (cx h (4 + t))) ((jt 0) / (chF kd ((t : Nat) : Int) (Tt 3)))))) ++ (wA cI (r 1) 100 (va_up Tt (cx h (4 + t)) ((Tt (cx h (4 + t))) - (min (Tt (cx h (4 + t))) ((jt 0) / (chF kd ((t : Nat) : Int) (Tt 3)))))))) (by rw [← wRo_j1 r ik tn (va_up jt 0 ((jt 0) - ((min (Tt (cx h (4 + t))) ((jt 0) / (chF kd ((t : Nat) : Int) (Tt 3)))) * (chF kd ((t : Nat) : Int) (Tt 3))))) (((va_up jt 0 ((jt 0) - ((min (Tt (cx h (4 + t))) ((jt 0) / (chF kd ((t : Nat) : Int) (Tt 3)))) * (chF kd ((t : Nat) : Int) (Tt 3))))) 1) + (min (Tt (cx h (4 + t))) ((jt 0) / (chF kd ((t : Nat) : Int) (Tt 3)))))]; rfl) dX5_swallows_98 (fun H locs hP hD hS => ?_)
            have e_sw : swS kd h t (Tt, jt 0, jt 1) = ((va_up Tt (cx h (4 + t)) ((Tt (cx h (4 + t))) - (min (Tt (cx h (4 + t))) ((jt 0) / (chF kd ((t : Nat) : Int) (Tt 3)))))), (va_up (va_up jt 0 ((jt 0) - ((min (Tt (cx h (4 + t))) ((jt 0) / (chF kd ((t : Nat) : Int) (Tt 3)))) * (chF kd ((t : Nat) : Int) (Tt 3))))) 1 (((va_up jt 0 ((jt 0) - ((min (Tt (cx h (4 + t))) ((jt 0) / (chF kd ((t : Nat) : Int) (Tt 3)))) * (chF kd ((t : Nat) : Int) (Tt 3))))) 1) + (min (Tt (cx h (4 + t))) ((jt 0) / (chF kd ((t : Nat) : Int) (Tt 3)))))) 0, (va_up (va_up jt 0 ((jt 0) - ((min (Tt (cx h (4 + t))) ((jt 0) / (chF kd ((t : Nat) : Int) (Tt 3)))) * (chF kd ((t : Nat) : Int) (Tt 3))))) 1 (((va_up jt 0 ((jt 0) - ((min (Tt (cx h (4 + t))) ((jt 0) / (chF kd ((t : Nat) : Int) (Tt 3)))) * (chF kd ((t : Nat) : Int) (Tt 3))))) 1) + (min (Tt (cx h (4 + t))) ((jt 0) / (chF kd ((t : Nat) : Int) (Tt 3)))))) 1) := by
              unfold swS; dsimp only; rw [swN_pos (by omega)]; simp only [up_s, up_n _ _ (show (0 : Nat) ≠ 1 by omega), up_n _ _ (show (1 : Nat) ≠ 0 by omega)]
            have hi2 := swS_J (k := kd) (z := (Tt, jt 0, jt 1)) (show t < 6 by omega) hh ⟨g1, g2, g4, g5, g6⟩
            rw [e_sw] at hi2
            dsimp only at hi2
            refine x_iinc hx hb 6 ((t + 1 : Nat) : Int) (by omega) [(3, .int (iI ((t + 1 : Nat) : Int))), (6, .int (iI (min (Tt (cx h (4 + t))) ((jt 0) / (chF kd ((t : Nat) : Int) (Tt 3)))))), (5, .int (iI (chF kd ((t : Nat) : Int) (Tt 3)))), (4, .int (iI (Tt (cx h (4 + t))))), (0, .ref (r 0)), (1, .int (iI kd)), (2, .int (iI ((h : Nat) : Int)))] dX5_swallows_101 hl rfl (by decide) rfl (fun ls hl => ?_)
            refine lv_goto (tgt := 2) hx hb dX5_swallows_104 (by decide) ?_
            exact ih (t + 1) (va_up Tt (cx h (4 + t)) ((Tt (cx h (4 + t))) - (min (Tt (cx h (4 + t))) ((jt 0) / (chF kd ((t : Nat) : Int) (Tt 3)))))) (va_up (va_up jt 0 ((jt 0) - ((min (Tt (cx h (4 + t))) ((jt 0) / (chF kd ((t : Nat) : Int) (Tt 3)))) * (chF kd ((t : Nat) : Int) (Tt 3))))) 1 (((va_up jt 0 ((jt 0) - ((min (Tt (cx h (4 + t))) ((jt 0) / (chF kd ((t : Nat) : Int) (Tt 3)))) * (chF kd ((t : Nat) : Int) (Tt 3))))) 1) + (min (Tt (cx h (4 + t))) ((jt 0) / (chF kd ((t : Nat) : Int) (Tt 3)))))) _ _ _ (by omega) (run_step hr e_sw) hi2 hP hD hS (lv_sub hl [4, 5, 6, 0] rfl)
          · refine lv_iload hx hb dX5_swallows_40 (lv_at hl 1 rfl) ?_
            refine lv_goto (tgt := 57) hx hb dX5_swallows_42 (by decide) ?_
            refine lv_istore (lv' := [(6, .int (iI (Tt (cx h (4 + t))))), (5, .int (iI (chF kd ((t : Nat) : Int) (Tt 3)))), (4, .int (iI (Tt (cx h (4 + t))))), (0, .ref (r 0)), (1, .int (iI kd)), (2, .int (iI ((h : Nat) : Int))), (3, .int (iI ((t : Nat) : Int)))]) hx hb dX5_swallows_57 hl (by decide) rfl (fun ls hl => ?_)
            refine lv_aload_n hx hb dX5_swallows_59 rfl (lv_at hl 3 rfl) ?_
            refine va_get (D := D) (ci := 4) (v := .ref (r 1)) (C := RX5) (T := TX5) (N := 18) hx hb hts (iT_X5_swallows_X5) hown hK hP 0 rfl rfl 0 (by decide) (hts (.fieldLink RX5 7 "WordSupperModel" "s" "[I") (by decide +kernel)) (fun _ h9 => h9) rfl dX5_swallows_60 ?_
            refine lv_iload_n hx hb dX5_swallows_63 rfl (lv_at hl 5 rfl) ?_
            refine x_iconst hx hb dX5_swallows_64 ?_
            refine lv_iload_n hx hb dX5_swallows_65 rfl (lv_at hl 6 rfl) ?_
            refine x_iadd hx hb dX5_swallows_66 ?_
            refine x_topi ((4 + t : Nat) : Int) (by omega) ?_
            refine x_callS (As := [.int (iI ((h : Nat) : Int)), .int (iI ((4 + t : Nat) : Int))]) (rest := [.ref (r 1)]) ⟨hx, hb, hml, hown, hts⟩ (kX5_at h (4 + t) ) (va_cwS 2 hts gX5_swallows_X5_at rfl rfl rfl ykSX5_at ⟨Nat.le_of_ble_eq_true rfl, Nat.le_of_ble_eq_true rfl⟩) hP hK hD hS [] rfl (by decide) (fun _ => rfl) (fun _ => wRo r ik tn jt ++ (wA cI (r 1) 100 Tt)) (fun _ => rfl) rfl hl.1 rfl (Nat.le_of_ble_eq_true rfl) dX5_swallows_67 ⟨Nat.le_of_ble_eq_true rfl, Nat.le_of_ble_eq_true rfl⟩ (fun _ H locs _ hP hD hS => ?_)
            refine W.eq (g2 := F0 m 70 ls [.int (iI ((cx h (4 + t) : Nat) : Int)), .ref (r 1)]) rfl ?_
            refine lv_iload hx hb dX5_swallows_70 (lv_at hl 2 rfl) ?_
            refine lv_iload hx hb dX5_swallows_72 (lv_at hl 0 rfl) ?_
            refine x_isub hx hb dX5_swallows_74 ?_
            refine x_iast hx hb hK hP hD hS 1 0 rfl rfl (cx h (4 + t)) rfl (cx_lt1 (by omega) (by omega)) (by decide) (wRo r ik tn jt ++ (wA cI (r 1) 100 (va_up Tt (cx h (4 + t)) ((Tt (cx h (4 + t))) - (Tt (cx h (4 + t))))))) (by rw [← wA_up cI (r 1) 100 Tt ((Tt (cx h (4 + t))) - (Tt (cx h (4 + t)))) (cx h (4 + t)) (cx_lt1 (by omega) (by omega))]; rfl) dX5_swallows_75 (fun H locs hP hD hS => ?_)
            refine lv_aload_n hx hb dX5_swallows_76 rfl (lv_at hl 3 rfl) ?_
            refine lv_dup hx hb dX5_swallows_77 rfl ?_
            refine va_get (D := D) (ci := 4) (v := .int (iI (jt 0))) (C := RX5) (T := TX5) (N := 18) hx hb hts (iT_X5_swallows_X5) hown hK hP 0 rfl rfl 11 (by decide) (hts (.fieldLink RX5 106 "WordSupperModel" "bites" "I") (by decide +kernel)) (fun _ h9 => h9) rfl dX5_swallows_78 ?_
            refine lv_iload hx hb dX5_swallows_81 (lv_at hl 0 rfl) ?_
            refine lv_iload hx hb dX5_swallows_83 (lv_at hl 1 rfl) ?_
            refine x_imul hx hb dX5_swallows_85 ?_
            refine x_isub hx hb dX5_swallows_86 ?_
            refine x_putI (D := D) (ty := .int) (C := RX5) (T := TX5) (N := 18) hx hb 4 hts (iT_X5_swallows_X5) tyX5 tyX5_ok nmX5 hown hK hP hD hS 0 rfl rfl 11 (by decide) (hts (.fieldLink RX5 106 "WordSupperModel" "bites" "I") (by decide +kernel)) (fun _ h9 => h9) rfl (by decide +kernel) rfl rfl (Nat.le_of_ble_eq_true rfl) (wRo r ik tn (va_up jt 0 ((jt 0) - ((Tt (cx h (4 + t))) * (chF kd ((t : Nat) : Int) (Tt 3))))) ++ (wA cI (r 1) 100 (va_up Tt (cx h (4 + t)) ((Tt (cx h (4 + t))) - (Tt (cx h (4 + t))))))) (by rw [← wRo_j0 r ik tn jt ((jt 0) - ((Tt (cx h (4 + t))) * (chF kd ((t : Nat) : Int) (Tt 3))))]; rfl) dX5_swallows_87 (fun H locs hP hD hS => ?_)
            refine lv_aload_n hx hb dX5_swallows_90 rfl (lv_at hl 3 rfl) ?_
            refine lv_dup hx hb dX5_swallows_91 rfl ?_
            refine va_get (D := D) (ci := 4) (v := .int (iI ((va_up jt 0 ((jt 0) - ((Tt (cx h (4 + t))) * (chF kd ((t : Nat) : Int) (Tt 3))))) 1))) (C := RX5) (T := TX5) (N := 18) hx hb hts (iT_X5_swallows_X5) hown hK hP 0 rfl rfl 12 (by decide) (hts (.fieldLink RX5 110 "WordSupperModel" "swallowed" "I") (by decide +kernel)) (fun _ h9 => h9) rfl dX5_swallows_92 ?_
            refine lv_iload hx hb dX5_swallows_95 (lv_at hl 0 rfl) ?_
            refine x_iadd hx hb dX5_swallows_97 ?_
            refine x_putI (D := D) (ty := .int) (C := RX5) (T := TX5) (N := 18) hx hb 4 hts (iT_X5_swallows_X5) tyX5 tyX5_ok nmX5 hown hK hP hD hS 0 rfl rfl 12 (by decide) (hts (.fieldLink RX5 110 "WordSupperModel" "swallowed" "I") (by decide +kernel)) (fun _ h9 => h9) rfl (by decide +kernel) rfl rfl (Nat.le_of_ble_eq_true rfl) (wRo r ik tn (va_up (va_up jt 0 ((jt 0) - ((Tt (cx h (4 + t))) * (chF kd ((t : Nat) : Int) (Tt 3))))) 1 (((va_up jt 0 ((jt 0) - ((Tt (cx h (4 + t))) * (chF kd ((t : Nat) : Int) (Tt 3))))) 1) + (Tt (cx h (4 + t))))) ++ (wA cI (r 1) 100 (va_up Tt (cx h (4 + t)) ((Tt (cx h (4 + t))) - (Tt (cx h (4 + t))))))) (by rw [← wRo_j1 r ik tn (va_up jt 0 ((jt 0) - ((Tt (cx h (4 + t))) * (chF kd ((t : Nat) : Int) (Tt 3))))) (((va_up jt 0 ((jt 0) - ((Tt (cx h (4 + t))) * (chF kd ((t : Nat) : Int) (Tt 3))))) 1) + (Tt (cx h (4 + t))))]; rfl) dX5_swallows_98 (fun H locs hP hD hS => ?_)
            have e_sw : swS kd h t (Tt, jt 0, jt 1) = ((va_up Tt (cx h (4 + t)) ((Tt (cx h (4 + t))) - (Tt (cx h (4 + t))))), (va_up (va_up jt 0 ((jt 0) - ((Tt (cx h (4 + t))) * (chF kd ((t : Nat) : Int) (Tt 3))))) 1 (((va_up jt 0 ((jt 0) - ((Tt (cx h (4 + t))) * (chF kd ((t : Nat) : Int) (Tt 3))))) 1) + (Tt (cx h (4 + t))))) 0, (va_up (va_up jt 0 ((jt 0) - ((Tt (cx h (4 + t))) * (chF kd ((t : Nat) : Int) (Tt 3))))) 1 (((va_up jt 0 ((jt 0) - ((Tt (cx h (4 + t))) * (chF kd ((t : Nat) : Int) (Tt 3))))) 1) + (Tt (cx h (4 + t))))) 1) := by
              unfold swS; dsimp only; rw [swN_zero (by omega)]; simp only [up_s, up_n _ _ (show (0 : Nat) ≠ 1 by omega), up_n _ _ (show (1 : Nat) ≠ 0 by omega)]
            have hi2 := swS_J (k := kd) (z := (Tt, jt 0, jt 1)) (show t < 6 by omega) hh ⟨g1, g2, g4, g5, g6⟩
            rw [e_sw] at hi2
            dsimp only at hi2
            refine x_iinc hx hb 6 ((t + 1 : Nat) : Int) (by omega) [(3, .int (iI ((t + 1 : Nat) : Int))), (6, .int (iI (Tt (cx h (4 + t))))), (5, .int (iI (chF kd ((t : Nat) : Int) (Tt 3)))), (4, .int (iI (Tt (cx h (4 + t))))), (0, .ref (r 0)), (1, .int (iI kd)), (2, .int (iI ((h : Nat) : Int)))] dX5_swallows_101 hl rfl (by decide) rfl (fun ls hl => ?_)
            refine lv_goto (tgt := 2) hx hb dX5_swallows_104 (by decide) ?_
            exact ih (t + 1) (va_up Tt (cx h (4 + t)) ((Tt (cx h (4 + t))) - (Tt (cx h (4 + t))))) (va_up (va_up jt 0 ((jt 0) - ((Tt (cx h (4 + t))) * (chF kd ((t : Nat) : Int) (Tt 3))))) 1 (((va_up jt 0 ((jt 0) - ((Tt (cx h (4 + t))) * (chF kd ((t : Nat) : Int) (Tt 3))))) 1) + (Tt (cx h (4 + t))))) _ _ _ (by omega) (run_step hr e_sw) hi2 hP hD hS (lv_sub hl [4, 5, 6, 0] rfl)
        · refine x_iconst hx hb dX5_swallows_31 ?_
          refine lv_goto (tgt := 57) hx hb dX5_swallows_32 (by decide) ?_
          refine lv_istore (lv' := [(6, .int (iI 0)), (5, .int (iI (chF kd ((t : Nat) : Int) (Tt 3)))), (4, .int (iI (Tt (cx h (4 + t))))), (0, .ref (r 0)), (1, .int (iI kd)), (2, .int (iI ((h : Nat) : Int))), (3, .int (iI ((t : Nat) : Int)))]) hx hb dX5_swallows_57 hl (by decide) rfl (fun ls hl => ?_)
          refine lv_aload_n hx hb dX5_swallows_59 rfl (lv_at hl 3 rfl) ?_
          refine va_get (D := D) (ci := 4) (v := .ref (r 1)) (C := RX5) (T := TX5) (N := 18) hx hb hts (iT_X5_swallows_X5) hown hK hP 0 rfl rfl 0 (by decide) (hts (.fieldLink RX5 7 "WordSupperModel" "s" "[I") (by decide +kernel)) (fun _ h9 => h9) rfl dX5_swallows_60 ?_
          refine lv_iload_n hx hb dX5_swallows_63 rfl (lv_at hl 5 rfl) ?_
          refine x_iconst hx hb dX5_swallows_64 ?_
          refine lv_iload_n hx hb dX5_swallows_65 rfl (lv_at hl 6 rfl) ?_
          refine x_iadd hx hb dX5_swallows_66 ?_
          refine x_topi ((4 + t : Nat) : Int) (by omega) ?_
          refine x_callS (As := [.int (iI ((h : Nat) : Int)), .int (iI ((4 + t : Nat) : Int))]) (rest := [.ref (r 1)]) ⟨hx, hb, hml, hown, hts⟩ (kX5_at h (4 + t) ) (va_cwS 2 hts gX5_swallows_X5_at rfl rfl rfl ykSX5_at ⟨Nat.le_of_ble_eq_true rfl, Nat.le_of_ble_eq_true rfl⟩) hP hK hD hS [] rfl (by decide) (fun _ => rfl) (fun _ => wRo r ik tn jt ++ (wA cI (r 1) 100 Tt)) (fun _ => rfl) rfl hl.1 rfl (Nat.le_of_ble_eq_true rfl) dX5_swallows_67 ⟨Nat.le_of_ble_eq_true rfl, Nat.le_of_ble_eq_true rfl⟩ (fun _ H locs _ hP hD hS => ?_)
          refine W.eq (g2 := F0 m 70 ls [.int (iI ((cx h (4 + t) : Nat) : Int)), .ref (r 1)]) rfl ?_
          refine lv_iload hx hb dX5_swallows_70 (lv_at hl 2 rfl) ?_
          refine lv_iload hx hb dX5_swallows_72 (lv_at hl 0 rfl) ?_
          refine x_isub hx hb dX5_swallows_74 ?_
          refine x_iast hx hb hK hP hD hS 1 0 rfl rfl (cx h (4 + t)) rfl (cx_lt1 (by omega) (by omega)) (by decide) (wRo r ik tn jt ++ (wA cI (r 1) 100 (va_up Tt (cx h (4 + t)) ((Tt (cx h (4 + t))) - 0)))) (by rw [← wA_up cI (r 1) 100 Tt ((Tt (cx h (4 + t))) - 0) (cx h (4 + t)) (cx_lt1 (by omega) (by omega))]; rfl) dX5_swallows_75 (fun H locs hP hD hS => ?_)
          refine lv_aload_n hx hb dX5_swallows_76 rfl (lv_at hl 3 rfl) ?_
          refine lv_dup hx hb dX5_swallows_77 rfl ?_
          refine va_get (D := D) (ci := 4) (v := .int (iI (jt 0))) (C := RX5) (T := TX5) (N := 18) hx hb hts (iT_X5_swallows_X5) hown hK hP 0 rfl rfl 11 (by decide) (hts (.fieldLink RX5 106 "WordSupperModel" "bites" "I") (by decide +kernel)) (fun _ h9 => h9) rfl dX5_swallows_78 ?_
          refine lv_iload hx hb dX5_swallows_81 (lv_at hl 0 rfl) ?_
          refine lv_iload hx hb dX5_swallows_83 (lv_at hl 1 rfl) ?_
          refine x_imul hx hb dX5_swallows_85 ?_
          refine x_isub hx hb dX5_swallows_86 ?_
          refine x_putI (D := D) (ty := .int) (C := RX5) (T := TX5) (N := 18) hx hb 4 hts (iT_X5_swallows_X5) tyX5 tyX5_ok nmX5 hown hK hP hD hS 0 rfl rfl 11 (by decide) (hts (.fieldLink RX5 106 "WordSupperModel" "bites" "I") (by decide +kernel)) (fun _ h9 => h9) rfl (by decide +kernel) rfl rfl (Nat.le_of_ble_eq_true rfl) (wRo r ik tn (va_up jt 0 ((jt 0) - (0 * (chF kd ((t : Nat) : Int) (Tt 3))))) ++ (wA cI (r 1) 100 (va_up Tt (cx h (4 + t)) ((Tt (cx h (4 + t))) - 0)))) (by rw [← wRo_j0 r ik tn jt ((jt 0) - (0 * (chF kd ((t : Nat) : Int) (Tt 3))))]; rfl) dX5_swallows_87 (fun H locs hP hD hS => ?_)
          refine lv_aload_n hx hb dX5_swallows_90 rfl (lv_at hl 3 rfl) ?_
          refine lv_dup hx hb dX5_swallows_91 rfl ?_
          refine va_get (D := D) (ci := 4) (v := .int (iI ((va_up jt 0 ((jt 0) - (0 * (chF kd ((t : Nat) : Int) (Tt 3))))) 1))) (C := RX5) (T := TX5) (N := 18) hx hb hts (iT_X5_swallows_X5) hown hK hP 0 rfl rfl 12 (by decide) (hts (.fieldLink RX5 110 "WordSupperModel" "swallowed" "I") (by decide +kernel)) (fun _ h9 => h9) rfl dX5_swallows_92 ?_
          refine lv_iload hx hb dX5_swallows_95 (lv_at hl 0 rfl) ?_
          refine x_iadd hx hb dX5_swallows_97 ?_
          refine x_putI (D := D) (ty := .int) (C := RX5) (T := TX5) (N := 18) hx hb 4 hts (iT_X5_swallows_X5) tyX5 tyX5_ok nmX5 hown hK hP hD hS 0 rfl rfl 12 (by decide) (hts (.fieldLink RX5 110 "WordSupperModel" "swallowed" "I") (by decide +kernel)) (fun _ h9 => h9) rfl (by decide +kernel) rfl rfl (Nat.le_of_ble_eq_true rfl) (wRo r ik tn (va_up (va_up jt 0 ((jt 0) - (0 * (chF kd ((t : Nat) : Int) (Tt 3))))) 1 (((va_up jt 0 ((jt 0) - (0 * (chF kd ((t : Nat) : Int) (Tt 3))))) 1) + 0)) ++ (wA cI (r 1) 100 (va_up Tt (cx h (4 + t)) ((Tt (cx h (4 + t))) - 0)))) (by rw [← wRo_j1 r ik tn (va_up jt 0 ((jt 0) - (0 * (chF kd ((t : Nat) : Int) (Tt 3))))) (((va_up jt 0 ((jt 0) - (0 * (chF kd ((t : Nat) : Int) (Tt 3))))) 1) + 0)]; rfl) dX5_swallows_98 (fun H locs hP hD hS => ?_)
          have e_sw : swS kd h t (Tt, jt 0, jt 1) = ((va_up Tt (cx h (4 + t)) ((Tt (cx h (4 + t))) - 0)), (va_up (va_up jt 0 ((jt 0) - (0 * (chF kd ((t : Nat) : Int) (Tt 3))))) 1 (((va_up jt 0 ((jt 0) - (0 * (chF kd ((t : Nat) : Int) (Tt 3))))) 1) + 0)) 0, (va_up (va_up jt 0 ((jt 0) - (0 * (chF kd ((t : Nat) : Int) (Tt 3))))) 1 (((va_up jt 0 ((jt 0) - (0 * (chF kd ((t : Nat) : Int) (Tt 3))))) 1) + 0)) 1) := by
            unfold swS; dsimp only; rw [swN_neg (by omega)]; simp only [up_s, up_n _ _ (show (0 : Nat) ≠ 1 by omega), up_n _ _ (show (1 : Nat) ≠ 0 by omega)]
          have hi2 := swS_J (k := kd) (z := (Tt, jt 0, jt 1)) (show t < 6 by omega) hh ⟨g1, g2, g4, g5, g6⟩
          rw [e_sw] at hi2
          dsimp only at hi2
          refine x_iinc hx hb 6 ((t + 1 : Nat) : Int) (by omega) [(3, .int (iI ((t + 1 : Nat) : Int))), (6, .int (iI 0)), (5, .int (iI (chF kd ((t : Nat) : Int) (Tt 3)))), (4, .int (iI (Tt (cx h (4 + t))))), (0, .ref (r 0)), (1, .int (iI kd)), (2, .int (iI ((h : Nat) : Int)))] dX5_swallows_101 hl rfl (by decide) rfl (fun ls hl => ?_)
          refine lv_goto (tgt := 2) hx hb dX5_swallows_104 (by decide) ?_
          exact ih (t + 1) (va_up Tt (cx h (4 + t)) ((Tt (cx h (4 + t))) - 0)) (va_up (va_up jt 0 ((jt 0) - (0 * (chF kd ((t : Nat) : Int) (Tt 3))))) 1 (((va_up jt 0 ((jt 0) - (0 * (chF kd ((t : Nat) : Int) (Tt 3))))) 1) + 0)) _ _ _ (by omega) (run_step hr e_sw) hi2 hP hD hS (lv_sub hl [4, 5, 6, 0] rfl)
  exact L2 6 0 T j _ _ _ (by omega) rfl ⟨hI, fun _ _ => rfl, hb0, hs0.1, by omega⟩ hP hD hS (lv_sub hl [1, 2, 3, 0] rfl)
