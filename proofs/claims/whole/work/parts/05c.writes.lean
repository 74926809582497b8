theorem ykSX2_say : yX2_say.cls ≠ "java/lang/invoke/MethodHandle" ∧ yX2_say.cls ≠ "java/lang/invoke/VarHandle" ∧ (parseMethodDescriptor yX2_say.desc).map (fun d => d.parameters.length) = some 3 := by decide +kernel
theorem ykVX2_say : yX2_say.cls = RX2 ∧ yX2_say.cls ≠ "java/lang/invoke/MethodHandle" ∧ yX2_say.cls ≠ "java/lang/invoke/VarHandle" ∧ (parseMethodDescriptor yX2_say.desc).map (fun d => d.parameters.length) = some 3 := ⟨rfl, ykSX2_say⟩
set_option maxRecDepth 20000 in
theorem iT_X2_say_X2 : ∀ w ∈ u_ws RX2 TX2 12, w ∈ wsX2_say := by decide +kernel
set_option maxHeartbeats 4000000 in
set_option maxRecDepth 100000 in
theorem kX2_say {l : Launch} {D : va_G} {cI cB : ClassId} (q : Nat → Nat) (T : Tb) (b : Int) (p : Nat) (t : Nat) (w : Int) (hp : p < 8) (ht : t < 6) (hv : 0 ≤ T (cx p (4 + t)) ∧ T (cx p (4 + t)) ≤ 999) (hw : 0 ≤ w ∧ w ≤ 1000) : Ct l yX2_say wsX2_say 1 21 D [(cI, .int), (cB, .byte)] [.ref (q 0), .int (iI ((p : Nat) : Int)), .int (iI ((t : Nat) : Int)), .int (iI w)] (wTab cI q T b) (S := Unit) (fun _ => none) (fun _ => True) (fun _ => wTab cI q (va_up T (cx p (4 + t)) (min 999 (T (cx p (4 + t)) + w))) b) := by
  refine CtV.of (cc := cX2_say) (maxL := 5) (by decide +kernel) rfl (Nat.le_of_ble_eq_true rfl) ?_
  intro pg e s m args below meth c Q A hx hb hml hts hown hP hK hD hS ls hl kend
  have hown : s.vm.findClass RX2 = some m.cls := hown
  have hl : lv_has ls 5 [(0, .ref (q 0)), (1, .int (iI ((p : Nat) : Int))), (2, .int (iI ((t : Nat) : Int))), (3, .int (iI w))] := hl
  refine lv_iload_n hx hb dX2_say_0 rfl (lv_at hl 1 rfl) ?_
  refine lv_iload_n hx hb dX2_say_1 rfl (lv_at hl 2 rfl) ?_
  refine x_callS (As := [.int (iI ((p : Nat) : Int)), .int (iI ((t : Nat) : Int))]) (rest := []) ⟨hx, hb, hml, hown, hts⟩ (kX2_at p t (by omega) (by omega)) (va_cwS 2 hts gX2_say_X2_at rfl rfl rfl ykSX2_at ⟨Nat.le_of_ble_eq_true rfl, Nat.le_of_ble_eq_true rfl⟩) hP hK hD hS [] rfl (by decide) (fun _ => rfl) (fun _ => wTab cI q T b) (fun _ => rfl) rfl hl.1 rfl (Nat.le_of_ble_eq_true rfl) dX2_say_2 ⟨Nat.le_of_ble_eq_true rfl, Nat.le_of_ble_eq_true rfl⟩ (fun _ H locs _ hP hD hS => ?_)
  refine W.eq (g2 := F0 m 5 ls [.int (iI ((6 * p + t : Nat) : Int))]) rfl ?_
  refine lv_istore (lv' := [(4, .int (iI ((6 * p + t : Nat) : Int))), (0, .ref (q 0)), (1, .int (iI ((p : Nat) : Int))), (2, .int (iI ((t : Nat) : Int))), (3, .int (iI w))]) hx hb dX2_say_5 hl (by decide) rfl (fun ls hl => ?_)
  refine lv_aload_n hx hb dX2_say_7 rfl (lv_at hl 1 rfl) ?_
  refine va_get (D := D) (ci := 1) (v := .ref (q 6)) (C := RX2) (T := TX2) (N := 12) hx hb hts (iT_X2_say_X2) hown hK hP 0 rfl rfl 10 (by decide) (hts (.fieldLink RX2 34 "WordSupper$Table" "plates" "[I") (by decide +kernel)) (fun _ h9 => h9) rfl dX2_say_8 ?_
  refine lv_iload hx hb dX2_say_11 (lv_at hl 0 rfl) ?_
  refine x_sipush hx hb dX2_say_13 (by decide) ?_
  refine lv_aload_n hx hb dX2_say_16 rfl (lv_at hl 1 rfl) ?_
  refine va_get (D := D) (ci := 1) (v := .ref (q 6)) (C := RX2) (T := TX2) (N := 12) hx hb hts (iT_X2_say_X2) hown hK hP 0 rfl rfl 10 (by decide) (hts (.fieldLink RX2 34 "WordSupper$Table" "plates" "[I") (by decide +kernel)) (fun _ h9 => h9) rfl dX2_say_17 ?_
  refine lv_iload hx hb dX2_say_20 (lv_at hl 0 rfl) ?_
  refine x_iald hx hb hK hP 6 0 rfl rfl (6 * p + t) rfl (by omega) (by decide) (T (cx p (4 + t))) (plG_gd _ (by omega) (by omega)) dX2_say_22 ?_
  refine lv_iload_n hx hb dX2_say_23 rfl (lv_at hl 4 rfl) ?_
  refine x_iadd hx hb dX2_say_24 ?_
  refine x_mmin hx hb (hml.trans hl.1.symm) hown (hts (.methodLink RX2 88 Lib.Math.min.name) (by decide +kernel)) (hts (.static Lib.Math.min.name) (by decide +kernel)) (hts (.initialized "java/lang/Math") (by decide +kernel)) (hts (.code Lib.Math.min.name Lib.Math.min.code 2 (some .int)) (by decide +kernel)) (Nat.le_of_ble_eq_true rfl) (Nat.le_of_ble_eq_true rfl) (Nat.le_of_ble_eq_true rfl) (Nat.le_of_ble_eq_true rfl) (by decide) (by omega) dX2_say_25 ?_
  refine x_iast hx hb hK hP hD hS 6 0 rfl rfl (6 * p + t) rfl (by omega) (by decide) (wTab cI q (va_up T (cx p (4 + t)) (min 999 ((T (cx p (4 + t))) + w))) b) (wT_plates cI q T b (min 999 ((T (cx p (4 + t))) + w)) p t (by omega) (by omega)) dX2_say_28 (fun H locs hP hD hS => ?_)
  exact kend () hP hS rfl trivial dX2_say_29
theorem ykSX2_draw : yX2_draw.cls ≠ "java/lang/invoke/MethodHandle" ∧ yX2_draw.cls ≠ "java/lang/invoke/VarHandle" ∧ (parseMethodDescriptor yX2_draw.desc).map (fun d => d.parameters.length) = some 0 := by decide +kernel
theorem ykVX2_draw : yX2_draw.cls = RX2 ∧ yX2_draw.cls ≠ "java/lang/invoke/MethodHandle" ∧ yX2_draw.cls ≠ "java/lang/invoke/VarHandle" ∧ (parseMethodDescriptor yX2_draw.desc).map (fun d => d.parameters.length) = some 0 := ⟨rfl, ykSX2_draw⟩
set_option maxRecDepth 20000 in
theorem iT_X2_draw_X2 : ∀ w ∈ u_ws RX2 TX2 12, w ∈ wsX2_draw := by decide +kernel
set_option maxHeartbeats 4000000 in
set_option maxRecDepth 100000 in
theorem kX2_draw {l : Launch} {D : va_G} {cI cB : ClassId} (q : Nat → Nat) (T : Tb) (b : Int) : Ct l yX2_draw wsX2_draw 0 0 D [(cI, .int), (cB, .byte)] [.ref (q 0)] (wTab cI q T b) (S := Unit) (fun _ => some (.int (iI (ushrI (drF T 2) 8)))) (fun _ => True) (fun _ => wTab cI q (drF T) b) := by
  refine CtI.of (cc := cX2_draw) (maxL := 1) (by decide +kernel) rfl (Nat.le_of_ble_eq_true rfl) ?_
  intro pg e s m args below meth c Q A hx hb hml hts hown hP hK hD hS ls hl kend
  have hown : s.vm.findClass RX2 = some m.cls := hown
  have hl : lv_has ls 1 [(0, .ref (q 0))] := hl
  refine lv_aload_n hx hb dX2_draw_0 rfl (lv_at hl 0 rfl) ?_
  refine lv_aload_n hx hb dX2_draw_1 rfl (lv_at hl 0 rfl) ?_
  refine va_get (D := D) (ci := 1) (v := .int (iI (T 2))) (C := RX2) (T := TX2) (N := 12) hx hb hts (iT_X2_draw_X2) hown hK hP 0 rfl rfl 2 (by decide) (hts (.fieldLink RX2 15 "WordSupper$Table" "z" "I") (by decide +kernel)) (fun _ h9 => h9) rfl dX2_draw_2 ?_
  refine x_ldc hx hb 1103515245 rfl hown (hts (.constant RX2 66 (1103515245)) (by decide +kernel)) dX2_draw_5 ?_
  refine x_imul hx hb dX2_draw_7 ?_
  refine x_sipush hx hb dX2_draw_8 (by decide) ?_
  refine x_iadd hx hb dX2_draw_11 ?_
  refine x_putI (D := D) (ty := .int) (C := RX2) (T := TX2) (N := 12) hx hb 1 hts (iT_X2_draw_X2) tyX2 tyX2_ok nmX2 hown hK hP hD hS 0 rfl rfl 2 (by decide) (hts (.fieldLink RX2 15 "WordSupper$Table" "z" "I") (by decide +kernel)) (fun _ h9 => h9) rfl (by decide +kernel) rfl rfl (Nat.le_of_ble_eq_true rfl) (wTab cI q (va_up T 2 (((T 2) * 1103515245) + 12345)) b) (wT_z cI q T b (((T 2) * 1103515245) + 12345)) dX2_draw_12 (fun H locs hP hD hS => ?_)
  refine lv_aload_n hx hb dX2_draw_15 rfl (lv_at hl 0 rfl) ?_
  refine va_get (D := D) (ci := 1) (v := .int (iI ((va_up T 2 (((T 2) * 1103515245) + 12345)) 2))) (C := RX2) (T := TX2) (N := 12) hx hb hts (iT_X2_draw_X2) hown hK hP 0 rfl rfl 2 (by decide) (hts (.fieldLink RX2 15 "WordSupper$Table" "z" "I") (by decide +kernel)) (fun _ h9 => h9) rfl dX2_draw_16 ?_
  refine x_bipush hx hb dX2_draw_19 (by decide) ?_
  refine x_iushr hx hb dX2_draw_21 ?_
  exact kend () hP hS (an_i (by unfold drF; rfl)) trivial dX2_draw_22
theorem ykSX2_seat : yX2_seat.cls ≠ "java/lang/invoke/MethodHandle" ∧ yX2_seat.cls ≠ "java/lang/invoke/VarHandle" ∧ (parseMethodDescriptor yX2_seat.desc).map (fun d => d.parameters.length) = some 1 := by decide +kernel
theorem ykVX2_seat : yX2_seat.cls = RX2 ∧ yX2_seat.cls ≠ "java/lang/invoke/MethodHandle" ∧ yX2_seat.cls ≠ "java/lang/invoke/VarHandle" ∧ (parseMethodDescriptor yX2_seat.desc).map (fun d => d.parameters.length) = some 1 := ⟨rfl, ykSX2_seat⟩
set_option maxRecDepth 20000 in
theorem iT_X2_seat_X2 : ∀ w ∈ u_ws RX2 TX2 12, w ∈ wsX2_seat := by decide +kernel
set_option maxHeartbeats 4000000 in
set_option maxRecDepth 100000 in
theorem kX2_seat {l : Launch} {D : va_G} {cI cB : ClassId} (q : Nat → Nat) (T : Tb) (b : Int) (kd : Int) (n : Nat) (hk : rI kd) (hn : T 0 = (n : Int)) (hn8 : n < 8) : Ct l yX2_seat wsX2_seat 1 21 D [(cI, .int), (cB, .byte)] [.ref (q 0), .int (iI kd)] (wTab cI q T b) (S := Tb) (fun u => some (.int (iI ((n : Nat) : Int)))) (fun u => u = stF kd n T) (fun u => wTab cI q u b) := by
  refine CtI.of (cc := cX2_seat) (maxL := 4) (by decide +kernel) rfl (Nat.le_of_ble_eq_true rfl) ?_
  intro pg e s m args below meth c Q A hx hb hml hts hown hP hK hD hS ls hl kend
  have hown : s.vm.findClass RX2 = some m.cls := hown
  have hl : lv_has ls 4 [(0, .ref (q 0)), (1, .int (iI kd))] := hl
  refine lv_aload_n hx hb dX2_seat_0 rfl (lv_at hl 0 rfl) ?_
  refine va_get (D := D) (ci := 1) (v := .int (iI (T 0))) (C := RX2) (T := TX2) (N := 12) hx hb hts (iT_X2_seat_X2) hown hK hP 0 rfl rfl 3 (by decide) (hts (.fieldLink RX2 43 "WordSupper$Table" "seats" "I") (by decide +kernel)) (fun _ h9 => h9) rfl dX2_seat_1 ?_
  refine x_topi ((n : Nat) : Int) hn ?_
  refine lv_istore_n (lv' := [(2, .int (iI ((n : Nat) : Int))), (0, .ref (q 0)), (1, .int (iI kd))]) hx hb dX2_seat_4 rfl hl (by decide) rfl (fun ls hl => ?_)
  refine lv_aload_n hx hb dX2_seat_5 rfl (lv_at hl 1 rfl) ?_
  refine lv_dup hx hb dX2_seat_6 rfl ?_
  refine va_get (D := D) (ci := 1) (v := .int (iI (T 0))) (C := RX2) (T := TX2) (N := 12) hx hb hts (iT_X2_seat_X2) hown hK hP 0 rfl rfl 3 (by decide) (hts (.fieldLink RX2 43 "WordSupper$Table" "seats" "I") (by decide +kernel)) (fun _ h9 => h9) rfl dX2_seat_7 ?_
  refine x_iconst hx hb dX2_seat_10 ?_
  refine x_iadd hx hb dX2_seat_11 ?_
  refine x_putI (D := D) (ty := .int) (C := RX2) (T := TX2) (N := 12) hx hb 1 hts (iT_X2_seat_X2) tyX2 tyX2_ok nmX2 hown hK hP hD hS 0 rfl rfl 3 (by decide) (hts (.fieldLink RX2 43 "WordSupper$Table" "seats" "I") (by decide +kernel)) (fun _ h9 => h9) rfl (by decide +kernel) rfl rfl (Nat.le_of_ble_eq_true rfl) (wTab cI q (va_up T 0 ((T 0) + 1)) b) (wT_seats cI q T b ((T 0) + 1)) dX2_seat_12 (fun H locs hP hD hS => ?_)
  refine lv_aload_n hx hb dX2_seat_15 rfl (lv_at hl 1 rfl) ?_
  refine va_get (D := D) (ci := 1) (v := .ref (q 2)) (C := RX2) (T := TX2) (N := 12) hx hb hts (iT_X2_seat_X2) hown hK hP 0 rfl rfl 6 (by decide) (hts (.fieldLink RX2 22 "WordSupper$Table" "kind" "[I") (by decide +kernel)) (fun _ h9 => h9) rfl dX2_seat_16 ?_
  refine lv_iload_n hx hb dX2_seat_19 rfl (lv_at hl 0 rfl) ?_
  refine lv_iload_n hx hb dX2_seat_20 rfl (lv_at hl 2 rfl) ?_
  refine x_iast hx hb hK hP hD hS 2 0 rfl rfl n rfl (by omega) (by decide) (wTab cI q (va_up (va_up T 0 ((T 0) + 1)) (cx n 0) kd) b) (wT_kind cI q (va_up T 0 ((T 0) + 1)) b kd n (by omega)) dX2_seat_21 (fun H locs hP hD hS => ?_)
  refine lv_aload_n hx hb dX2_seat_22 rfl (lv_at hl 1 rfl) ?_
  refine va_get (D := D) (ci := 1) (v := .ref (q 3)) (C := RX2) (T := TX2) (N := 12) hx hb hts (iT_X2_seat_X2) hown hK hP 0 rfl rfl 7 (by decide) (hts (.fieldLink RX2 25 "WordSupper$Table" "loves" "[I") (by decide +kernel)) (fun _ h9 => h9) rfl dX2_seat_23 ?_
  refine lv_iload_n hx hb dX2_seat_26 rfl (lv_at hl 0 rfl) ?_
  refine x_iconst hx hb dX2_seat_27 ?_
  refine x_iast hx hb hK hP hD hS 3 0 rfl rfl n rfl (by omega) (by decide) (wTab cI q (va_up (va_up (va_up T 0 ((T 0) + 1)) (cx n 0) kd) (cx n 1) (-1)) b) (wT_loves cI q (va_up (va_up T 0 ((T 0) + 1)) (cx n 0) kd) b (-1) n (by omega)) dX2_seat_28 (fun H locs hP hD hS => ?_)
  refine lv_aload_n hx hb dX2_seat_29 rfl (lv_at hl 1 rfl) ?_
  refine va_get (D := D) (ci := 1) (v := .ref (q 4)) (C := RX2) (T := TX2) (N := 12) hx hb hts (iT_X2_seat_X2) hown hK hP 0 rfl rfl 8 (by decide) (hts (.fieldLink RX2 28 "WordSupper$Table" "fat" "[I") (by decide +kernel)) (fun _ h9 => h9) rfl dX2_seat_30 ?_
  refine lv_iload_n hx hb dX2_seat_33 rfl (lv_at hl 0 rfl) ?_
  refine x_bipush hx hb dX2_seat_34 (by decide) ?_
  refine x_iast hx hb hK hP hD hS 4 0 rfl rfl n rfl (by omega) (by decide) (wTab cI q (va_up (va_up (va_up (va_up T 0 ((T 0) + 1)) (cx n 0) kd) (cx n 1) (-1)) (cx n 2) 50) b) (wT_fat cI q (va_up (va_up (va_up T 0 ((T 0) + 1)) (cx n 0) kd) (cx n 1) (-1)) b 50 n (by omega)) dX2_seat_36 (fun H locs hP hD hS => ?_)
  refine lv_aload_n hx hb dX2_seat_37 rfl (lv_at hl 1 rfl) ?_
  refine va_get (D := D) (ci := 1) (v := .ref (q 5)) (C := RX2) (T := TX2) (N := 12) hx hb hts (iT_X2_seat_X2) hown hK hP 0 rfl rfl 9 (by decide) (hts (.fieldLink RX2 31 "WordSupper$Table" "ate" "[I") (by decide +kernel)) (fun _ h9 => h9) rfl dX2_seat_38 ?_
  refine lv_iload_n hx hb dX2_seat_41 rfl (lv_at hl 0 rfl) ?_
  refine x_iconst hx hb dX2_seat_42 ?_
  refine x_iast hx hb hK hP hD hS 5 0 rfl rfl n rfl (by omega) (by decide) (wTab cI q (va_up (va_up (va_up (va_up (va_up T 0 ((T 0) + 1)) (cx n 0) kd) (cx n 1) (-1)) (cx n 2) 50) (cx n 3) 0) b) (wT_ate cI q (va_up (va_up (va_up (va_up T 0 ((T 0) + 1)) (cx n 0) kd) (cx n 1) (-1)) (cx n 2) 50) b 0 n (by omega)) dX2_seat_43 (fun H locs hP hD hS => ?_)
  refine x_iconst hx hb dX2_seat_44 ?_
  refine lv_istore_n (lv' := [(3, .int (iI 0)), (2, .int (iI ((n : Nat) : Int))), (0, .ref (q 0)), (1, .int (iI kd))]) hx hb dX2_seat_45 rfl hl (by decide) rfl (fun ls hl => ?_)
  have L46 : ∀ (k t : Nat) (Tt : Tb) (H : Heap) (locs : List Loc) (ls : Array Slot), t + k = 6 → (run (fun (t : Nat) (S : Tb) => va_up S (cx n (4 + t)) 0) k t Tt = stF kd n T) → va_P D vwCl (wTab cI q Tt b) H → va_D A (wTab cI q Tt b) → va_S A s.heap H locs → lv_has ls 4 [(0, .ref (q 0)), (1, .int (iI kd)), (2, .int (iI ((n : Nat) : Int))), (3, .int (iI ((t : Nat) : Int)))] → W pg l e { frames := 1, cells := 0, slots := 0, locals := 21 } s m args below meth c H locs 0 0 Q (F0 m 46 ls []) := by
    intro k
    induction k with
    | zero =>
      intro t Tt H locs ls hkt hr hP hD hS hl
      refine lv_iload_n hx hb dX2_seat_46 rfl (lv_at hl 3 rfl) ?_
      refine x_bipush hx hb dX2_seat_47 (by decide) ?_
      refine x_icmp_ge (tgt := 69) hx hb (by omega) (by decide) dX2_seat_49 (by decide) (fun c_49 => ?_) (fun c_49 => ?_)
      · refine lv_iload_n hx hb dX2_seat_69 rfl (lv_at hl 2 rfl) ?_
        exact kend Tt hP hS rfl hr dX2_seat_70
      · exfalso; omega
    | succ k ih =>
      intro t Tt H locs ls hkt hr hP hD hS hl
      refine lv_iload_n hx hb dX2_seat_46 rfl (lv_at hl 3 rfl) ?_
      refine x_bipush hx hb dX2_seat_47 (by decide) ?_
      refine x_icmp_ge (tgt := 69) hx hb (by omega) (by decide) dX2_seat_49 (by decide) (fun c_49 => ?_) (fun c_49 => ?_)
      · exfalso; omega
      · refine lv_aload_n hx hb dX2_seat_52 rfl (lv_at hl 0 rfl) ?_
        refine va_get (D := D) (ci := 1) (v := .ref (q 6)) (C := RX2) (T := TX2) (N := 12) hx hb hts (iT_X2_seat_X2) hown hK hP 0 rfl rfl 10 (by decide) (hts (.fieldLink RX2 34 "WordSupper$Table" "plates" "[I") (by decide +kernel)) (fun _ h9 => h9) rfl dX2_seat_53 ?_
        refine lv_iload_n hx hb dX2_seat_56 rfl (lv_at hl 2 rfl) ?_
        refine lv_iload_n hx hb dX2_seat_57 rfl (lv_at hl 3 rfl) ?_
        refine x_callS (As := [.int (iI ((n : Nat) : Int)), .int (iI ((t : Nat) : Int))]) (rest := [.ref (q 6)]) ⟨hx, hb, hml, hown, hts⟩ (kX2_at n t (by omega) (by omega)) (va_cwS 2 hts gX2_seat_X2_at rfl rfl rfl ykSX2_at ⟨Nat.le_of_ble_eq_true rfl, Nat.le_of_ble_eq_true rfl⟩) hP hK hD hS [] rfl (by decide) (fun _ => rfl) (fun _ => wTab cI q Tt b) (fun _ => rfl) rfl hl.1 rfl (Nat.le_of_ble_eq_true rfl) dX2_seat_58 ⟨Nat.le_of_ble_eq_true rfl, Nat.le_of_ble_eq_true rfl⟩ (fun _ H locs _ hP hD hS => ?_)
        refine W.eq (g2 := F0 m 61 ls [.int (iI ((6 * n + t : Nat) : Int)), .ref (q 6)]) rfl ?_
        refine x_iconst hx hb dX2_seat_61 ?_
        refine x_iast hx hb hK hP hD hS 6 0 rfl rfl (6 * n + t) rfl (by omega) (by decide) (wTab cI q (va_up Tt (cx n (4 + t)) 0) b) (wT_plates cI q Tt b 0 n t (by omega) (by omega)) dX2_seat_62 (fun H locs hP hD hS => ?_)
        refine x_iinc hx hb 3 ((t + 1 : Nat) : Int) (by omega) [(3, .int (iI ((t + 1 : Nat) : Int))), (0, .ref (q 0)), (1, .int (iI kd)), (2, .int (iI ((n : Nat) : Int)))] dX2_seat_63 hl rfl (by decide) rfl (fun ls hl => ?_)
        refine lv_goto (tgt := 46) hx hb dX2_seat_66 (by decide) ?_
        exact ih (t + 1) (va_up Tt (cx n (4 + t)) 0) _ _ _ (by omega) hr hP hD hS (lv_sub hl [1, 2, 3, 0] rfl)
  exact L46 6 0 (va_up (va_up (va_up (va_up (va_up T 0 ((T 0) + 1)) (cx n 0) kd) (cx n 1) (-1)) (cx n 2) 50) (cx n 3) 0) _ _ _ (by omega) rfl hP hD hS (lv_sub hl [2, 3, 1, 0] rfl)
theorem ykSX2_mouthful : yX2_mouthful.cls ≠ "java/lang/invoke/MethodHandle" ∧ yX2_mouthful.cls ≠ "java/lang/invoke/VarHandle" ∧ (parseMethodDescriptor yX2_mouthful.desc).map (fun d => d.parameters.length) = some 2 := by decide +kernel
theorem ykVX2_mouthful : yX2_mouthful.cls = RX2 ∧ yX2_mouthful.cls ≠ "java/lang/invoke/MethodHandle" ∧ yX2_mouthful.cls ≠ "java/lang/invoke/VarHandle" ∧ (parseMethodDescriptor yX2_mouthful.desc).map (fun d => d.parameters.length) = some 2 := ⟨rfl, ykSX2_mouthful⟩
set_option maxRecDepth 20000 in
theorem iT_X2_mouthful_X2 : ∀ w ∈ u_ws RX2 TX2 12, w ∈ wsX2_mouthful := by decide +kernel
set_option maxHeartbeats 4000000 in
set_option maxRecDepth 100000 in
theorem kX2_mouthful {l : Launch} {D : va_G} {cI cB : ClassId} (q : Nat → Nat) (T : Tb) (b : Int) (c0 : Int) (w : Int) (hc : -1 ≤ c0 ∧ c0 ≤ 13) (hw : 0 ≤ w ∧ w ≤ 999) (hb0 : 0 ≤ b ∧ b ≤ 100) : Ct l yX2_mouthful wsX2_mouthful 1 21 D [(cI, .int), (cB, .byte)] [.ref (q 0), .int (iI c0), .int (iI w)] (wTab cI q T b) (S := Int) (fun u => some (.int (iI (swN c0 b w)))) (fun u => u = b - swN c0 b w * c0) (fun u => wTab cI q T u) := by
  refine CtI.of (cc := cX2_mouthful) (maxL := 4) (by decide +kernel) rfl (Nat.le_of_ble_eq_true rfl) ?_
  intro pg e s m args below meth c Q A hx hb hml hts hown hP hK hD hS ls hl kend
  have hown : s.vm.findClass RX2 = some m.cls := hown
  have hl : lv_has ls 4 [(0, .ref (q 0)), (1, .int (iI c0)), (2, .int (iI w))] := hl
  refine lv_iload_n hx hb dX2_mouthful_0 rfl (lv_at hl 1 rfl) ?_
  refine x_if_ge (tgt := 6) hx hb (by omega) dX2_mouthful_1 (by decide) (fun c_1 => ?_) (fun c_1 => ?_)
  · refine lv_iload_n hx hb dX2_mouthful_6 rfl (lv_at hl 1 rfl) ?_
    refine x_if_ne (tgt := 12) hx hb (by omega) dX2_mouthful_7 (by decide) (fun c_7 => ?_) (fun c_7 => ?_)
    · refine lv_iload_n hx hb dX2_mouthful_12 rfl (lv_at hl 2 rfl) ?_
      refine lv_aload_n hx hb dX2_mouthful_13 rfl (lv_at hl 0 rfl) ?_
      refine va_get (D := D) (ci := 1) (v := .int (iI b)) (C := RX2) (T := TX2) (N := 12) hx hb hts (iT_X2_mouthful_X2) hown hK hP 0 rfl rfl 4 (by decide) (hts (.fieldLink RX2 101 "WordSupper$Table" "bitesLeft" "I") (by decide +kernel)) (fun _ h9 => h9) rfl dX2_mouthful_14 ?_
      refine lv_iload_n hx hb dX2_mouthful_17 rfl (lv_at hl 1 rfl) ?_
      refine x_idiv hx hb (by omega) (by omega) (by omega) (by omega) dX2_mouthful_18 ?_
      have hq := Int.ediv_nonneg hb0.1 (show 0 ≤ c0 by omega)
      have hq2 := Int.ediv_le_self c0 hb0.1
      refine x_mmin hx hb (hml.trans hl.1.symm) hown (hts (.methodLink RX2 88 Lib.Math.min.name) (by decide +kernel)) (hts (.static Lib.Math.min.name) (by decide +kernel)) (hts (.initialized "java/lang/Math") (by decide +kernel)) (hts (.code Lib.Math.min.name Lib.Math.min.code 2 (some .int)) (by decide +kernel)) (Nat.le_of_ble_eq_true rfl) (Nat.le_of_ble_eq_true rfl) (Nat.le_of_ble_eq_true rfl) (Nat.le_of_ble_eq_true rfl) (by omega) (by omega) dX2_mouthful_19 ?_
      refine lv_istore_n (lv' := [(3, .int (iI (min w (b / c0)))), (0, .ref (q 0)), (1, .int (iI c0)), (2, .int (iI w))]) hx hb dX2_mouthful_22 rfl hl (by decide) rfl (fun ls hl => ?_)
      refine lv_aload_n hx hb dX2_mouthful_23 rfl (lv_at hl 1 rfl) ?_
      refine lv_dup hx hb dX2_mouthful_24 rfl ?_
      refine va_get (D := D) (ci := 1) (v := .int (iI b)) (C := RX2) (T := TX2) (N := 12) hx hb hts (iT_X2_mouthful_X2) hown hK hP 0 rfl rfl 4 (by decide) (hts (.fieldLink RX2 101 "WordSupper$Table" "bitesLeft" "I") (by decide +kernel)) (fun _ h9 => h9) rfl dX2_mouthful_25 ?_
      refine lv_iload_n hx hb dX2_mouthful_28 rfl (lv_at hl 0 rfl) ?_
      refine lv_iload_n hx hb dX2_mouthful_29 rfl (lv_at hl 2 rfl) ?_
      refine x_imul hx hb dX2_mouthful_30 ?_
      refine x_isub hx hb dX2_mouthful_31 ?_
      refine x_putI (D := D) (ty := .int) (C := RX2) (T := TX2) (N := 12) hx hb 1 hts (iT_X2_mouthful_X2) tyX2 tyX2_ok nmX2 hown hK hP hD hS 0 rfl rfl 4 (by decide) (hts (.fieldLink RX2 101 "WordSupper$Table" "bitesLeft" "I") (by decide +kernel)) (fun _ h9 => h9) rfl (by decide +kernel) rfl rfl (Nat.le_of_ble_eq_true rfl) (wTab cI q T (b - ((min w (b / c0)) * c0))) (wT_b cI q T b (b - ((min w (b / c0)) * c0))) dX2_mouthful_32 (fun H locs hP hD hS => ?_)
      refine lv_iload_n hx hb dX2_mouthful_35 rfl (lv_at hl 0 rfl) ?_
      exact kend (b - ((min w (b / c0)) * c0)) hP hS (an_i (swN_pos (by omega)).symm) (by rw [swN_pos (by omega)]) dX2_mouthful_36
    · refine lv_iload_n hx hb dX2_mouthful_10 rfl (lv_at hl 2 rfl) ?_
      exact kend b hP hS (an_i (swN_zero (by omega)).symm) (by rw [show c0 = 0 by omega, Int.mul_zero, Int.sub_zero]) dX2_mouthful_11
  · refine x_iconst hx hb dX2_mouthful_4 ?_
    exact kend b hP hS (an_i (swN_neg (by omega)).symm) (by rw [swN_neg (by omega), Int.zero_mul, Int.sub_zero]) dX2_mouthful_5
theorem ykSX2_swallow : yX2_swallow.cls ≠ "java/lang/invoke/MethodHandle" ∧ yX2_swallow.cls ≠ "java/lang/invoke/VarHandle" ∧ (parseMethodDescriptor yX2_swallow.desc).map (fun d => d.parameters.length) = some 2 := by decide +kernel
theorem ykVX2_swallow : yX2_swallow.cls = RX2 ∧ yX2_swallow.cls ≠ "java/lang/invoke/MethodHandle" ∧ yX2_swallow.cls ≠ "java/lang/invoke/VarHandle" ∧ (parseMethodDescriptor yX2_swallow.desc).map (fun d => d.parameters.length) = some 2 := ⟨rfl, ykSX2_swallow⟩
set_option maxRecDepth 20000 in
theorem iT_X2_swallow_X2 : ∀ w ∈ u_ws RX2 TX2 12, w ∈ wsX2_swallow := by decide +kernel
set_option maxHeartbeats 4000000 in
set_option maxRecDepth 100000 in
theorem kX2_swallow {l : Launch} {D : va_G} {cI cB : ClassId} (q : Nat → Nat) (T : Tb) (b : Int) (e0 : Nat) (h : Nat) (B : Int) (hI : Inv B T) (he : (e0 : Int) < T 0) (hh : (h : Int) < T 0) (hb0 : 0 ≤ b ∧ b ≤ 100) : Ct l yX2_swallow wsX2_swallow 2 44 D [(cI, .int), (cB, .byte)] [.ref (q 0), .int (iI ((e0 : Nat) : Int)), .int (iI ((h : Nat) : Int))] (wTab cI q T b) (S := Tb × Int × Int) (fun u => some (.int (iI u.2.2))) (fun u => (u.1, u.2.1, u.2.2) = swF (T (cx e0 0)) h (T, b, 0)) (fun u => wTab cI q u.1 u.2.1) := by
  refine CtI.of (cc := cX2_swallow) (maxL := 7) (by decide +kernel) rfl (Nat.le_of_ble_eq_true rfl) ?_
  intro pg e s m args below meth c Q A hx hb hml hts hown hP hK hD hS ls hl kend
  have hown : s.vm.findClass RX2 = some m.cls := hown
  have hl : lv_has ls 7 [(0, .ref (q 0)), (1, .int (iI ((e0 : Nat) : Int))), (2, .int (iI ((h : Nat) : Int)))] := hl
  have hn := Inv_n hI
  have hk0 := Inv_k hI he
  refine x_iconst hx hb dX2_swallow_0 ?_
  refine lv_istore_n (lv' := [(3, .int (iI 0)), (0, .ref (q 0)), (1, .int (iI ((e0 : Nat) : Int))), (2, .int (iI ((h : Nat) : Int)))]) hx hb dX2_swallow_1 rfl hl (by decide) rfl (fun ls hl => ?_)
  refine x_iconst hx hb dX2_swallow_2 ?_
  refine lv_istore (lv' := [(4, .int (iI 0)), (3, .int (iI 0)), (0, .ref (q 0)), (1, .int (iI ((e0 : Nat) : Int))), (2, .int (iI ((h : Nat) : Int)))]) hx hb dX2_swallow_3 hl (by decide) rfl (fun ls hl => ?_)
  have L5 : ∀ (k t : Nat) (Tt : Tb) (bt : Int) (sv : Int) (H : Heap) (locs : List Loc) (ls : Array Slot), t + k = 6 → (run (swS (T (cx e0 0)) h) k t (Tt, bt, sv) = swF (T (cx e0 0)) h (T, b, 0)) → (swI B T h t (Tt, bt, sv)) → va_P D vwCl (wTab cI q Tt bt) H → va_D A (wTab cI q Tt bt) → va_S A s.heap H locs → lv_has ls 7 [(0, .ref (q 0)), (1, .int (iI ((e0 : Nat) : Int))), (2, .int (iI ((h : Nat) : Int))), (3, .int (iI sv)), (4, .int (iI ((t : Nat) : Int)))] → W pg l e { frames := 2, cells := 0, slots := 0, locals := 44 } s m args below meth c H locs 0 0 Q (F0 m 5 ls []) := by
    intro k
    induction k with
    | zero =>
      intro t Tt bt sv H locs ls hkt hr hi hP hD hS hl
      refine lv_iload hx hb dX2_swallow_5 (lv_at hl 4 rfl) ?_
      refine x_bipush hx hb dX2_swallow_7 (by decide) ?_
      refine x_icmp_ge (tgt := 80) hx hb (by omega) (by decide) dX2_swallow_9 (by decide) (fun c_9 => ?_) (fun c_9 => ?_)
      · refine lv_iload_n hx hb dX2_swallow_80 rfl (lv_at hl 3 rfl) ?_
        exact kend (Tt, bt, sv) hP hS rfl hr dX2_swallow_81
      · exfalso; omega
    | succ k ih =>
      intro t Tt bt sv H locs ls hkt hr hi hP hD hS hl
      refine lv_iload hx hb dX2_swallow_5 (lv_at hl 4 rfl) ?_
      refine x_bipush hx hb dX2_swallow_7 (by decide) ?_
      refine x_icmp_ge (tgt := 80) hx hb (by omega) (by decide) dX2_swallow_9 (by decide) (fun c_9 => ?_) (fun c_9 => ?_)
      · exfalso; omega
      · obtain ⟨g1, g2, g3, g4, g5⟩ := id hi
        dsimp only at g1 g2 g3 g4 g5
        have g6 := g2 0 (by omega)
        have g7 := Inv_pl (p := h) g1 (by omega) (show t < 6 by omega)
        have g8 := Inv_v g1
        refine lv_aload_n hx hb dX2_swallow_12 rfl (lv_at hl 0 rfl) ?_
        refine va_get (D := D) (ci := 1) (v := .ref (q 6)) (C := RX2) (T := TX2) (N := 12) hx hb hts (iT_X2_swallow_X2) hown hK hP 0 rfl rfl 10 (by decide) (hts (.fieldLink RX2 34 "WordSupper$Table" "plates" "[I") (by decide +kernel)) (fun _ h9 => h9) rfl dX2_swallow_13 ?_
        refine lv_iload_n hx hb dX2_swallow_16 rfl (lv_at hl 2 rfl) ?_
        refine lv_iload hx hb dX2_swallow_17 (lv_at hl 4 rfl) ?_
        refine x_callS (As := [.int (iI ((h : Nat) : Int)), .int (iI ((t : Nat) : Int))]) (rest := [.ref (q 6)]) ⟨hx, hb, hml, hown, hts⟩ (kX2_at h t (by omega) (by omega)) (va_cwS 2 hts gX2_swallow_X2_at rfl rfl rfl ykSX2_at ⟨Nat.le_of_ble_eq_true rfl, Nat.le_of_ble_eq_true rfl⟩) hP hK hD hS [] rfl (by decide) (fun _ => rfl) (fun _ => wTab cI q Tt bt) (fun _ => rfl) rfl hl.1 rfl (Nat.le_of_ble_eq_true rfl) dX2_swallow_19 ⟨Nat.le_of_ble_eq_true rfl, Nat.le_of_ble_eq_true rfl⟩ (fun _ H locs _ hP hD hS => ?_)
        refine W.eq (g2 := F0 m 22 ls [.int (iI ((6 * h + t : Nat) : Int)), .ref (q 6)]) rfl ?_
        refine x_iald hx hb hK hP 6 0 rfl rfl (6 * h + t) rfl (by omega) (by decide) (Tt (cx h (4 + t))) (plG_gd _ (by omega) (by omega)) dX2_swallow_22 ?_
        refine lv_istore (lv' := [(5, .int (iI (Tt (cx h (4 + t))))), (0, .ref (q 0)), (1, .int (iI ((e0 : Nat) : Int))), (2, .int (iI ((h : Nat) : Int))), (3, .int (iI sv)), (4, .int (iI ((t : Nat) : Int)))]) hx hb dX2_swallow_23 hl (by decide) rfl (fun ls hl => ?_)
        refine lv_iload hx hb dX2_swallow_25 (lv_at hl 0 rfl) ?_
        refine x_if_le (tgt := 74) hx hb (by omega) dX2_swallow_27 (by decide) (fun c_27 => ?_) (fun c_27 => ?_)
        · refine x_iinc hx hb 5 ((t + 1 : Nat) : Int) (by omega) [(4, .int (iI ((t + 1 : Nat) : Int))), (5, .int (iI (Tt (cx h (4 + t))))), (0, .ref (q 0)), (1, .int (iI ((e0 : Nat) : Int))), (2, .int (iI ((h : Nat) : Int))), (3, .int (iI sv))] dX2_swallow_74 hl rfl (by decide) rfl (fun ls hl => ?_)
          refine lv_goto (tgt := 5) hx hb dX2_swallow_77 (by decide) ?_
          exact ih (t + 1) Tt bt sv _ _ _ (by omega) (run_step hr (swS_0 g4.1 (show Tt (cx h (4 + t)) = 0 by omega))) (swS_0 (k := T (cx e0 0)) (t := t) (z := (Tt, bt, sv)) g4.1 (show Tt (cx h (4 + t)) = 0 by omega) ▸ swS_I (k := T (cx e0 0)) (show t < 6 by omega) hh hi) hP hD hS (lv_sub hl [2, 3, 4, 5, 0] rfl)
        · refine lv_aload_n hx hb dX2_swallow_30 rfl (lv_at hl 1 rfl) ?_
          refine lv_aload_n hx hb dX2_swallow_31 rfl (lv_at hl 1 rfl) ?_
          refine va_get (D := D) (ci := 1) (v := .ref (q 2)) (C := RX2) (T := TX2) (N := 12) hx hb hts (iT_X2_swallow_X2) hown hK hP 0 rfl rfl 6 (by decide) (hts (.fieldLink RX2 22 "WordSupper$Table" "kind" "[I") (by decide +kernel)) (fun _ h9 => h9) rfl dX2_swallow_32 ?_
          refine lv_iload_n hx hb dX2_swallow_35 rfl (lv_at hl 2 rfl) ?_
          refine x_iald hx hb hK hP 2 0 rfl rfl e0 rfl (by omega) (by decide) (Tt (cx e0 0)) (gd_at _ (by omega)) dX2_swallow_36 ?_
          refine x_topi (T (cx e0 0)) (g3 e0 0 (by omega)) ?_
          refine lv_iload hx hb dX2_swallow_37 (lv_at hl 5 rfl) ?_
          refine lv_aload_n hx hb dX2_swallow_39 rfl (lv_at hl 1 rfl) ?_
          refine va_get (D := D) (ci := 1) (v := .int (iI (Tt 3))) (C := RX2) (T := TX2) (N := 12) hx hb hts (iT_X2_swallow_X2) hown hK hP 0 rfl rfl 1 (by decide) (hts (.fieldLink RX2 9 "WordSupper$Table" "vinegar" "I") (by decide +kernel)) (fun _ h9 => h9) rfl dX2_swallow_40 ?_
          refine x_callS (As := [.int (iI (T (cx e0 0))), .int (iI ((t : Nat) : Int)), .int (iI (Tt 3))]) (rest := [.ref (q 0)]) ⟨hx, hb, hml, hown, hts⟩ (kX0_bites (T (cx e0 0)) t (Tt 3) (by omega) (by omega) (by omega)) (va_cwS 3 hts gX2_swallow_X0_bites rfl rfl rfl ykSX0_bites ⟨Nat.le_of_ble_eq_true rfl, Nat.le_of_ble_eq_true rfl⟩) hP hK hD hS [] rfl (by decide) (fun _ => rfl) (fun _ => wTab cI q Tt bt) (fun _ => rfl) rfl hl.1 rfl (Nat.le_of_ble_eq_true rfl) dX2_swallow_43 ⟨Nat.le_of_ble_eq_true rfl, Nat.le_of_ble_eq_true rfl⟩ (fun _ H locs _ hP hD hS => ?_)
          refine W.eq (g2 := F0 m 46 ls [.int (iI (chF (T (cx e0 0)) ((t : Nat) : Int) (Tt 3))), .ref (q 0)]) rfl ?_
          have g9 := chF_b (t := (t : Int)) hk0 g8
          refine lv_iload hx hb dX2_swallow_46 (lv_at hl 0 rfl) ?_
          refine x_callV (As := [.int (iI (chF (T (cx e0 0)) ((t : Nat) : Int) (Tt 3))), .int (iI (Tt (cx h (4 + t))))]) (rest := []) ⟨hx, hb, hml, hown, hts⟩ (kX2_mouthful q Tt bt (chF (T (cx e0 0)) ((t : Nat) : Int) (Tt 3)) (Tt (cx h (4 + t))) (by omega) (by omega) (by omega)) (cwV 2 hts gX2_swallow_X2_mouthful rfl rfl rfl ykVX2_mouthful ⟨Nat.le_of_ble_eq_true rfl, Nat.le_of_ble_eq_true rfl⟩) hP hK hD hS 0 1 rfl rfl rfl [0, 1, 2, 3, 4, 5, 6, 7] rfl (by decide) (fun _ => rfl) (fun u => wTab cI q Tt u) (fun _ => rfl) rfl hl.1 rfl (Nat.le_of_ble_eq_true rfl) dX2_swallow_48 ⟨Nat.le_of_ble_eq_true rfl, Nat.le_of_ble_eq_true rfl⟩ (fun u2 H locs hp3 hP hD hS => ?_)
          obtain ⟨b11, rfl⟩ : ∃ z, z = u2 := ⟨_, rfl⟩
          replace hp3 : b11 = bt - swN (chF (T (cx e0 0)) ((t : Nat) : Int) (Tt 3)) bt (Tt (cx h (4 + t))) * (chF (T (cx e0 0)) ((t : Nat) : Int) (Tt 3)) := hp3
          have hP : va_P D vwCl (wTab cI q Tt b11) H := hP
          have hD : va_D A (wTab cI q Tt b11) := hD
          refine W.eq (g2 := F0 m 51 ls [.int (iI (swN (chF (T (cx e0 0)) ((t : Nat) : Int) (Tt 3)) bt (Tt (cx h (4 + t)))))]) rfl ?_
          refine lv_istore (lv' := [(6, .int (iI (swN (chF (T (cx e0 0)) ((t : Nat) : Int) (Tt 3)) bt (Tt (cx h (4 + t)))))), (5, .int (iI (Tt (cx h (4 + t))))), (0, .ref (q 0)), (1, .int (iI ((e0 : Nat) : Int))), (2, .int (iI ((h : Nat) : Int))), (3, .int (iI sv)), (4, .int (iI ((t : Nat) : Int)))]) hx hb dX2_swallow_51 hl (by decide) rfl (fun ls hl => ?_)
          refine lv_aload_n hx hb dX2_swallow_53 rfl (lv_at hl 2 rfl) ?_
          refine va_get (D := D) (ci := 1) (v := .ref (q 6)) (C := RX2) (T := TX2) (N := 12) hx hb hts (iT_X2_swallow_X2) hown hK hP 0 rfl rfl 10 (by decide) (hts (.fieldLink RX2 34 "WordSupper$Table" "plates" "[I") (by decide +kernel)) (fun _ h9 => h9) rfl dX2_swallow_54 ?_
          refine lv_iload_n hx hb dX2_swallow_57 rfl (lv_at hl 4 rfl) ?_
          refine lv_iload hx hb dX2_swallow_58 (lv_at hl 6 rfl) ?_
          refine x_callS (As := [.int (iI ((h : Nat) : Int)), .int (iI ((t : Nat) : Int))]) (rest := [.ref (q 6)]) ⟨hx, hb, hml, hown, hts⟩ (kX2_at h t (by omega) (by omega)) (va_cwS 2 hts gX2_swallow_X2_at rfl rfl rfl ykSX2_at ⟨Nat.le_of_ble_eq_true rfl, Nat.le_of_ble_eq_true rfl⟩) hP hK hD hS [] rfl (by decide) (fun _ => rfl) (fun _ => wTab cI q Tt b11) (fun _ => rfl) rfl hl.1 rfl (Nat.le_of_ble_eq_true rfl) dX2_swallow_60 ⟨Nat.le_of_ble_eq_true rfl, Nat.le_of_ble_eq_true rfl⟩ (fun _ H locs _ hP hD hS => ?_)
          refine W.eq (g2 := F0 m 63 ls [.int (iI ((6 * h + t : Nat) : Int)), .ref (q 6)]) rfl ?_
          refine lv_iload hx hb dX2_swallow_63 (lv_at hl 1 rfl) ?_
          refine lv_iload hx hb dX2_swallow_65 (lv_at hl 0 rfl) ?_
          refine x_isub hx hb dX2_swallow_67 ?_
          refine x_iast hx hb hK hP hD hS 6 0 rfl rfl (6 * h + t) rfl (by omega) (by decide) (wTab cI q (va_up Tt (cx h (4 + t)) ((Tt (cx h (4 + t))) - (swN (chF (T (cx e0 0)) ((t : Nat) : Int) (Tt 3)) bt (Tt (cx h (4 + t)))))) b11) (wT_plates cI q Tt b11 ((Tt (cx h (4 + t))) - (swN (chF (T (cx e0 0)) ((t : Nat) : Int) (Tt 3)) bt (Tt (cx h (4 + t))))) h t (by omega) (by omega)) dX2_swallow_68 (fun H locs hP hD hS => ?_)
          refine lv_iload_n hx hb dX2_swallow_69 rfl (lv_at hl 5 rfl) ?_
          refine lv_iload hx hb dX2_swallow_70 (lv_at hl 0 rfl) ?_
          refine x_iadd hx hb dX2_swallow_72 ?_
          refine lv_istore_n (lv' := [(3, .int (iI (sv + (swN (chF (T (cx e0 0)) ((t : Nat) : Int) (Tt 3)) bt (Tt (cx h (4 + t))))))), (6, .int (iI (swN (chF (T (cx e0 0)) ((t : Nat) : Int) (Tt 3)) bt (Tt (cx h (4 + t)))))), (5, .int (iI (Tt (cx h (4 + t))))), (0, .ref (q 0)), (1, .int (iI ((e0 : Nat) : Int))), (2, .int (iI ((h : Nat) : Int))), (4, .int (iI ((t : Nat) : Int)))]) hx hb dX2_swallow_73 rfl hl (by decide) rfl (fun ls hl => ?_)
          refine x_iinc hx hb 6 ((t + 1 : Nat) : Int) (by omega) [(4, .int (iI ((t + 1 : Nat) : Int))), (3, .int (iI (sv + (swN (chF (T (cx e0 0)) ((t : Nat) : Int) (Tt 3)) bt (Tt (cx h (4 + t))))))), (6, .int (iI (swN (chF (T (cx e0 0)) ((t : Nat) : Int) (Tt 3)) bt (Tt (cx h (4 + t)))))), (5, .int (iI (Tt (cx h (4 + t))))), (0, .ref (q 0)), (1, .int (iI ((e0 : Nat) : Int))), (2, .int (iI ((h : Nat) : Int)))] dX2_swallow_74 hl rfl (by decide) rfl (fun ls hl => ?_)
          refine lv_goto (tgt := 5) hx hb dX2_swallow_77 (by decide) ?_
          exact ih (t + 1) (va_up Tt (cx h (4 + t)) ((Tt (cx h (4 + t))) - (swN (chF (T (cx e0 0)) ((t : Nat) : Int) (Tt 3)) bt (Tt (cx h (4 + t)))))) b11 (sv + (swN (chF (T (cx e0 0)) ((t : Nat) : Int) (Tt 3)) bt (Tt (cx h (4 + t))))) _ _ _ (by omega) (run_step hr (by unfold swS; dsimp only; rw [hp3])) (by have hz := swS_I (k := T (cx e0 0)) (show t < 6 by omega) hh hi; unfold swS at hz; dsimp only at hz; rw [hp3]; exact hz) hP hD hS (lv_sub hl [4, 5, 6, 1, 0] rfl)
  exact L5 6 0 T b 0 _ _ _ (by omega) rfl ⟨hI, fun _ _ => rfl, fun _ _ _ => rfl, hb0, Int.le_refl 0, Int.le_refl 0⟩ hP hD hS (lv_sub hl [2, 3, 4, 1, 0] rfl)
theorem ykSX2_sayAll : yX2_sayAll.cls ≠ "java/lang/invoke/MethodHandle" ∧ yX2_sayAll.cls ≠ "java/lang/invoke/VarHandle" ∧ (parseMethodDescriptor yX2_sayAll.desc).map (fun d => d.parameters.length) = some 1 := by decide +kernel
theorem ykVX2_sayAll : yX2_sayAll.cls = RX2 ∧ yX2_sayAll.cls ≠ "java/lang/invoke/MethodHandle" ∧ yX2_sayAll.cls ≠ "java/lang/invoke/VarHandle" ∧ (parseMethodDescriptor yX2_sayAll.desc).map (fun d => d.parameters.length) = some 1 := ⟨rfl, ykSX2_sayAll⟩
set_option maxRecDepth 20000 in
theorem iT_X2_sayAll_X2 : ∀ w ∈ u_ws RX2 TX2 12, w ∈ wsX2_sayAll := by decide +kernel
set_option maxHeartbeats 4000000 in
set_option maxRecDepth 100000 in
theorem kX2_sayAll {l : Launch} {D : va_G} {cI cB : ClassId} (q : Nat → Nat) (T : Tb) (b : Int) (p : Nat) (B : Int) (hI : Inv B T) (hp : (p : Int) < T 0) (hB : B ≤ 99999) : Ct l yX2_sayAll wsX2_sayAll 2 45 D [(cI, .int), (cB, .byte)] [.ref (q 0), .int (iI ((p : Nat) : Int))] (wTab cI q T b) (S := Tb) (fun u => none) (fun u => u = syF (decide (T 1 % 8 = ((p : Nat) : Int))) p T) (fun u => wTab cI q u b) := by
  refine CtV.of (cc := cX2_sayAll) (maxL := 5) (by decide +kernel) rfl (Nat.le_of_ble_eq_true rfl) ?_
  intro pg e s m args below meth c Q A hx hb hml hts hown hP hK hD hS ls hl kend
  have hown : s.vm.findClass RX2 = some m.cls := hown
  have hl : lv_has ls 5 [(0, .ref (q 0)), (1, .int (iI ((p : Nat) : Int)))] := hl
  have hn := Inv_n hI
  have hd := Inv_d hI
  have L19 : ∀ (k t : Nat) (Tt : Tb) (H : Heap) (locs : List Loc) (ls : Array Slot), t + k = 6 → (run (syS (decide (T 1 % 8 = ((p : Nat) : Int))) p) k t Tt = syF (decide (T 1 % 8 = ((p : Nat) : Int))) p T) → (Inv B Tt) → (Tt 0 = T 0) → (Tt 1 = T 1) → va_P D vwCl (wTab cI q Tt b) H → va_D A (wTab cI q Tt b) → va_S A s.heap H locs → lv_has ls 5 [(0, .ref (q 0)), (1, .int (iI ((p : Nat) : Int))), (2, .int (iI (b2 (decide (T 1 % 8 = ((p : Nat) : Int)))))), (3, .int (iI ((t : Nat) : Int)))] → W pg l e { frames := 2, cells := 0, slots := 0, locals := 45 } s m args below meth c H locs 0 0 Q (F0 m 19 ls []) := by
    intro k
    induction k with
    | zero =>
      intro t Tt H locs ls hkt hr hi h0 h1 hP hD hS hl
      refine lv_iload_n hx hb dX2_sayAll_19 rfl (lv_at hl 3 rfl) ?_
      refine x_bipush hx hb dX2_sayAll_20 (by decide) ?_
      refine x_icmp_ge (tgt := 75) hx hb (by omega) (by decide) dX2_sayAll_22 (by decide) (fun c_22 => ?_) (fun c_22 => ?_)
      · exact kend Tt hP hS rfl hr dX2_sayAll_75
      · exfalso; omega
    | succ k ih =>
      intro t Tt H locs ls hkt hr hi h0 h1 hP hD hS hl
      refine lv_iload_n hx hb dX2_sayAll_19 rfl (lv_at hl 3 rfl) ?_
      refine x_bipush hx hb dX2_sayAll_20 (by decide) ?_
      refine x_icmp_ge (tgt := 75) hx hb (by omega) (by decide) dX2_sayAll_22 (by decide) (fun c_22 => ?_) (fun c_22 => ?_)
      · exfalso; omega
      · have hp2 : (p : Int) < Tt 0 := by omega
        have g1 := Inv_k hi hp2
        have g2 := Inv_pl hi hp2 (show t < 6 by omega)
        have g3 := Inv_l hi (show t < 6 by omega)
        have g4 := tkF_b (Tt (cx p 0)) t (Tt 1)
        refine lv_aload_n hx hb dX2_sayAll_25 rfl (lv_at hl 0 rfl) ?_
        refine va_get (D := D) (ci := 1) (v := .ref (q 2)) (C := RX2) (T := TX2) (N := 12) hx hb hts (iT_X2_sayAll_X2) hown hK hP 0 rfl rfl 6 (by decide) (hts (.fieldLink RX2 22 "WordSupper$Table" "kind" "[I") (by decide +kernel)) (fun _ h9 => h9) rfl dX2_sayAll_26 ?_
        refine lv_iload_n hx hb dX2_sayAll_29 rfl (lv_at hl 1 rfl) ?_
        refine x_iald hx hb hK hP 2 0 rfl rfl p rfl (by omega) (by decide) (Tt (cx p 0)) (gd_at _ (by omega)) dX2_sayAll_30 ?_
        refine lv_iload_n hx hb dX2_sayAll_31 rfl (lv_at hl 3 rfl) ?_
        refine lv_aload_n hx hb dX2_sayAll_32 rfl (lv_at hl 0 rfl) ?_
        refine va_get (D := D) (ci := 1) (v := .int (iI (Tt 1))) (C := RX2) (T := TX2) (N := 12) hx hb hts (iT_X2_sayAll_X2) hown hK hP 0 rfl rfl 0 (by decide) (hts (.fieldLink RX2 40 "WordSupper$Table" "day" "I") (by decide +kernel)) (fun _ h9 => h9) rfl dX2_sayAll_33 ?_
        refine x_callS (As := [.int (iI (Tt (cx p 0))), .int (iI ((t : Nat) : Int)), .int (iI (Tt 1))]) (rest := []) ⟨hx, hb, hml, hown, hts⟩ (kX0_words (Tt (cx p 0)) t (Tt 1) (by omega) (by omega) (by omega)) (va_cwS 3 hts gX2_sayAll_X0_words rfl rfl rfl ykSX0_words ⟨Nat.le_of_ble_eq_true rfl, Nat.le_of_ble_eq_true rfl⟩) hP hK hD hS [] rfl (by decide) (fun _ => rfl) (fun _ => wTab cI q Tt b) (fun _ => rfl) rfl hl.1 rfl (Nat.le_of_ble_eq_true rfl) dX2_sayAll_36 ⟨Nat.le_of_ble_eq_true rfl, Nat.le_of_ble_eq_true rfl⟩ (fun _ H locs _ hP hD hS => ?_)
        refine W.eq (g2 := F0 m 39 ls [.int (iI (tkF (Tt (cx p 0)) ((t : Nat) : Int) (Tt 1)))]) rfl ?_
        refine lv_istore (lv' := [(4, .int (iI (tkF (Tt (cx p 0)) ((t : Nat) : Int) (Tt 1)))), (0, .ref (q 0)), (1, .int (iI ((p : Nat) : Int))), (2, .int (iI (b2 (decide (T 1 % 8 = ((p : Nat) : Int)))))), (3, .int (iI ((t : Nat) : Int)))]) hx hb dX2_sayAll_39 hl (by decide) rfl (fun ls hl => ?_)
        refine lv_iload_n hx hb dX2_sayAll_41 rfl (lv_at hl 3 rfl) ?_
        refine x_ifb_eq (tgt := 56) hx hb dX2_sayAll_42 (by decide) (fun c_42 => ?_) (fun c_42 => ?_)
        · refine lv_iload hx hb dX2_sayAll_56 (lv_at hl 0 rfl) ?_
          refine x_if_le (tgt := 69) hx hb (by omega) dX2_sayAll_58 (by decide) (fun c_58 => ?_) (fun c_58 => ?_)
          · refine x_iinc hx hb 4 ((t + 1 : Nat) : Int) (by omega) [(3, .int (iI ((t + 1 : Nat) : Int))), (4, .int (iI (tkF (Tt (cx p 0)) ((t : Nat) : Int) (Tt 1)))), (0, .ref (q 0)), (1, .int (iI ((p : Nat) : Int))), (2, .int (iI (b2 (decide (T 1 % 8 = ((p : Nat) : Int))))))] dX2_sayAll_69 hl rfl (by decide) rfl (fun ls hl => ?_)
            refine lv_goto (tgt := 19) hx hb dX2_sayAll_72 (by decide) ?_
            exact ih (t + 1) Tt _ _ _ (by omega) (run_step hr (syS_0 hi hp2 (show t < 6 by omega) (by rw [if_neg (by simpa using c_42)]; omega))) hi h0 h1 hP hD hS (lv_sub hl [2, 3, 4, 0] rfl)
          · refine lv_aload_n hx hb dX2_sayAll_61 rfl (lv_at hl 1 rfl) ?_
            refine lv_iload_n hx hb dX2_sayAll_62 rfl (lv_at hl 2 rfl) ?_
            refine lv_iload_n hx hb dX2_sayAll_63 rfl (lv_at hl 4 rfl) ?_
            refine lv_iload hx hb dX2_sayAll_64 (lv_at hl 0 rfl) ?_
            refine x_callV (As := [.int (iI ((p : Nat) : Int)), .int (iI ((t : Nat) : Int)), .int (iI (tkF (Tt (cx p 0)) ((t : Nat) : Int) (Tt 1)))]) (rest := []) ⟨hx, hb, hml, hown, hts⟩ (kX2_say q Tt b p t (tkF (Tt (cx p 0)) ((t : Nat) : Int) (Tt 1)) (by omega) (by omega) (by omega) (by omega)) (cwV 3 hts gX2_sayAll_X2_say rfl rfl rfl ykVX2_say ⟨Nat.le_of_ble_eq_true rfl, Nat.le_of_ble_eq_true rfl⟩) hP hK hD hS 0 1 rfl rfl rfl [0, 1, 2, 3, 4, 5, 6, 7] rfl (by decide) (fun _ => rfl) (fun _ => wTab cI q (va_up Tt (cx p (4 + t)) (min 999 (Tt (cx p (4 + t)) + (tkF (Tt (cx p 0)) ((t : Nat) : Int) (Tt 1))))) b) (fun _ => rfl) rfl hl.1 rfl (Nat.le_of_ble_eq_true rfl) dX2_sayAll_66 ⟨Nat.le_of_ble_eq_true rfl, Nat.le_of_ble_eq_true rfl⟩ (fun _ H locs _ hP hD hS => ?_)
            refine W.eq (g2 := F0 m 69 ls []) rfl ?_
            refine x_iinc hx hb 4 ((t + 1 : Nat) : Int) (by omega) [(3, .int (iI ((t + 1 : Nat) : Int))), (4, .int (iI (tkF (Tt (cx p 0)) ((t : Nat) : Int) (Tt 1)))), (0, .ref (q 0)), (1, .int (iI ((p : Nat) : Int))), (2, .int (iI (b2 (decide (T 1 % 8 = ((p : Nat) : Int))))))] dX2_sayAll_69 hl rfl (by decide) rfl (fun ls hl => ?_)
            refine lv_goto (tgt := 19) hx hb dX2_sayAll_72 (by decide) ?_
            exact ih (t + 1) (va_up Tt (cx p (4 + t)) (min 999 (Tt (cx p (4 + t)) + (tkF (Tt (cx p 0)) ((t : Nat) : Int) (Tt 1))))) _ _ _ (by omega) (run_step hr (by unfold syS; rw [if_neg (by simpa using c_42), Int.add_zero])) (Inv_cx hi (by omega) (by omega) (fun _ => pkd_pl (by omega))) (by rw [up_lo _ _ (by omega)]; exact h0) (by rw [up_lo _ _ (by omega)]; exact h1) hP hD hS (lv_sub hl [2, 3, 4, 0] rfl)
        · refine lv_iload hx hb dX2_sayAll_45 (lv_at hl 0 rfl) ?_
          refine lv_aload_n hx hb dX2_sayAll_47 rfl (lv_at hl 1 rfl) ?_
          refine va_get (D := D) (ci := 1) (v := .ref (q 1)) (C := RX2) (T := TX2) (N := 12) hx hb hts (iT_X2_sayAll_X2) hown hK hP 0 rfl rfl 5 (by decide) (hts (.fieldLink RX2 18 "WordSupper$Table" "listed" "[I") (by decide +kernel)) (fun _ h9 => h9) rfl dX2_sayAll_48 ?_
          refine lv_iload_n hx hb dX2_sayAll_51 rfl (lv_at hl 4 rfl) ?_
          refine x_iald hx hb hK hP 1 0 rfl rfl t rfl (by omega) (by decide) (Tt (4 + t)) (gd_at _ (by omega)) dX2_sayAll_52 ?_
          refine x_iadd hx hb dX2_sayAll_53 ?_
          refine lv_istore (lv' := [(4, .int (iI ((tkF (Tt (cx p 0)) ((t : Nat) : Int) (Tt 1)) + (Tt (4 + t))))), (0, .ref (q 0)), (1, .int (iI ((p : Nat) : Int))), (2, .int (iI (b2 (decide (T 1 % 8 = ((p : Nat) : Int)))))), (3, .int (iI ((t : Nat) : Int)))]) hx hb dX2_sayAll_54 hl (by decide) rfl (fun ls hl => ?_)
          refine lv_iload hx hb dX2_sayAll_56 (lv_at hl 0 rfl) ?_
          refine x_if_le (tgt := 69) hx hb (by omega) dX2_sayAll_58 (by decide) (fun c_58 => ?_) (fun c_58 => ?_)
          · refine x_iinc hx hb 4 ((t + 1 : Nat) : Int) (by omega) [(3, .int (iI ((t + 1 : Nat) : Int))), (4, .int (iI ((tkF (Tt (cx p 0)) ((t : Nat) : Int) (Tt 1)) + (Tt (4 + t))))), (0, .ref (q 0)), (1, .int (iI ((p : Nat) : Int))), (2, .int (iI (b2 (decide (T 1 % 8 = ((p : Nat) : Int))))))] dX2_sayAll_69 hl rfl (by decide) rfl (fun ls hl => ?_)
            refine lv_goto (tgt := 19) hx hb dX2_sayAll_72 (by decide) ?_
            exact ih (t + 1) Tt _ _ _ (by omega) (run_step hr (syS_0 hi hp2 (show t < 6 by omega) (by rw [if_pos (decide_eq_true c_42)]; omega))) hi h0 h1 hP hD hS (lv_sub hl [2, 3, 4, 0] rfl)
          · refine lv_aload_n hx hb dX2_sayAll_61 rfl (lv_at hl 1 rfl) ?_
            refine lv_iload_n hx hb dX2_sayAll_62 rfl (lv_at hl 2 rfl) ?_
            refine lv_iload_n hx hb dX2_sayAll_63 rfl (lv_at hl 4 rfl) ?_
            refine lv_iload hx hb dX2_sayAll_64 (lv_at hl 0 rfl) ?_
            refine x_callV (As := [.int (iI ((p : Nat) : Int)), .int (iI ((t : Nat) : Int)), .int (iI ((tkF (Tt (cx p 0)) ((t : Nat) : Int) (Tt 1)) + (Tt (4 + t))))]) (rest := []) ⟨hx, hb, hml, hown, hts⟩ (kX2_say q Tt b p t ((tkF (Tt (cx p 0)) ((t : Nat) : Int) (Tt 1)) + (Tt (4 + t))) (by omega) (by omega) (by omega) (by omega)) (cwV 3 hts gX2_sayAll_X2_say rfl rfl rfl ykVX2_say ⟨Nat.le_of_ble_eq_true rfl, Nat.le_of_ble_eq_true rfl⟩) hP hK hD hS 0 1 rfl rfl rfl [0, 1, 2, 3, 4, 5, 6, 7] rfl (by decide) (fun _ => rfl) (fun _ => wTab cI q (va_up Tt (cx p (4 + t)) (min 999 (Tt (cx p (4 + t)) + ((tkF (Tt (cx p 0)) ((t : Nat) : Int) (Tt 1)) + (Tt (4 + t)))))) b) (fun _ => rfl) rfl hl.1 rfl (Nat.le_of_ble_eq_true rfl) dX2_sayAll_66 ⟨Nat.le_of_ble_eq_true rfl, Nat.le_of_ble_eq_true rfl⟩ (fun _ H locs _ hP hD hS => ?_)
            refine W.eq (g2 := F0 m 69 ls []) rfl ?_
            refine x_iinc hx hb 4 ((t + 1 : Nat) : Int) (by omega) [(3, .int (iI ((t + 1 : Nat) : Int))), (4, .int (iI ((tkF (Tt (cx p 0)) ((t : Nat) : Int) (Tt 1)) + (Tt (4 + t))))), (0, .ref (q 0)), (1, .int (iI ((p : Nat) : Int))), (2, .int (iI (b2 (decide (T 1 % 8 = ((p : Nat) : Int))))))] dX2_sayAll_69 hl rfl (by decide) rfl (fun ls hl => ?_)
            refine lv_goto (tgt := 19) hx hb dX2_sayAll_72 (by decide) ?_
            exact ih (t + 1) (va_up Tt (cx p (4 + t)) (min 999 (Tt (cx p (4 + t)) + ((tkF (Tt (cx p 0)) ((t : Nat) : Int) (Tt 1)) + (Tt (4 + t)))))) _ _ _ (by omega) (run_step hr (by unfold syS; rw [if_pos (decide_eq_true c_42)])) (Inv_cx hi (by omega) (by omega) (fun _ => pkd_pl (by omega))) (by rw [up_lo _ _ (by omega)]; exact h0) (by rw [up_lo _ _ (by omega)]; exact h1) hP hD hS (lv_sub hl [2, 3, 4, 0] rfl)
  refine lv_aload_n hx hb dX2_sayAll_0 rfl (lv_at hl 0 rfl) ?_
  refine va_get (D := D) (ci := 1) (v := .int (iI (T 1))) (C := RX2) (T := TX2) (N := 12) hx hb hts (iT_X2_sayAll_X2) hown hK hP 0 rfl rfl 0 (by decide) (hts (.fieldLink RX2 40 "WordSupper$Table" "day" "I") (by decide +kernel)) (fun _ h9 => h9) rfl dX2_sayAll_1 ?_
  refine x_bipush hx hb dX2_sayAll_4 (by decide) ?_
  refine x_irem hx hb (by omega) (by omega) (by decide) (by decide) dX2_sayAll_6 ?_
  refine lv_iload_n hx hb dX2_sayAll_7 rfl (lv_at hl 1 rfl) ?_
  refine x_icmp_ne (tgt := 15) hx hb (by omega) (by omega) dX2_sayAll_8 (by decide) (fun c_8 => ?_) (fun c_8 => ?_)
  · refine x_iconst hx hb dX2_sayAll_15 ?_
    refine lv_istore_n (lv' := [(2, .int (iI 0)), (0, .ref (q 0)), (1, .int (iI ((p : Nat) : Int)))]) hx hb dX2_sayAll_16 rfl hl (by decide) rfl (fun ls hl => ?_)
    refine x_iconst hx hb dX2_sayAll_17 ?_
    refine lv_istore_n (lv' := [(3, .int (iI 0)), (2, .int (iI 0)), (0, .ref (q 0)), (1, .int (iI ((p : Nat) : Int)))]) hx hb dX2_sayAll_18 rfl hl (by decide) rfl (fun ls hl => ?_)
    exact L19 6 0 T _ _ _ (by omega) rfl hI rfl rfl hP hD hS (by rw [b2_f (by omega)]; exact (lv_sub hl [2, 3, 1, 0] rfl))
  · refine x_iconst hx hb dX2_sayAll_11 ?_
    refine lv_goto (tgt := 16) hx hb dX2_sayAll_12 (by decide) ?_
    refine lv_istore_n (lv' := [(2, .int (iI 1)), (0, .ref (q 0)), (1, .int (iI ((p : Nat) : Int)))]) hx hb dX2_sayAll_16 rfl hl (by decide) rfl (fun ls hl => ?_)
    refine x_iconst hx hb dX2_sayAll_17 ?_
    refine lv_istore_n (lv' := [(3, .int (iI 0)), (2, .int (iI 1)), (0, .ref (q 0)), (1, .int (iI ((p : Nat) : Int)))]) hx hb dX2_sayAll_18 rfl hl (by decide) rfl (fun ls hl => ?_)
    exact L19 6 0 T _ _ _ (by omega) rfl hI rfl rfl hP hD hS (by rw [b2_t (by omega)]; exact (lv_sub hl [2, 3, 1, 0] rfl))
theorem ykSX2_sup : yX2_sup.cls ≠ "java/lang/invoke/MethodHandle" ∧ yX2_sup.cls ≠ "java/lang/invoke/VarHandle" ∧ (parseMethodDescriptor yX2_sup.desc).map (fun d => d.parameters.length) = some 1 := by decide +kernel
theorem ykVX2_sup : yX2_sup.cls = RX2 ∧ yX2_sup.cls ≠ "java/lang/invoke/MethodHandle" ∧ yX2_sup.cls ≠ "java/lang/invoke/VarHandle" ∧ (parseMethodDescriptor yX2_sup.desc).map (fun d => d.parameters.length) = some 1 := ⟨rfl, ykSX2_sup⟩
set_option maxRecDepth 20000 in
theorem iT_X2_sup_X2 : ∀ w ∈ u_ws RX2 TX2 12, w ∈ wsX2_sup := by decide +kernel
set_option maxHeartbeats 4000000 in
set_option maxRecDepth 100000 in
theorem kX2_sup {l : Launch} {D : va_G} {cI cB : ClassId} (q : Nat → Nat) (T : Tb) (b : Int) (p : Nat) (B : Int) (hI : Inv B T) (hp : (p : Int) < T 0) : Ct l yX2_sup wsX2_sup 3 70 D [(cI, .int), (cB, .byte)] [.ref (q 0), .int (iI ((p : Nat) : Int))] (wTab cI q T b) (S := Tb × Int) (fun u => none) (fun u => u.1 = spF p T) (fun u => wTab cI q u.1 u.2) := by
  refine CtV.of (cc := cX2_sup) (maxL := 3) (by decide +kernel) rfl (Nat.le_of_ble_eq_true rfl) ?_
  intro pg e s m args below meth c Q A hx hb hml hts hown hP hK hD hS ls hl kend
  have hown : s.vm.findClass RX2 = some m.cls := hown
  have hl : lv_has ls 3 [(0, .ref (q 0)), (1, .int (iI ((p : Nat) : Int)))] := hl
  have hn := Inv_n hI
  have ga := Inv_ap hI hp
  refine lv_aload_n hx hb dX2_sup_0 rfl (lv_at hl 0 rfl) ?_
  refine lv_aload_n hx hb dX2_sup_1 rfl (lv_at hl 0 rfl) ?_
  refine lv_iload_n hx hb dX2_sup_2 rfl (lv_at hl 1 rfl) ?_
  refine x_callV (As := [.int (iI ((p : Nat) : Int))]) (rest := [.ref (q 0)]) ⟨hx, hb, hml, hown, hts⟩ (kX2_appetite q T b p B hI (by omega)) (cwV 1 hts gX2_sup_X2_appetite rfl rfl rfl ykVX2_appetite ⟨Nat.le_of_ble_eq_true rfl, Nat.le_of_ble_eq_true rfl⟩) hP hK hD hS 0 1 rfl rfl rfl [0, 1, 2, 3, 4, 5, 6, 7] rfl (by decide) (fun _ => rfl) (fun _ => wTab cI q T b) (fun _ => rfl) rfl hl.1 rfl (Nat.le_of_ble_eq_true rfl) dX2_sup_3 ⟨Nat.le_of_ble_eq_true rfl, Nat.le_of_ble_eq_true rfl⟩ (fun _ H locs _ hP hD hS => ?_)
  refine W.eq (g2 := F0 m 6 ls [.int (iI (apF T p)), .ref (q 0)]) rfl ?_
  refine x_putI (D := D) (ty := .int) (C := RX2) (T := TX2) (N := 12) hx hb 1 hts (iT_X2_sup_X2) tyX2 tyX2_ok nmX2 hown hK hP hD hS 0 rfl rfl 4 (by decide) (hts (.fieldLink RX2 101 "WordSupper$Table" "bitesLeft" "I") (by decide +kernel)) (fun _ h9 => h9) rfl (by decide +kernel) rfl rfl (Nat.le_of_ble_eq_true rfl) (wTab cI q T (apF T p)) (wT_b cI q T b (apF T p)) dX2_sup_6 (fun H locs hP hD hS => ?_)
  refine lv_aload_n hx hb dX2_sup_9 rfl (lv_at hl 0 rfl) ?_
  refine lv_iload_n hx hb dX2_sup_10 rfl (lv_at hl 1 rfl) ?_
  refine lv_iload_n hx hb dX2_sup_11 rfl (lv_at hl 1 rfl) ?_
  refine x_callV (As := [.int (iI ((p : Nat) : Int)), .int (iI ((p : Nat) : Int))]) (rest := []) ⟨hx, hb, hml, hown, hts⟩ (kX2_swallow q T (apF T p) p p B hI (by omega) (by omega) (by omega)) (cwV 2 hts gX2_sup_X2_swallow rfl rfl rfl ykVX2_swallow ⟨Nat.le_of_ble_eq_true rfl, Nat.le_of_ble_eq_true rfl⟩) hP hK hD hS 0 1 rfl rfl rfl [0, 1, 2, 3, 4, 5, 6, 7] rfl (by decide) (fun _ => rfl) (fun u => wTab cI q u.1 u.2.1) (fun _ => rfl) rfl hl.1 rfl (Nat.le_of_ble_eq_true rfl) dX2_sup_12 ⟨Nat.le_of_ble_eq_true rfl, Nat.le_of_ble_eq_true rfl⟩ (fun u4 H locs hp5 hP hD hS => ?_)
  obtain ⟨T11, b12, r13⟩ := u4
  replace hp5 : (T11, b12, r13) = swF (T (cx p 0)) p (T, (apF T p), 0) := hp5
  have hP : va_P D vwCl (wTab cI q T11 b12) H := hP
  have hD : va_D A (wTab cI q T11 b12) := hD
  refine W.eq (g2 := F0 m 15 ls [.int (iI r13)]) rfl ?_
  have g1 : (T11, b12, r13) = spM p T := hp5
  have g2 := swF_I (k := T (cx p 0)) (h := p) (b := apF T p) (s := 0) hI hp ⟨ga.1, by omega⟩ (Int.le_refl 0)
  rw [← hp5] at g2
  dsimp only at g2
  obtain ⟨i1, i2, i3, i4, i5, i6⟩ := g2
  have i7 := i2 0 (by omega)
  have g3 := i3 p 0 (by omega)
  have g4 := Inv_lv hI hp
  have g5 := i3 p 1 (by omega)
  refine lv_istore_n (lv' := [(2, .int (iI r13)), (0, .ref (q 0)), (1, .int (iI ((p : Nat) : Int)))]) hx hb dX2_sup_15 rfl hl (by decide) rfl (fun ls hl => ?_)
  refine lv_aload_n hx hb dX2_sup_16 rfl (lv_at hl 1 rfl) ?_
  refine lv_aload_n hx hb dX2_sup_17 rfl (lv_at hl 1 rfl) ?_
  refine va_get (D := D) (ci := 1) (v := .ref (q 3)) (C := RX2) (T := TX2) (N := 12) hx hb hts (iT_X2_sup_X2) hown hK hP 0 rfl rfl 7 (by decide) (hts (.fieldLink RX2 25 "WordSupper$Table" "loves" "[I") (by decide +kernel)) (fun _ h9 => h9) rfl dX2_sup_18 ?_
  refine lv_iload_n hx hb dX2_sup_21 rfl (lv_at hl 2 rfl) ?_
  refine x_iald hx hb hK hP 3 0 rfl rfl p rfl (by omega) (by decide) (T11 (cx p 1)) (gd_at _ (by omega)) dX2_sup_22 ?_
  refine x_topi (T (cx p 1)) g5 ?_
  refine x_callV (As := [.int (iI (T (cx p 1)))]) (rest := []) ⟨hx, hb, hml, hown, hts⟩ (kX2_isSeat q T11 b12 (T (cx p 1)) (by omega) (by omega)) (cwV 1 hts gX2_sup_X2_isSeat rfl rfl rfl ykVX2_isSeat ⟨Nat.le_of_ble_eq_true rfl, Nat.le_of_ble_eq_true rfl⟩) hP hK hD hS 0 1 rfl rfl rfl [0, 1, 2, 3, 4, 5, 6, 7] rfl (by decide) (fun _ => rfl) (fun _ => wTab cI q T11 b12) (fun _ => rfl) rfl hl.1 rfl (Nat.le_of_ble_eq_true rfl) dX2_sup_23 ⟨Nat.le_of_ble_eq_true rfl, Nat.le_of_ble_eq_true rfl⟩ (fun _ H locs _ hP hD hS => ?_)
  refine W.eq (g2 := F0 m 26 ls [.int (iI (b2 (decide (0 ≤ (T (cx p 1)) ∧ (T (cx p 1)) < T11 0))))]) rfl ?_
  refine x_ifb_eq (tgt := 43) hx hb dX2_sup_26 (by decide) (fun c_26 => ?_) (fun c_26 => ?_)
  · have k1 := Inv_f (p := p) i1 (by omega)
    have k2 := Inv_a (p := p) i1 (by omega)
    refine lv_aload_n hx hb dX2_sup_43 rfl (lv_at hl 1 rfl) ?_
    refine va_get (D := D) (ci := 1) (v := .ref (q 4)) (C := RX2) (T := TX2) (N := 12) hx hb hts (iT_X2_sup_X2) hown hK hP 0 rfl rfl 8 (by decide) (hts (.fieldLink RX2 28 "WordSupper$Table" "fat" "[I") (by decide +kernel)) (fun _ h9 => h9) rfl dX2_sup_44 ?_
    refine lv_iload_n hx hb dX2_sup_47 rfl (lv_at hl 2 rfl) ?_
    refine x_iconst hx hb dX2_sup_48 ?_
    refine x_bipush hx hb dX2_sup_49 (by decide) ?_
    refine lv_aload_n hx hb dX2_sup_51 rfl (lv_at hl 1 rfl) ?_
    refine va_get (D := D) (ci := 1) (v := .ref (q 4)) (C := RX2) (T := TX2) (N := 12) hx hb hts (iT_X2_sup_X2) hown hK hP 0 rfl rfl 8 (by decide) (hts (.fieldLink RX2 28 "WordSupper$Table" "fat" "[I") (by decide +kernel)) (fun _ h9 => h9) rfl dX2_sup_52 ?_
    refine lv_iload_n hx hb dX2_sup_55 rfl (lv_at hl 2 rfl) ?_
    refine x_iald hx hb hK hP 4 0 rfl rfl p rfl (by omega) (by decide) (T11 (cx p 2)) (gd_at _ (by omega)) dX2_sup_56 ?_
    refine lv_iload_n hx hb dX2_sup_57 rfl (lv_at hl 0 rfl) ?_
    refine x_iconst hx hb dX2_sup_58 ?_
    refine x_idiv hx hb (by omega) (by omega) (by decide) (by decide) dX2_sup_59 ?_
    refine x_iadd hx hb dX2_sup_60 ?_
    refine x_mmin hx hb (hml.trans hl.1.symm) hown (hts (.methodLink RX2 88 Lib.Math.min.name) (by decide +kernel)) (hts (.static Lib.Math.min.name) (by decide +kernel)) (hts (.initialized "java/lang/Math") (by decide +kernel)) (hts (.code Lib.Math.min.name Lib.Math.min.code 2 (some .int)) (by decide +kernel)) (Nat.le_of_ble_eq_true rfl) (Nat.le_of_ble_eq_true rfl) (Nat.le_of_ble_eq_true rfl) (Nat.le_of_ble_eq_true rfl) (by decide) (by omega) dX2_sup_61 ?_
    refine x_iconst hx hb dX2_sup_64 ?_
    refine x_isub hx hb dX2_sup_65 ?_
    refine x_mmax hx hb (hml.trans hl.1.symm) hown (hts (.methodLink RX2 107 Lib.Math.max.name) (by decide +kernel)) (hts (.static Lib.Math.max.name) (by decide +kernel)) (hts (.initialized "java/lang/Math") (by decide +kernel)) (hts (.code Lib.Math.max.name Lib.Math.max.code 2 (some .int)) (by decide +kernel)) (Nat.le_of_ble_eq_true rfl) (Nat.le_of_ble_eq_true rfl) (Nat.le_of_ble_eq_true rfl) (Nat.le_of_ble_eq_true rfl) (by decide) (by omega) dX2_sup_66 ?_
    refine x_iast hx hb hK hP hD hS 4 0 rfl rfl p rfl (by omega) (by decide) (wTab cI q (va_up T11 (cx p 2) (max 0 ((min 99 ((T11 (cx p 2)) + (r13 / 4))) - 2))) b12) (wT_fat cI q T11 b12 (max 0 ((min 99 ((T11 (cx p 2)) + (r13 / 4))) - 2)) p (by omega)) dX2_sup_69 (fun H locs hP hD hS => ?_)
    refine lv_aload_n hx hb dX2_sup_70 rfl (lv_at hl 1 rfl) ?_
    refine va_get (D := D) (ci := 1) (v := .ref (q 5)) (C := RX2) (T := TX2) (N := 12) hx hb hts (iT_X2_sup_X2) hown hK hP 0 rfl rfl 9 (by decide) (hts (.fieldLink RX2 31 "WordSupper$Table" "ate" "[I") (by decide +kernel)) (fun _ h9 => h9) rfl dX2_sup_71 ?_
    refine lv_iload_n hx hb dX2_sup_74 rfl (lv_at hl 2 rfl) ?_
    refine x_ldc hx hb 99999 rfl hown (hts (.constant RX2 87 (99999)) (by decide +kernel)) dX2_sup_75 ?_
    refine lv_aload_n hx hb dX2_sup_77 rfl (lv_at hl 1 rfl) ?_
    refine va_get (D := D) (ci := 1) (v := .ref (q 5)) (C := RX2) (T := TX2) (N := 12) hx hb hts (iT_X2_sup_X2) hown hK hP 0 rfl rfl 9 (by decide) (hts (.fieldLink RX2 31 "WordSupper$Table" "ate" "[I") (by decide +kernel)) (fun _ h9 => h9) rfl dX2_sup_78 ?_
    refine lv_iload_n hx hb dX2_sup_81 rfl (lv_at hl 2 rfl) ?_
    refine x_iald hx hb hK hP 5 0 rfl rfl p rfl (by omega) (by decide) ((va_up T11 (cx p 2) (max 0 ((min 99 ((T11 (cx p 2)) + (r13 / 4))) - 2))) (cx p 3)) (gd_at _ (by omega)) dX2_sup_82 ?_
    refine x_topi (T11 (cx p 3)) (up_cx _ _ (by omega) (by omega) (by omega)) ?_
    refine lv_iload_n hx hb dX2_sup_83 rfl (lv_at hl 0 rfl) ?_
    refine x_iadd hx hb dX2_sup_84 ?_
    refine x_mmin hx hb (hml.trans hl.1.symm) hown (hts (.methodLink RX2 88 Lib.Math.min.name) (by decide +kernel)) (hts (.static Lib.Math.min.name) (by decide +kernel)) (hts (.initialized "java/lang/Math") (by decide +kernel)) (hts (.code Lib.Math.min.name Lib.Math.min.code 2 (some .int)) (by decide +kernel)) (Nat.le_of_ble_eq_true rfl) (Nat.le_of_ble_eq_true rfl) (Nat.le_of_ble_eq_true rfl) (Nat.le_of_ble_eq_true rfl) (by decide) (by omega) dX2_sup_85 ?_
    refine x_iast hx hb hK hP hD hS 5 0 rfl rfl p rfl (by omega) (by decide) (wTab cI q (va_up (va_up T11 (cx p 2) (max 0 ((min 99 ((T11 (cx p 2)) + (r13 / 4))) - 2))) (cx p 3) (min 99999 ((T11 (cx p 3)) + r13))) b12) (wT_ate cI q (va_up T11 (cx p 2) (max 0 ((min 99 ((T11 (cx p 2)) + (r13 / 4))) - 2))) b12 (min 99999 ((T11 (cx p 3)) + r13)) p (by omega)) dX2_sup_88 (fun H locs hP hD hS => ?_)
    exact kend (va_up (va_up T11 (cx p 2) (max 0 ((min 99 ((T11 (cx p 2)) + (r13 / 4))) - 2))) (cx p 3) (min 99999 ((T11 (cx p 3)) + r13)), b12) hP hS rfl (by unfold spF spZ; rw [if_neg (show ¬ 0 ≤ T (cx p 1) by omega), ← g1]; unfold spE; dsimp only) dX2_sup_89
  · refine lv_iload_n hx hb dX2_sup_29 rfl (lv_at hl 0 rfl) ?_
    refine lv_aload_n hx hb dX2_sup_30 rfl (lv_at hl 1 rfl) ?_
    refine lv_iload_n hx hb dX2_sup_31 rfl (lv_at hl 2 rfl) ?_
    refine lv_aload_n hx hb dX2_sup_32 rfl (lv_at hl 1 rfl) ?_
    refine va_get (D := D) (ci := 1) (v := .ref (q 3)) (C := RX2) (T := TX2) (N := 12) hx hb hts (iT_X2_sup_X2) hown hK hP 0 rfl rfl 7 (by decide) (hts (.fieldLink RX2 25 "WordSupper$Table" "loves" "[I") (by decide +kernel)) (fun _ h9 => h9) rfl dX2_sup_33 ?_
    refine lv_iload_n hx hb dX2_sup_36 rfl (lv_at hl 2 rfl) ?_
    refine x_iald hx hb hK hP 3 0 rfl rfl p rfl (by omega) (by decide) (T11 (cx p 1)) (gd_at _ (by omega)) dX2_sup_37 ?_
    refine x_topi (((T (cx p 1)).toNat : Nat) : Int) (by omega) ?_
    refine x_callV (As := [.int (iI ((p : Nat) : Int)), .int (iI (((T (cx p 1)).toNat : Nat) : Int))]) (rest := [.int (iI r13)]) ⟨hx, hb, hml, hown, hts⟩ (kX2_swallow q T11 b12 p ((T (cx p 1)).toNat) B i1 (by omega) (by omega) i4) (cwV 2 hts gX2_sup_X2_swallow rfl rfl rfl ykVX2_swallow ⟨Nat.le_of_ble_eq_true rfl, Nat.le_of_ble_eq_true rfl⟩) hP hK hD hS 0 1 rfl rfl rfl [0, 1, 2, 3, 4, 5, 6, 7] rfl (by decide) (fun _ => rfl) (fun u => wTab cI q u.1 u.2.1) (fun _ => rfl) rfl hl.1 rfl (Nat.le_of_ble_eq_true rfl) dX2_sup_38 ⟨Nat.le_of_ble_eq_true rfl, Nat.le_of_ble_eq_true rfl⟩ (fun u9 H locs hp10 hP hD hS => ?_)
    obtain ⟨T16, b17, r18⟩ := u9
    replace hp10 : (T16, b17, r18) = swF (T11 (cx p 0)) ((T (cx p 1)).toNat) (T11, b12, 0) := hp10
    have hP : va_P D vwCl (wTab cI q T16 b17) H := hP
    have hD : va_D A (wTab cI q T16 b17) := hD
    refine W.eq (g2 := F0 m 41 ls [.int (iI r18), .int (iI r13)]) rfl ?_
    have j0 := swF_I (k := T11 (cx p 0)) (h := (T (cx p 1)).toNat) (T := T11) (b := b12) (s := 0) i1 (by omega) i4 (Int.le_refl 0)
    rw [← hp10] at j0
    dsimp only at j0
    obtain ⟨j1, j2, j3, j4, j5, j6⟩ := j0
    refine x_iadd hx hb dX2_sup_41 ?_
    refine lv_istore_n (lv' := [(2, .int (iI (r13 + r18))), (0, .ref (q 0)), (1, .int (iI ((p : Nat) : Int)))]) hx hb dX2_sup_42 rfl hl (by decide) rfl (fun ls hl => ?_)
    have k1 := Inv_f (p := p) j1 (by have := j2 0 (by omega); omega)
    have k2 := Inv_a (p := p) j1 (by have := j2 0 (by omega); omega)
    refine lv_aload_n hx hb dX2_sup_43 rfl (lv_at hl 1 rfl) ?_
    refine va_get (D := D) (ci := 1) (v := .ref (q 4)) (C := RX2) (T := TX2) (N := 12) hx hb hts (iT_X2_sup_X2) hown hK hP 0 rfl rfl 8 (by decide) (hts (.fieldLink RX2 28 "WordSupper$Table" "fat" "[I") (by decide +kernel)) (fun _ h9 => h9) rfl dX2_sup_44 ?_
    refine lv_iload_n hx hb dX2_sup_47 rfl (lv_at hl 2 rfl) ?_
    refine x_iconst hx hb dX2_sup_48 ?_
    refine x_bipush hx hb dX2_sup_49 (by decide) ?_
    refine lv_aload_n hx hb dX2_sup_51 rfl (lv_at hl 1 rfl) ?_
    refine va_get (D := D) (ci := 1) (v := .ref (q 4)) (C := RX2) (T := TX2) (N := 12) hx hb hts (iT_X2_sup_X2) hown hK hP 0 rfl rfl 8 (by decide) (hts (.fieldLink RX2 28 "WordSupper$Table" "fat" "[I") (by decide +kernel)) (fun _ h9 => h9) rfl dX2_sup_52 ?_
    refine lv_iload_n hx hb dX2_sup_55 rfl (lv_at hl 2 rfl) ?_
    refine x_iald hx hb hK hP 4 0 rfl rfl p rfl (by omega) (by decide) (T16 (cx p 2)) (gd_at _ (by omega)) dX2_sup_56 ?_
    refine lv_iload_n hx hb dX2_sup_57 rfl (lv_at hl 0 rfl) ?_
    refine x_iconst hx hb dX2_sup_58 ?_
    refine x_idiv hx hb (by omega) (by omega) (by decide) (by decide) dX2_sup_59 ?_
    refine x_iadd hx hb dX2_sup_60 ?_
    refine x_mmin hx hb (hml.trans hl.1.symm) hown (hts (.methodLink RX2 88 Lib.Math.min.name) (by decide +kernel)) (hts (.static Lib.Math.min.name) (by decide +kernel)) (hts (.initialized "java/lang/Math") (by decide +kernel)) (hts (.code Lib.Math.min.name Lib.Math.min.code 2 (some .int)) (by decide +kernel)) (Nat.le_of_ble_eq_true rfl) (Nat.le_of_ble_eq_true rfl) (Nat.le_of_ble_eq_true rfl) (Nat.le_of_ble_eq_true rfl) (by decide) (by omega) dX2_sup_61 ?_
    refine x_iconst hx hb dX2_sup_64 ?_
    refine x_isub hx hb dX2_sup_65 ?_
    refine x_mmax hx hb (hml.trans hl.1.symm) hown (hts (.methodLink RX2 107 Lib.Math.max.name) (by decide +kernel)) (hts (.static Lib.Math.max.name) (by decide +kernel)) (hts (.initialized "java/lang/Math") (by decide +kernel)) (hts (.code Lib.Math.max.name Lib.Math.max.code 2 (some .int)) (by decide +kernel)) (Nat.le_of_ble_eq_true rfl) (Nat.le_of_ble_eq_true rfl) (Nat.le_of_ble_eq_true rfl) (Nat.le_of_ble_eq_true rfl) (by decide) (by omega) dX2_sup_66 ?_
    refine x_iast hx hb hK hP hD hS 4 0 rfl rfl p rfl (by omega) (by decide) (wTab cI q (va_up T16 (cx p 2) (max 0 ((min 99 ((T16 (cx p 2)) + ((r13 + r18) / 4))) - 2))) b17) (wT_fat cI q T16 b17 (max 0 ((min 99 ((T16 (cx p 2)) + ((r13 + r18) / 4))) - 2)) p (by omega)) dX2_sup_69 (fun H locs hP hD hS => ?_)
    refine lv_aload_n hx hb dX2_sup_70 rfl (lv_at hl 1 rfl) ?_
    refine va_get (D := D) (ci := 1) (v := .ref (q 5)) (C := RX2) (T := TX2) (N := 12) hx hb hts (iT_X2_sup_X2) hown hK hP 0 rfl rfl 9 (by decide) (hts (.fieldLink RX2 31 "WordSupper$Table" "ate" "[I") (by decide +kernel)) (fun _ h9 => h9) rfl dX2_sup_71 ?_
    refine lv_iload_n hx hb dX2_sup_74 rfl (lv_at hl 2 rfl) ?_
    refine x_ldc hx hb 99999 rfl hown (hts (.constant RX2 87 (99999)) (by decide +kernel)) dX2_sup_75 ?_
    refine lv_aload_n hx hb dX2_sup_77 rfl (lv_at hl 1 rfl) ?_
    refine va_get (D := D) (ci := 1) (v := .ref (q 5)) (C := RX2) (T := TX2) (N := 12) hx hb hts (iT_X2_sup_X2) hown hK hP 0 rfl rfl 9 (by decide) (hts (.fieldLink RX2 31 "WordSupper$Table" "ate" "[I") (by decide +kernel)) (fun _ h9 => h9) rfl dX2_sup_78 ?_
    refine lv_iload_n hx hb dX2_sup_81 rfl (lv_at hl 2 rfl) ?_
    refine x_iald hx hb hK hP 5 0 rfl rfl p rfl (by omega) (by decide) ((va_up T16 (cx p 2) (max 0 ((min 99 ((T16 (cx p 2)) + ((r13 + r18) / 4))) - 2))) (cx p 3)) (gd_at _ (by omega)) dX2_sup_82 ?_
    refine x_topi (T16 (cx p 3)) (up_cx _ _ (by omega) (by omega) (by omega)) ?_
    refine lv_iload_n hx hb dX2_sup_83 rfl (lv_at hl 0 rfl) ?_
    refine x_iadd hx hb dX2_sup_84 ?_
    refine x_mmin hx hb (hml.trans hl.1.symm) hown (hts (.methodLink RX2 88 Lib.Math.min.name) (by decide +kernel)) (hts (.static Lib.Math.min.name) (by decide +kernel)) (hts (.initialized "java/lang/Math") (by decide +kernel)) (hts (.code Lib.Math.min.name Lib.Math.min.code 2 (some .int)) (by decide +kernel)) (Nat.le_of_ble_eq_true rfl) (Nat.le_of_ble_eq_true rfl) (Nat.le_of_ble_eq_true rfl) (Nat.le_of_ble_eq_true rfl) (by decide) (by omega) dX2_sup_85 ?_
    refine x_iast hx hb hK hP hD hS 5 0 rfl rfl p rfl (by omega) (by decide) (wTab cI q (va_up (va_up T16 (cx p 2) (max 0 ((min 99 ((T16 (cx p 2)) + ((r13 + r18) / 4))) - 2))) (cx p 3) (min 99999 ((T16 (cx p 3)) + (r13 + r18)))) b17) (wT_ate cI q (va_up T16 (cx p 2) (max 0 ((min 99 ((T16 (cx p 2)) + ((r13 + r18) / 4))) - 2))) b17 (min 99999 ((T16 (cx p 3)) + (r13 + r18))) p (by omega)) dX2_sup_88 (fun H locs hP hD hS => ?_)
    exact kend (va_up (va_up T16 (cx p 2) (max 0 ((min 99 ((T16 (cx p 2)) + ((r13 + r18) / 4))) - 2))) (cx p 3) (min 99999 ((T16 (cx p 3)) + (r13 + r18))), b17) hP hS rfl (by unfold spF spZ; rw [if_pos (show 0 ≤ T (cx p 1) by omega), ← g1, swF_sh]; rw [g3] at hp10; rw [← hp10, Int.add_comm r18 r13]; unfold spE; dsimp only) dX2_sup_89
