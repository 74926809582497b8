theorem ykSX5_isSheet : yX5_isSheet.cls ≠ "java/lang/invoke/MethodHandle" ∧ yX5_isSheet.cls ≠ "java/lang/invoke/VarHandle" ∧ (parseMethodDescriptor yX5_isSheet.desc).map (fun d => d.parameters.length) = some 1 := by decide +kernel
theorem ykVX5_isSheet : yX5_isSheet.cls = RX5 ∧ yX5_isSheet.cls ≠ "java/lang/invoke/MethodHandle" ∧ yX5_isSheet.cls ≠ "java/lang/invoke/VarHandle" ∧ (parseMethodDescriptor yX5_isSheet.desc).map (fun d => d.parameters.length) = some 1 := ⟨rfl, ykSX5_isSheet⟩
set_option maxHeartbeats 4000000 in
set_option maxRecDepth 100000 in
theorem kX5_isSheet {l : Launch} {D : va_G} {cI cB : ClassId} (s0 : Int) (hs : rI s0) : Ct l yX5_isSheet wsX5_isSheet 0 0 D [(cI, .int), (cB, .byte)] [.int (iI s0)] (([] : va_W)) (S := Unit) (fun _ => some (.int (iI (b2 (decide (0 ≤ s0 ∧ s0 < 4)))))) (fun _ => True) (fun _ => ([] : va_W)) := by
  refine CtZ.of (cc := cX5_isSheet) (maxL := 1) (by decide +kernel) rfl (Nat.le_of_ble_eq_true rfl) ?_
  intro pg e s m args below meth c Q A hx hb hml hts hown hP hK hD hS ls hl kend
  have hown : s.vm.findClass RX5 = some m.cls := hown
  have hl : lv_has ls 1 [(0, .int (iI s0))] := hl
  refine lv_iload_n hx hb dX5_isSheet_0 rfl (lv_at hl 0 rfl) ?_
  refine x_if_lt (tgt := 13) hx hb (by omega) dX5_isSheet_1 (by decide) (fun c_1 => ?_) (fun c_1 => ?_)
  · refine x_iconst hx hb dX5_isSheet_13 ?_
    exact kend () hP hS (an_i (b2_f (by omega)).symm) trivial (by decide) dX5_isSheet_14
  · refine lv_iload_n hx hb dX5_isSheet_4 rfl (lv_at hl 0 rfl) ?_
    refine x_iconst hx hb dX5_isSheet_5 ?_
    refine x_icmp_ge (tgt := 13) hx hb (by omega) (by decide) dX5_isSheet_6 (by decide) (fun c_6 => ?_) (fun c_6 => ?_)
    · refine x_iconst hx hb dX5_isSheet_13 ?_
      exact kend () hP hS (an_i (b2_f (by omega)).symm) trivial (by decide) dX5_isSheet_14
    · refine x_iconst hx hb dX5_isSheet_9 ?_
      refine lv_goto (tgt := 14) hx hb dX5_isSheet_10 (by decide) ?_
      exact kend () hP hS (an_i (b2_t (by omega)).symm) trivial (by decide) dX5_isSheet_14
theorem ykSX5_isUnder : yX5_isUnder.cls ≠ "java/lang/invoke/MethodHandle" ∧ yX5_isUnder.cls ≠ "java/lang/invoke/VarHandle" ∧ (parseMethodDescriptor yX5_isUnder.desc).map (fun d => d.parameters.length) = some 2 := by decide +kernel
theorem ykVX5_isUnder : yX5_isUnder.cls = RX5 ∧ yX5_isUnder.cls ≠ "java/lang/invoke/MethodHandle" ∧ yX5_isUnder.cls ≠ "java/lang/invoke/VarHandle" ∧ (parseMethodDescriptor yX5_isUnder.desc).map (fun d => d.parameters.length) = some 2 := ⟨rfl, ykSX5_isUnder⟩
set_option maxHeartbeats 4000000 in
set_option maxRecDepth 100000 in
theorem kX5_isUnder {l : Launch} {D : va_G} {cI cB : ClassId} (own : Int) (kd : Int) (ho : rI own) (hk : rI kd) : Ct l yX5_isUnder wsX5_isUnder 0 0 D [(cI, .int), (cB, .byte)] [.int (iI own), .int (iI kd)] (([] : va_W)) (S := Unit) (fun _ => some (.int (iI (b2 (decide (unB own kd = true)))))) (fun _ => True) (fun _ => ([] : va_W)) := by
  refine CtZ.of (cc := cX5_isUnder) (maxL := 2) (by decide +kernel) rfl (Nat.le_of_ble_eq_true rfl) ?_
  intro pg e s m args below meth c Q A hx hb hml hts hown hP hK hD hS ls hl kend
  have hown : s.vm.findClass RX5 = some m.cls := hown
  have hl : lv_has ls 2 [(0, .int (iI own)), (1, .int (iI kd))] := hl
  refine lv_iload_n hx hb dX5_isUnder_0 rfl (lv_at hl 1 rfl) ?_
  refine x_if_eq (tgt := 45) hx hb (by omega) dX5_isUnder_1 (by decide) (fun c_1 => ?_) (fun c_1 => ?_)
  · refine x_iconst hx hb dX5_isUnder_45 ?_
    refine lv_goto (tgt := 50) hx hb dX5_isUnder_46 (by decide) ?_
    exact kend () hP hS (an_i (b2_t (by rw [unB_i]; omega)).symm) trivial (by decide) dX5_isUnder_50
  · refine lv_iload_n hx hb dX5_isUnder_4 rfl (lv_at hl 0 rfl) ?_
    refine lv_iload_n hx hb dX5_isUnder_5 rfl (lv_at hl 1 rfl) ?_
    refine x_icmp_eq (tgt := 45) hx hb (by omega) (by omega) dX5_isUnder_6 (by decide) (fun c_6 => ?_) (fun c_6 => ?_)
    · refine x_iconst hx hb dX5_isUnder_45 ?_
      refine lv_goto (tgt := 50) hx hb dX5_isUnder_46 (by decide) ?_
      exact kend () hP hS (an_i (b2_t (by rw [unB_i]; omega)).symm) trivial (by decide) dX5_isUnder_50
    · refine lv_iload_n hx hb dX5_isUnder_9 rfl (lv_at hl 1 rfl) ?_
      refine x_iconst hx hb dX5_isUnder_10 ?_
      refine x_icmp_ne (tgt := 24) hx hb (by omega) (by decide) dX5_isUnder_11 (by decide) (fun c_11 => ?_) (fun c_11 => ?_)
      · refine lv_iload_n hx hb dX5_isUnder_24 rfl (lv_at hl 1 rfl) ?_
        refine x_iconst hx hb dX5_isUnder_25 ?_
        refine x_icmp_ne (tgt := 34) hx hb (by omega) (by decide) dX5_isUnder_26 (by decide) (fun c_26 => ?_) (fun c_26 => ?_)
        · refine lv_iload_n hx hb dX5_isUnder_34 rfl (lv_at hl 1 rfl) ?_
          refine x_iconst hx hb dX5_isUnder_35 ?_
          refine x_icmp_ne (tgt := 49) hx hb (by omega) (by decide) dX5_isUnder_36 (by decide) (fun c_36 => ?_) (fun c_36 => ?_)
          · refine x_iconst hx hb dX5_isUnder_49 ?_
            exact kend () hP hS (an_i (b2_f (by rw [unB_i]; omega)).symm) trivial (by decide) dX5_isUnder_50
          · refine lv_iload_n hx hb dX5_isUnder_39 rfl (lv_at hl 0 rfl) ?_
            refine x_bipush hx hb dX5_isUnder_40 (by decide) ?_
            refine x_icmp_ne (tgt := 49) hx hb (by omega) (by decide) dX5_isUnder_42 (by decide) (fun c_42 => ?_) (fun c_42 => ?_)
            · refine x_iconst hx hb dX5_isUnder_49 ?_
              exact kend () hP hS (an_i (b2_f (by rw [unB_i]; omega)).symm) trivial (by decide) dX5_isUnder_50
            · refine x_iconst hx hb dX5_isUnder_45 ?_
              refine lv_goto (tgt := 50) hx hb dX5_isUnder_46 (by decide) ?_
              exact kend () hP hS (an_i (b2_t (by rw [unB_i]; omega)).symm) trivial (by decide) dX5_isUnder_50
        · refine lv_iload_n hx hb dX5_isUnder_29 rfl (lv_at hl 0 rfl) ?_
          refine x_iconst hx hb dX5_isUnder_30 ?_
          refine x_icmp_eq (tgt := 45) hx hb (by omega) (by decide) dX5_isUnder_31 (by decide) (fun c_31 => ?_) (fun c_31 => ?_)
          · refine x_iconst hx hb dX5_isUnder_45 ?_
            refine lv_goto (tgt := 50) hx hb dX5_isUnder_46 (by decide) ?_
            exact kend () hP hS (an_i (b2_t (by rw [unB_i]; omega)).symm) trivial (by decide) dX5_isUnder_50
          · refine lv_iload_n hx hb dX5_isUnder_34 rfl (lv_at hl 1 rfl) ?_
            refine x_iconst hx hb dX5_isUnder_35 ?_
            refine x_icmp_ne (tgt := 49) hx hb (by omega) (by decide) dX5_isUnder_36 (by decide) (fun c_36 => ?_) (fun c_36 => ?_)
            · refine x_iconst hx hb dX5_isUnder_49 ?_
              exact kend () hP hS (an_i (b2_f (by rw [unB_i]; omega)).symm) trivial (by decide) dX5_isUnder_50
            · refine lv_iload_n hx hb dX5_isUnder_39 rfl (lv_at hl 0 rfl) ?_
              refine x_bipush hx hb dX5_isUnder_40 (by decide) ?_
              refine x_icmp_ne (tgt := 49) hx hb (by omega) (by decide) dX5_isUnder_42 (by decide) (fun c_42 => ?_) (fun c_42 => ?_)
              · refine x_iconst hx hb dX5_isUnder_49 ?_
                exact kend () hP hS (an_i (b2_f (by rw [unB_i]; omega)).symm) trivial (by decide) dX5_isUnder_50
              · refine x_iconst hx hb dX5_isUnder_45 ?_
                refine lv_goto (tgt := 50) hx hb dX5_isUnder_46 (by decide) ?_
                exact kend () hP hS (an_i (b2_t (by rw [unB_i]; omega)).symm) trivial (by decide) dX5_isUnder_50
      · refine lv_iload_n hx hb dX5_isUnder_14 rfl (lv_at hl 0 rfl) ?_
        refine x_iconst hx hb dX5_isUnder_15 ?_
        refine x_icmp_eq (tgt := 45) hx hb (by omega) (by decide) dX5_isUnder_16 (by decide) (fun c_16 => ?_) (fun c_16 => ?_)
        · refine x_iconst hx hb dX5_isUnder_45 ?_
          refine lv_goto (tgt := 50) hx hb dX5_isUnder_46 (by decide) ?_
          exact kend () hP hS (an_i (b2_t (by rw [unB_i]; omega)).symm) trivial (by decide) dX5_isUnder_50
        · refine lv_iload_n hx hb dX5_isUnder_19 rfl (lv_at hl 0 rfl) ?_
          refine x_iconst hx hb dX5_isUnder_20 ?_
          refine x_icmp_eq (tgt := 45) hx hb (by omega) (by decide) dX5_isUnder_21 (by decide) (fun c_21 => ?_) (fun c_21 => ?_)
          · refine x_iconst hx hb dX5_isUnder_45 ?_
            refine lv_goto (tgt := 50) hx hb dX5_isUnder_46 (by decide) ?_
            exact kend () hP hS (an_i (b2_t (by rw [unB_i]; omega)).symm) trivial (by decide) dX5_isUnder_50
          · refine lv_iload_n hx hb dX5_isUnder_24 rfl (lv_at hl 1 rfl) ?_
            refine x_iconst hx hb dX5_isUnder_25 ?_
            refine x_icmp_ne (tgt := 34) hx hb (by omega) (by decide) dX5_isUnder_26 (by decide) (fun c_26 => ?_) (fun c_26 => ?_)
            · refine lv_iload_n hx hb dX5_isUnder_34 rfl (lv_at hl 1 rfl) ?_
              refine x_iconst hx hb dX5_isUnder_35 ?_
              refine x_icmp_ne (tgt := 49) hx hb (by omega) (by decide) dX5_isUnder_36 (by decide) (fun c_36 => ?_) (fun c_36 => ?_)
              · refine x_iconst hx hb dX5_isUnder_49 ?_
                exact kend () hP hS (an_i (b2_f (by rw [unB_i]; omega)).symm) trivial (by decide) dX5_isUnder_50
              · refine lv_iload_n hx hb dX5_isUnder_39 rfl (lv_at hl 0 rfl) ?_
                refine x_bipush hx hb dX5_isUnder_40 (by decide) ?_
                refine x_icmp_ne (tgt := 49) hx hb (by omega) (by decide) dX5_isUnder_42 (by decide) (fun c_42 => ?_) (fun c_42 => ?_)
                · refine x_iconst hx hb dX5_isUnder_49 ?_
                  exact kend () hP hS (an_i (b2_f (by rw [unB_i]; omega)).symm) trivial (by decide) dX5_isUnder_50
                · refine x_iconst hx hb dX5_isUnder_45 ?_
                  refine lv_goto (tgt := 50) hx hb dX5_isUnder_46 (by decide) ?_
                  exact kend () hP hS (an_i (b2_t (by rw [unB_i]; omega)).symm) trivial (by decide) dX5_isUnder_50
            · refine lv_iload_n hx hb dX5_isUnder_29 rfl (lv_at hl 0 rfl) ?_
              refine x_iconst hx hb dX5_isUnder_30 ?_
              refine x_icmp_eq (tgt := 45) hx hb (by omega) (by decide) dX5_isUnder_31 (by decide) (fun c_31 => ?_) (fun c_31 => ?_)
              · refine x_iconst hx hb dX5_isUnder_45 ?_
                refine lv_goto (tgt := 50) hx hb dX5_isUnder_46 (by decide) ?_
                exact kend () hP hS (an_i (b2_t (by rw [unB_i]; omega)).symm) trivial (by decide) dX5_isUnder_50
              · refine lv_iload_n hx hb dX5_isUnder_34 rfl (lv_at hl 1 rfl) ?_
                refine x_iconst hx hb dX5_isUnder_35 ?_
                refine x_icmp_ne (tgt := 49) hx hb (by omega) (by decide) dX5_isUnder_36 (by decide) (fun c_36 => ?_) (fun c_36 => ?_)
                · refine x_iconst hx hb dX5_isUnder_49 ?_
                  exact kend () hP hS (an_i (b2_f (by rw [unB_i]; omega)).symm) trivial (by decide) dX5_isUnder_50
                · refine lv_iload_n hx hb dX5_isUnder_39 rfl (lv_at hl 0 rfl) ?_
                  refine x_bipush hx hb dX5_isUnder_40 (by decide) ?_
                  refine x_icmp_ne (tgt := 49) hx hb (by omega) (by decide) dX5_isUnder_42 (by decide) (fun c_42 => ?_) (fun c_42 => ?_)
                  · refine x_iconst hx hb dX5_isUnder_49 ?_
                    exact kend () hP hS (an_i (b2_f (by rw [unB_i]; omega)).symm) trivial (by decide) dX5_isUnder_50
                  · refine x_iconst hx hb dX5_isUnder_45 ?_
                    refine lv_goto (tgt := 50) hx hb dX5_isUnder_46 (by decide) ?_
                    exact kend () hP hS (an_i (b2_t (by rw [unB_i]; omega)).symm) trivial (by decide) dX5_isUnder_50
theorem ykSX5_comes : yX5_comes.cls ≠ "java/lang/invoke/MethodHandle" ∧ yX5_comes.cls ≠ "java/lang/invoke/VarHandle" ∧ (parseMethodDescriptor yX5_comes.desc).map (fun d => d.parameters.length) = some 1 := by decide +kernel
theorem ykVX5_comes : yX5_comes.cls = RX5 ∧ yX5_comes.cls ≠ "java/lang/invoke/MethodHandle" ∧ yX5_comes.cls ≠ "java/lang/invoke/VarHandle" ∧ (parseMethodDescriptor yX5_comes.desc).map (fun d => d.parameters.length) = some 1 := ⟨rfl, ykSX5_comes⟩
set_option maxRecDepth 20000 in
theorem iT_X5_comes_X5 : ∀ w ∈ u_ws RX5 TX5 18, w ∈ wsX5_comes := by decide +kernel
set_option maxHeartbeats 4000000 in
set_option maxRecDepth 100000 in
theorem kX5_comes {l : Launch} {D : va_G} {cI cB : ClassId} (r : Nat → Nat) (ik : Int) (tn : Int) (j : Nat → Int) (T : Tb) (kd : Int) (n : Nat) (hk : rI kd) (hn : T 0 = (n : Int)) (hn8 : n < 8) : Ct l yX5_comes wsX5_comes 1 21 D [(cI, .int), (cB, .byte)] [.ref (r 0), .int (iI kd)] (wRo r ik tn j ++ (wA cI (r 1) 100 T)) (S := Tb) (fun u => none) (fun u => u = stF kd n T) (fun u => wRo r ik tn j ++ (wA cI (r 1) 100 u)) := by
  refine CtV.of (cc := cX5_comes) (maxL := 4) (by decide +kernel) rfl (Nat.le_of_ble_eq_true rfl) ?_
  intro pg e s m args below meth c Q A hx hb hml hts hown hP hK hD hS ls hl kend
  have hown : s.vm.findClass RX5 = some m.cls := hown
  have hl : lv_has ls 4 [(0, .ref (r 0)), (1, .int (iI kd))] := hl
  refine lv_aload_n hx hb dX5_comes_0 rfl (lv_at hl 0 rfl) ?_
  refine va_get (D := D) (ci := 4) (v := .ref (r 1)) (C := RX5) (T := TX5) (N := 18) hx hb hts (iT_X5_comes_X5) hown hK hP 0 rfl rfl 0 (by decide) (hts (.fieldLink RX5 7 "WordSupperModel" "s" "[I") (by decide +kernel)) (fun _ h9 => h9) rfl dX5_comes_1 ?_
  refine x_iconst hx hb dX5_comes_4 ?_
  refine x_iald hx hb hK hP 1 0 rfl rfl 0 rfl (by omega) (by decide) (T 0) (gd_at _ (by omega)) dX5_comes_5 ?_
  refine x_topi ((n : Nat) : Int) hn ?_
  refine lv_istore_n (lv' := [(2, .int (iI ((n : Nat) : Int))), (0, .ref (r 0)), (1, .int (iI kd))]) hx hb dX5_comes_6 rfl hl (by decide) rfl (fun ls hl => ?_)
  refine lv_aload_n hx hb dX5_comes_7 rfl (lv_at hl 1 rfl) ?_
  refine va_get (D := D) (ci := 4) (v := .ref (r 1)) (C := RX5) (T := TX5) (N := 18) hx hb hts (iT_X5_comes_X5) hown hK hP 0 rfl rfl 0 (by decide) (hts (.fieldLink RX5 7 "WordSupperModel" "s" "[I") (by decide +kernel)) (fun _ h9 => h9) rfl dX5_comes_8 ?_
  refine lv_iload_n hx hb dX5_comes_11 rfl (lv_at hl 0 rfl) ?_
  refine x_iconst hx hb dX5_comes_12 ?_
  refine x_callS (As := [.int (iI ((n : Nat) : Int)), .int (iI 0)]) (rest := [.ref (r 1)]) ⟨hx, hb, hml, hown, hts⟩ (kX5_at n 0 ) (va_cwS 2 hts gX5_comes_X5_at rfl rfl rfl ykSX5_at ⟨Nat.le_of_ble_eq_true rfl, Nat.le_of_ble_eq_true rfl⟩) hP hK hD hS [] rfl (by decide) (fun _ => rfl) (fun _ => wRo r ik tn j ++ (wA cI (r 1) 100 T)) (fun _ => rfl) rfl hl.1 rfl (Nat.le_of_ble_eq_true rfl) dX5_comes_13 ⟨Nat.le_of_ble_eq_true rfl, Nat.le_of_ble_eq_true rfl⟩ (fun _ H locs _ hP hD hS => ?_)
  refine W.eq (g2 := F0 m 16 ls [.int (iI ((cx n 0 : Nat) : Int)), .ref (r 1)]) rfl ?_
  refine lv_iload_n hx hb dX5_comes_16 rfl (lv_at hl 2 rfl) ?_
  refine x_iast hx hb hK hP hD hS 1 0 rfl rfl (cx n 0) rfl (cx_lt1 (by omega) (by omega)) (by decide) (wRo r ik tn j ++ (wA cI (r 1) 100 (va_up T (cx n 0) kd))) (by rw [← wA_up cI (r 1) 100 T kd (cx n 0) (cx_lt1 (by omega) (by omega))]; rfl) dX5_comes_17 (fun H locs hP hD hS => ?_)
  refine lv_aload_n hx hb dX5_comes_18 rfl (lv_at hl 1 rfl) ?_
  refine va_get (D := D) (ci := 4) (v := .ref (r 1)) (C := RX5) (T := TX5) (N := 18) hx hb hts (iT_X5_comes_X5) hown hK hP 0 rfl rfl 0 (by decide) (hts (.fieldLink RX5 7 "WordSupperModel" "s" "[I") (by decide +kernel)) (fun _ h9 => h9) rfl dX5_comes_19 ?_
  refine lv_iload_n hx hb dX5_comes_22 rfl (lv_at hl 0 rfl) ?_
  refine x_iconst hx hb dX5_comes_23 ?_
  refine x_callS (As := [.int (iI ((n : Nat) : Int)), .int (iI 1)]) (rest := [.ref (r 1)]) ⟨hx, hb, hml, hown, hts⟩ (kX5_at n 1 ) (va_cwS 2 hts gX5_comes_X5_at rfl rfl rfl ykSX5_at ⟨Nat.le_of_ble_eq_true rfl, Nat.le_of_ble_eq_true rfl⟩) hP hK hD hS [] rfl (by decide) (fun _ => rfl) (fun _ => wRo r ik tn j ++ (wA cI (r 1) 100 (va_up T (cx n 0) kd))) (fun _ => rfl) rfl hl.1 rfl (Nat.le_of_ble_eq_true rfl) dX5_comes_24 ⟨Nat.le_of_ble_eq_true rfl, Nat.le_of_ble_eq_true rfl⟩ (fun _ H locs _ hP hD hS => ?_)
  refine W.eq (g2 := F0 m 27 ls [.int (iI ((cx n 1 : Nat) : Int)), .ref (r 1)]) rfl ?_
  refine x_iconst hx hb dX5_comes_27 ?_
  refine x_iast hx hb hK hP hD hS 1 0 rfl rfl (cx n 1) rfl (cx_lt1 (by omega) (by omega)) (by decide) (wRo r ik tn j ++ (wA cI (r 1) 100 (va_up (va_up T (cx n 0) kd) (cx n 1) (-1)))) (by rw [← wA_up cI (r 1) 100 (va_up T (cx n 0) kd) (-1) (cx n 1) (cx_lt1 (by omega) (by omega))]; rfl) dX5_comes_28 (fun H locs hP hD hS => ?_)
  refine lv_aload_n hx hb dX5_comes_29 rfl (lv_at hl 1 rfl) ?_
  refine va_get (D := D) (ci := 4) (v := .ref (r 1)) (C := RX5) (T := TX5) (N := 18) hx hb hts (iT_X5_comes_X5) hown hK hP 0 rfl rfl 0 (by decide) (hts (.fieldLink RX5 7 "WordSupperModel" "s" "[I") (by decide +kernel)) (fun _ h9 => h9) rfl dX5_comes_30 ?_
  refine lv_iload_n hx hb dX5_comes_33 rfl (lv_at hl 0 rfl) ?_
  refine x_iconst hx hb dX5_comes_34 ?_
  refine x_callS (As := [.int (iI ((n : Nat) : Int)), .int (iI 2)]) (rest := [.ref (r 1)]) ⟨hx, hb, hml, hown, hts⟩ (kX5_at n 2 ) (va_cwS 2 hts gX5_comes_X5_at rfl rfl rfl ykSX5_at ⟨Nat.le_of_ble_eq_true rfl, Nat.le_of_ble_eq_true rfl⟩) hP hK hD hS [] rfl (by decide) (fun _ => rfl) (fun _ => wRo r ik tn j ++ (wA cI (r 1) 100 (va_up (va_up T (cx n 0) kd) (cx n 1) (-1)))) (fun _ => rfl) rfl hl.1 rfl (Nat.le_of_ble_eq_true rfl) dX5_comes_35 ⟨Nat.le_of_ble_eq_true rfl, Nat.le_of_ble_eq_true rfl⟩ (fun _ H locs _ hP hD hS => ?_)
  refine W.eq (g2 := F0 m 38 ls [.int (iI ((cx n 2 : Nat) : Int)), .ref (r 1)]) rfl ?_
  refine x_bipush hx hb dX5_comes_38 (by decide) ?_
  refine x_iast hx hb hK hP hD hS 1 0 rfl rfl (cx n 2) rfl (cx_lt1 (by omega) (by omega)) (by decide) (wRo r ik tn j ++ (wA cI (r 1) 100 (va_up (va_up (va_up T (cx n 0) kd) (cx n 1) (-1)) (cx n 2) 50))) (by rw [← wA_up cI (r 1) 100 (va_up (va_up T (cx n 0) kd) (cx n 1) (-1)) 50 (cx n 2) (cx_lt1 (by omega) (by omega))]; rfl) dX5_comes_40 (fun H locs hP hD hS => ?_)
  refine lv_aload_n hx hb dX5_comes_41 rfl (lv_at hl 1 rfl) ?_
  refine va_get (D := D) (ci := 4) (v := .ref (r 1)) (C := RX5) (T := TX5) (N := 18) hx hb hts (iT_X5_comes_X5) hown hK hP 0 rfl rfl 0 (by decide) (hts (.fieldLink RX5 7 "WordSupperModel" "s" "[I") (by decide +kernel)) (fun _ h9 => h9) rfl dX5_comes_42 ?_
  refine lv_iload_n hx hb dX5_comes_45 rfl (lv_at hl 0 rfl) ?_
  refine x_iconst hx hb dX5_comes_46 ?_
  refine x_callS (As := [.int (iI ((n : Nat) : Int)), .int (iI 3)]) (rest := [.ref (r 1)]) ⟨hx, hb, hml, hown, hts⟩ (kX5_at n 3 ) (va_cwS 2 hts gX5_comes_X5_at rfl rfl rfl ykSX5_at ⟨Nat.le_of_ble_eq_true rfl, Nat.le_of_ble_eq_true rfl⟩) hP hK hD hS [] rfl (by decide) (fun _ => rfl) (fun _ => wRo r ik tn j ++ (wA cI (r 1) 100 (va_up (va_up (va_up T (cx n 0) kd) (cx n 1) (-1)) (cx n 2) 50))) (fun _ => rfl) rfl hl.1 rfl (Nat.le_of_ble_eq_true rfl) dX5_comes_47 ⟨Nat.le_of_ble_eq_true rfl, Nat.le_of_ble_eq_true rfl⟩ (fun _ H locs _ hP hD hS => ?_)
  refine W.eq (g2 := F0 m 50 ls [.int (iI ((cx n 3 : Nat) : Int)), .ref (r 1)]) rfl ?_
  refine x_iconst hx hb dX5_comes_50 ?_
  refine x_iast hx hb hK hP hD hS 1 0 rfl rfl (cx n 3) rfl (cx_lt1 (by omega) (by omega)) (by decide) (wRo r ik tn j ++ (wA cI (r 1) 100 (va_up (va_up (va_up (va_up T (cx n 0) kd) (cx n 1) (-1)) (cx n 2) 50) (cx n 3) 0))) (by rw [← wA_up cI (r 1) 100 (va_up (va_up (va_up T (cx n 0) kd) (cx n 1) (-1)) (cx n 2) 50) 0 (cx n 3) (cx_lt1 (by omega) (by omega))]; rfl) dX5_comes_51 (fun H locs hP hD hS => ?_)
  refine x_iconst hx hb dX5_comes_52 ?_
  refine lv_istore_n (lv' := [(3, .int (iI 0)), (2, .int (iI ((n : Nat) : Int))), (0, .ref (r 0)), (1, .int (iI kd))]) hx hb dX5_comes_53 rfl hl (by decide) rfl (fun ls hl => ?_)
  have L54 : ∀ (k t : Nat) (Tt : Tb) (H : Heap) (locs : List Loc) (ls : Array Slot), t + k = 6 → (run (fun (t : Nat) (S : Tb) => va_up S (cx n (4 + t)) 0) k t Tt = run (fun (t : Nat) (S : Tb) => va_up S (cx n (4 + t)) 0) 6 0 (va_up (va_up (va_up (va_up T (cx n 0) kd) (cx n 1) (-1)) (cx n 2) 50) (cx n 3) 0)) → (Tt 0 = T 0) → va_P D vwCl (wRo r ik tn j ++ (wA cI (r 1) 100 Tt)) H → va_D A (wRo r ik tn j ++ (wA cI (r 1) 100 Tt)) → va_S A s.heap H locs → lv_has ls 4 [(0, .ref (r 0)), (1, .int (iI kd)), (2, .int (iI ((n : Nat) : Int))), (3, .int (iI ((t : Nat) : Int)))] → W pg l e { frames := 1, cells := 0, slots := 0, locals := 21 } s m args below meth c H locs 0 0 Q (F0 m 54 ls []) := by
    intro k
    induction k with
    | zero =>
      intro t Tt H locs ls hkt hr h0 hP hD hS hl
      refine lv_iload_n hx hb dX5_comes_54 rfl (lv_at hl 3 rfl) ?_
      refine x_bipush hx hb dX5_comes_55 (by decide) ?_
      refine x_icmp_ge (tgt := 79) hx hb (by omega) (by decide) dX5_comes_57 (by decide) (fun c_57 => ?_) (fun c_57 => ?_)
      · refine lv_aload_n hx hb dX5_comes_79 rfl (lv_at hl 0 rfl) ?_
        refine va_get (D := D) (ci := 4) (v := .ref (r 1)) (C := RX5) (T := TX5) (N := 18) hx hb hts (iT_X5_comes_X5) hown hK hP 0 rfl rfl 0 (by decide) (hts (.fieldLink RX5 7 "WordSupperModel" "s" "[I") (by decide +kernel)) (fun _ h9 => h9) rfl dX5_comes_80 ?_
        refine x_iconst hx hb dX5_comes_83 ?_
        refine lv_dup2_11 hx hb dX5_comes_84 rfl rfl ?_
        refine x_iald hx hb hK hP 1 0 rfl rfl 0 rfl (by omega) (by decide) (Tt 0) (gd_at _ (by omega)) dX5_comes_85 ?_
        refine x_iconst hx hb dX5_comes_86 ?_
        refine x_iadd hx hb dX5_comes_87 ?_
        refine x_iast hx hb hK hP hD hS 1 0 rfl rfl 0 rfl (by omega) (by decide) (wRo r ik tn j ++ (wA cI (r 1) 100 (va_up Tt 0 ((Tt 0) + 1)))) (by rw [← wA_up cI (r 1) 100 Tt ((Tt 0) + 1) 0 (by omega)]; rfl) dX5_comes_88 (fun H locs hP hD hS => ?_)
        exact kend (va_up Tt 0 ((Tt 0) + 1)) hP hS rfl (by rw [h0, ← st_e, ← hr]; rfl) dX5_comes_89
      · exfalso; omega
    | succ k ih =>
      intro t Tt H locs ls hkt hr h0 hP hD hS hl
      refine lv_iload_n hx hb dX5_comes_54 rfl (lv_at hl 3 rfl) ?_
      refine x_bipush hx hb dX5_comes_55 (by decide) ?_
      refine x_icmp_ge (tgt := 79) hx hb (by omega) (by decide) dX5_comes_57 (by decide) (fun c_57 => ?_) (fun c_57 => ?_)
      · exfalso; omega
      · refine lv_aload_n hx hb dX5_comes_60 rfl (lv_at hl 0 rfl) ?_
        refine va_get (D := D) (ci := 4) (v := .ref (r 1)) (C := RX5) (T := TX5) (N := 18) hx hb hts (iT_X5_comes_X5) hown hK hP 0 rfl rfl 0 (by decide) (hts (.fieldLink RX5 7 "WordSupperModel" "s" "[I") (by decide +kernel)) (fun _ h9 => h9) rfl dX5_comes_61 ?_
        refine lv_iload_n hx hb dX5_comes_64 rfl (lv_at hl 2 rfl) ?_
        refine x_iconst hx hb dX5_comes_65 ?_
        refine lv_iload_n hx hb dX5_comes_66 rfl (lv_at hl 3 rfl) ?_
        refine x_iadd hx hb dX5_comes_67 ?_
        refine x_topi ((4 + t : Nat) : Int) (by omega) ?_
        refine x_callS (As := [.int (iI ((n : Nat) : Int)), .int (iI ((4 + t : Nat) : Int))]) (rest := [.ref (r 1)]) ⟨hx, hb, hml, hown, hts⟩ (kX5_at n (4 + t) ) (va_cwS 2 hts gX5_comes_X5_at rfl rfl rfl ykSX5_at ⟨Nat.le_of_ble_eq_true rfl, Nat.le_of_ble_eq_true rfl⟩) hP hK hD hS [] rfl (by decide) (fun _ => rfl) (fun _ => wRo r ik tn j ++ (wA cI (r 1) 100 Tt)) (fun _ => rfl) rfl hl.1 rfl (Nat.le_of_ble_eq_true rfl) dX5_comes_68 ⟨Nat.le_of_ble_eq_true rfl, Nat.le_of_ble_eq_true rfl⟩ (fun _ H locs _ hP hD hS => ?_)
        refine W.eq (g2 := F0 m 71 ls [.int (iI ((cx n (4 + t) : Nat) : Int)), .ref (r 1)]) rfl ?_
        refine x_iconst hx hb dX5_comes_71 ?_
        refine x_iast hx hb hK hP hD hS 1 0 rfl rfl (cx n (4 + t)) rfl (cx_lt1 (by omega) (by omega)) (by decide) (wRo r ik tn j ++ (wA cI (r 1) 100 (va_up Tt (cx n (4 + t)) 0))) (by rw [← wA_up cI (r 1) 100 Tt 0 (cx n (4 + t)) (cx_lt1 (by omega) (by omega))]; rfl) dX5_comes_72 (fun H locs hP hD hS => ?_)
        refine x_iinc hx hb 3 ((t + 1 : Nat) : Int) (by omega) [(3, .int (iI ((t + 1 : Nat) : Int))), (0, .ref (r 0)), (1, .int (iI kd)), (2, .int (iI ((n : Nat) : Int)))] dX5_comes_73 hl rfl (by decide) rfl (fun ls hl => ?_)
        refine lv_goto (tgt := 54) hx hb dX5_comes_76 (by decide) ?_
        exact ih (t + 1) (va_up Tt (cx n (4 + t)) 0) _ _ _ (by omega) hr (by rw [up_lo _ _ (by omega)]; exact h0) hP hD hS (lv_sub hl [1, 2, 3, 0] rfl)
  exact L54 6 0 (va_up (va_up (va_up (va_up T (cx n 0) kd) (cx n 1) (-1)) (cx n 2) 50) (cx n 3) 0) _ _ _ (by omega) rfl (by rw [up_lo _ _ (by omega), up_lo _ _ (by omega), up_lo _ _ (by omega), up_lo _ _ (by omega)]) hP hD hS (lv_sub hl [2, 3, 1, 0] rfl)
theorem ykSX5_orNone : yX5_orNone.cls ≠ "java/lang/invoke/MethodHandle" ∧ yX5_orNone.cls ≠ "java/lang/invoke/VarHandle" ∧ (parseMethodDescriptor yX5_orNone.desc).map (fun d => d.parameters.length) = some 1 := by decide +kernel
theorem ykVX5_orNone : yX5_orNone.cls = RX5 ∧ yX5_orNone.cls ≠ "java/lang/invoke/MethodHandle" ∧ yX5_orNone.cls ≠ "java/lang/invoke/VarHandle" ∧ (parseMethodDescriptor yX5_orNone.desc).map (fun d => d.parameters.length) = some 1 := ⟨rfl, ykSX5_orNone⟩
set_option maxHeartbeats 4000000 in
set_option maxRecDepth 100000 in
theorem kX5_orNone {l : Launch} {D : va_G} {cI cB : ClassId} (r : Nat → Nat) (ik : Int) (tn : Int) (j : Nat → Int) (F : Nat → Int) (v : Int) (hv : rI v) : Ct l yX5_orNone wsX5_orNone 1 21 D [(cI, .int), (cB, .byte)] [.ref (r 0), .int (iI v)] (wRo r ik tn j ++ (wA cI (r 5) 8 (fR F))) (S := (Nat → Int) × Int) (fun u => some (.int (iI u.2))) (fun u => (u.2, u.1) = noF v F) (fun u => wRo r ik tn j ++ (wA cI (r 5) 8 (fR u.1))) := by
  refine CtI.of (cc := cX5_orNone) (maxL := 2) (by decide +kernel) rfl (Nat.le_of_ble_eq_true rfl) ?_
  intro pg e s m args below meth c Q A hx hb hml hts hown hP hK hD hS ls hl kend
  have hown : s.vm.findClass RX5 = some m.cls := hown
  have hl : lv_has ls 2 [(0, .ref (r 0)), (1, .int (iI v))] := hl
  refine lv_iload_n hx hb dX5_orNone_0 rfl (lv_at hl 1 rfl) ?_
  refine x_if_ge (tgt := 13) hx hb (by omega) dX5_orNone_1 (by decide) (fun c_1 => ?_) (fun c_1 => ?_)
  · refine lv_iload_n hx hb dX5_orNone_13 rfl (lv_at hl 1 rfl) ?_
    exact kend (F, v) hP hS rfl (if_pos (by omega)).symm dX5_orNone_14
  · refine lv_aload_n hx hb dX5_orNone_4 rfl (lv_at hl 0 rfl) ?_
    refine x_ldc hx hb (-1000004) rfl hown (hts (.constant RX5 38 (-1000004)) (by decide +kernel)) dX5_orNone_5 ?_
    refine x_callV (As := [.int (iI (-1000004))]) (rest := []) ⟨hx, hb, hml, hown, hts⟩ (kX5_finds r ik tn j F (-1000004) 3 (by omega) (by omega)) (cwV 1 hts gX5_orNone_X5_finds rfl rfl rfl ykVX5_finds ⟨Nat.le_of_ble_eq_true rfl, Nat.le_of_ble_eq_true rfl⟩) hP hK hD hS 0 4 rfl rfl rfl [0, 1] rfl (by decide) (fun _ => rfl) (fun _ => wRo r ik tn j ++ (wA cI (r 5) 8 (fR (bmp 3 F)))) (fun _ => rfl) rfl hl.1 rfl (Nat.le_of_ble_eq_true rfl) dX5_orNone_7 ⟨Nat.le_of_ble_eq_true rfl, Nat.le_of_ble_eq_true rfl⟩ (fun _ H locs _ hP hD hS => ?_)
    refine W.eq (g2 := F0 m 10 ls [.int (iI (-1000004))]) rfl ?_
    refine lv_goto (tgt := 14) hx hb dX5_orNone_10 (by decide) ?_
    exact kend ((bmp 3 F), (-1000004)) hP hS rfl (if_neg (by omega)).symm dX5_orNone_14
theorem ykSX5_may : yX5_may.cls ≠ "java/lang/invoke/MethodHandle" ∧ yX5_may.cls ≠ "java/lang/invoke/VarHandle" ∧ (parseMethodDescriptor yX5_may.desc).map (fun d => d.parameters.length) = some 3 := by decide +kernel
theorem ykVX5_may : yX5_may.cls = RX5 ∧ yX5_may.cls ≠ "java/lang/invoke/MethodHandle" ∧ yX5_may.cls ≠ "java/lang/invoke/VarHandle" ∧ (parseMethodDescriptor yX5_may.desc).map (fun d => d.parameters.length) = some 3 := ⟨rfl, ykSX5_may⟩
set_option maxHeartbeats 4000000 in
set_option maxRecDepth 100000 in
theorem kX5_may {l : Launch} {D : va_G} {cI cB : ClassId} (r : Nat → Nat) (ik : Int) (tn : Int) (j : Nat → Int) (T : Tb) (sp : Int) (wh : Int) (v : Int) (hs : rI sp) (hw : rI wh) (hv : rI v) (hn : 0 ≤ T 0 ∧ T 0 ≤ 8) : Ct l yX5_may wsX5_may 1 25 D [(cI, .int), (cB, .byte)] [.ref (r 0), .int (iI sp), .int (iI wh), .int (iI v)] (wRo r ik tn j ++ (wA cI (r 1) 100 T)) (S := Unit) (fun _ => some (.int (iI (b2 (decide (mayB T sp wh v = true)))))) (fun _ => True) (fun _ => wRo r ik tn j ++ (wA cI (r 1) 100 T)) := by
  refine CtZ.of (cc := cX5_may) (maxL := 4) (by decide +kernel) rfl (Nat.le_of_ble_eq_true rfl) ?_
  intro pg e s m args below meth c Q A hx hb hml hts hown hP hK hD hS ls hl kend
  have hown : s.vm.findClass RX5 = some m.cls := hown
  have hl : lv_has ls 4 [(0, .ref (r 0)), (1, .int (iI sp)), (2, .int (iI wh)), (3, .int (iI v))] := hl
  refine lv_iload_n hx hb dX5_may_0 rfl (lv_at hl 2 rfl) ?_
  rcases x_sw wh 0 3 with c_1 | c_1
  · refine lv_tableOut (tgt := 86) hx hb dX5_may_1 (by rw [iI_to (by omega)]; exact c_1) (by decide) ?_
    refine x_iconst hx hb dX5_may_86 ?_
    exact kend () hP hS (an_i (b2_f (by rw [mayB_i]; omega)).symm) trivial (by decide) dX5_may_87
  · obtain ⟨c_1a, c_1b⟩ := c_1
    by_cases e_1 : wh = 0
    · refine lv_tableIn (off := 31) (tgt := 32) hx hb dX5_may_1 (by rw [iI_to (by omega)]; omega) (by rw [iI_to (by omega)]; omega) (by rw [iI_to (by omega), e_1]; rfl) (by decide) ?_
      refine lv_iload_n hx hb dX5_may_32 rfl (lv_at hl 3 rfl) ?_
      refine x_i2l hx hb (by omega) dX5_may_33 ?_
      refine x_lconst hx hb 0 rfl dX5_may_34 ?_
      refine x_ldc2 hx hb 6 rfl hown (hts (.constantLong RX5 62 (6)) (by decide +kernel)) dX5_may_35 ?_
      refine x_callS (As := [.long (lI v), .long (lI 0), .long (lI 6)]) (rest := []) ⟨hx, hb, hml, hown, hts⟩ (kX5_isIn v 0 6 (by omega) (by decide) (by decide)) (va_cwS 3 hts gX5_may_X5_isIn rfl rfl rfl ykSX5_isIn ⟨Nat.le_of_ble_eq_true rfl, Nat.le_of_ble_eq_true rfl⟩) hP hK hD hS [] rfl (by decide) (fun _ => rfl) (fun _ => wRo r ik tn j ++ (wA cI (r 1) 100 T)) (fun _ => rfl) rfl hl.1 rfl (Nat.le_of_ble_eq_true rfl) dX5_may_38 ⟨Nat.le_of_ble_eq_true rfl, Nat.le_of_ble_eq_true rfl⟩ (fun _ H locs _ hP hD hS => ?_)
      refine W.eq (g2 := F0 m 41 ls [.int (iI (b2 (decide (0 ≤ v ∧ v ≤ 6))))]) rfl ?_
      exact kend () hP hS (an_i (b2_c (by rw [mayB_i]; omega))) trivial (b2_01 _) dX5_may_41
    by_cases e_1 : wh = 1
    · refine lv_tableIn (off := 41) (tgt := 42) hx hb dX5_may_1 (by rw [iI_to (by omega)]; omega) (by rw [iI_to (by omega)]; omega) (by rw [iI_to (by omega), e_1]; rfl) (by decide) ?_
      refine lv_iload_n hx hb dX5_may_42 rfl (lv_at hl 3 rfl) ?_
      refine x_iconst hx hb dX5_may_43 ?_
      refine x_icmp_eq (tgt := 60) hx hb (by omega) (by decide) dX5_may_44 (by decide) (fun c_44 => ?_) (fun c_44 => ?_)
      · refine x_iconst hx hb dX5_may_60 ?_
        refine lv_goto (tgt := 65) hx hb dX5_may_61 (by decide) ?_
        exact kend () hP hS (an_i (b2_t (by rw [mayB_i]; omega)).symm) trivial (by decide) dX5_may_65
      · refine lv_aload_n hx hb dX5_may_47 rfl (lv_at hl 0 rfl) ?_
        refine lv_iload_n hx hb dX5_may_48 rfl (lv_at hl 3 rfl) ?_
        refine x_callV (As := [.int (iI v)]) (rest := []) ⟨hx, hb, hml, hown, hts⟩ (kX5_isOne r ik tn j T v (by omega) (by omega)) (cwV 1 hts gX5_may_X5_isOne rfl rfl rfl ykVX5_isOne ⟨Nat.le_of_ble_eq_true rfl, Nat.le_of_ble_eq_true rfl⟩) hP hK hD hS 0 4 rfl rfl rfl [0, 1] rfl (by decide) (fun _ => rfl) (fun _ => wRo r ik tn j ++ (wA cI (r 1) 100 T)) (fun _ => rfl) rfl hl.1 rfl (Nat.le_of_ble_eq_true rfl) dX5_may_49 ⟨Nat.le_of_ble_eq_true rfl, Nat.le_of_ble_eq_true rfl⟩ (fun _ H locs _ hP hD hS => ?_)
        refine W.eq (g2 := F0 m 52 ls [.int (iI (b2 (decide (0 ≤ v ∧ v < T 0))))]) rfl ?_
        refine x_ifb_eq (tgt := 64) hx hb dX5_may_52 (by decide) (fun c_52 => ?_) (fun c_52 => ?_)
        · refine x_iconst hx hb dX5_may_64 ?_
          exact kend () hP hS (an_i (b2_f (by rw [mayB_i]; omega)).symm) trivial (by decide) dX5_may_65
        · refine lv_iload_n hx hb dX5_may_55 rfl (lv_at hl 3 rfl) ?_
          refine lv_iload_n hx hb dX5_may_56 rfl (lv_at hl 1 rfl) ?_
          refine x_icmp_eq (tgt := 64) hx hb (by omega) (by omega) dX5_may_57 (by decide) (fun c_57 => ?_) (fun c_57 => ?_)
          · refine x_iconst hx hb dX5_may_64 ?_
            exact kend () hP hS (an_i (b2_f (by rw [mayB_i]; omega)).symm) trivial (by decide) dX5_may_65
          · refine x_iconst hx hb dX5_may_60 ?_
            refine lv_goto (tgt := 65) hx hb dX5_may_61 (by decide) ?_
            exact kend () hP hS (an_i (b2_t (by rw [mayB_i]; omega)).symm) trivial (by decide) dX5_may_65
    by_cases e_1 : wh = 2
    · refine lv_tableIn (off := 65) (tgt := 66) hx hb dX5_may_1 (by rw [iI_to (by omega)]; omega) (by rw [iI_to (by omega)]; omega) (by rw [iI_to (by omega), e_1]; rfl) (by decide) ?_
      refine lv_iload_n hx hb dX5_may_66 rfl (lv_at hl 3 rfl) ?_
      refine x_i2l hx hb (by omega) dX5_may_67 ?_
      refine x_lconst hx hb 0 rfl dX5_may_68 ?_
      refine x_ldc2 hx hb 99 rfl hown (hts (.constantLong RX5 87 (99)) (by decide +kernel)) dX5_may_69 ?_
      refine x_callS (As := [.long (lI v), .long (lI 0), .long (lI 99)]) (rest := []) ⟨hx, hb, hml, hown, hts⟩ (kX5_isIn v 0 99 (by omega) (by decide) (by decide)) (va_cwS 3 hts gX5_may_X5_isIn rfl rfl rfl ykSX5_isIn ⟨Nat.le_of_ble_eq_true rfl, Nat.le_of_ble_eq_true rfl⟩) hP hK hD hS [] rfl (by decide) (fun _ => rfl) (fun _ => wRo r ik tn j ++ (wA cI (r 1) 100 T)) (fun _ => rfl) rfl hl.1 rfl (Nat.le_of_ble_eq_true rfl) dX5_may_72 ⟨Nat.le_of_ble_eq_true rfl, Nat.le_of_ble_eq_true rfl⟩ (fun _ H locs _ hP hD hS => ?_)
      refine W.eq (g2 := F0 m 75 ls [.int (iI (b2 (decide (0 ≤ v ∧ v ≤ 99))))]) rfl ?_
      exact kend () hP hS (an_i (b2_c (by rw [mayB_i]; omega))) trivial (b2_01 _) dX5_may_75
    have e_1 : wh = 3 := by omega
    refine lv_tableIn (off := 75) (tgt := 76) hx hb dX5_may_1 (by rw [iI_to (by omega)]; omega) (by rw [iI_to (by omega)]; omega) (by rw [iI_to (by omega), e_1]; rfl) (by decide) ?_
    refine lv_iload_n hx hb dX5_may_76 rfl (lv_at hl 3 rfl) ?_
    refine x_i2l hx hb (by omega) dX5_may_77 ?_
    refine x_lconst hx hb 0 rfl dX5_may_78 ?_
    refine x_ldc2 hx hb 99999 rfl hown (hts (.constantLong RX5 89 (99999)) (by decide +kernel)) dX5_may_79 ?_
    refine x_callS (As := [.long (lI v), .long (lI 0), .long (lI 99999)]) (rest := []) ⟨hx, hb, hml, hown, hts⟩ (kX5_isIn v 0 99999 (by omega) (by decide) (by decide)) (va_cwS 3 hts gX5_may_X5_isIn rfl rfl rfl ykSX5_isIn ⟨Nat.le_of_ble_eq_true rfl, Nat.le_of_ble_eq_true rfl⟩) hP hK hD hS [] rfl (by decide) (fun _ => rfl) (fun _ => wRo r ik tn j ++ (wA cI (r 1) 100 T)) (fun _ => rfl) rfl hl.1 rfl (Nat.le_of_ble_eq_true rfl) dX5_may_82 ⟨Nat.le_of_ble_eq_true rfl, Nat.le_of_ble_eq_true rfl⟩ (fun _ H locs _ hP hD hS => ?_)
    refine W.eq (g2 := F0 m 85 ls [.int (iI (b2 (decide (0 ≤ v ∧ v ≤ 99999))))]) rfl ?_
    exact kend () hP hS (an_i (b2_c (by rw [mayB_i]; omega))) trivial (b2_01 _) dX5_may_85
theorem ykSX5_isAsked : yX5_isAsked.cls ≠ "java/lang/invoke/MethodHandle" ∧ yX5_isAsked.cls ≠ "java/lang/invoke/VarHandle" ∧ (parseMethodDescriptor yX5_isAsked.desc).map (fun d => d.parameters.length) = some 2 := by decide +kernel
theorem ykVX5_isAsked : yX5_isAsked.cls = RX5 ∧ yX5_isAsked.cls ≠ "java/lang/invoke/MethodHandle" ∧ yX5_isAsked.cls ≠ "java/lang/invoke/VarHandle" ∧ (parseMethodDescriptor yX5_isAsked.desc).map (fun d => d.parameters.length) = some 2 := ⟨rfl, ykSX5_isAsked⟩
set_option maxHeartbeats 4000000 in
set_option maxRecDepth 100000 in
theorem kX5_isAsked {l : Launch} {D : va_G} {cI cB : ClassId} (r : Nat → Nat) (ik : Int) (tn : Int) (j : Nat → Int) (T : Tb) (sp : Int) (n : Int) (hs : rI sp) (hn0 : rI n) (hn : 0 ≤ T 0 ∧ T 0 ≤ 8) : Ct l yX5_isAsked wsX5_isAsked 1 25 D [(cI, .int), (cB, .byte)] [.ref (r 0), .int (iI sp), .int (iI n)] (wRo r ik tn j ++ (wA cI (r 1) 100 T)) (S := Unit) (fun _ => some (.int (iI (b2 (decide ((0 ≤ sp ∧ sp < T 0) ∧ (0 ≤ n ∧ n ≤ 40))))))) (fun _ => True) (fun _ => wRo r ik tn j ++ (wA cI (r 1) 100 T)) := by
  refine CtZ.of (cc := cX5_isAsked) (maxL := 3) (by decide +kernel) rfl (Nat.le_of_ble_eq_true rfl) ?_
  intro pg e s m args below meth c Q A hx hb hml hts hown hP hK hD hS ls hl kend
  have hown : s.vm.findClass RX5 = some m.cls := hown
  have hl : lv_has ls 3 [(0, .ref (r 0)), (1, .int (iI sp)), (2, .int (iI n))] := hl
  refine lv_aload_n hx hb dX5_isAsked_0 rfl (lv_at hl 0 rfl) ?_
  refine lv_iload_n hx hb dX5_isAsked_1 rfl (lv_at hl 1 rfl) ?_
  refine x_callV (As := [.int (iI sp)]) (rest := []) ⟨hx, hb, hml, hown, hts⟩ (kX5_isOne r ik tn j T sp (by omega) (by omega)) (cwV 1 hts gX5_isAsked_X5_isOne rfl rfl rfl ykVX5_isOne ⟨Nat.le_of_ble_eq_true rfl, Nat.le_of_ble_eq_true rfl⟩) hP hK hD hS 0 4 rfl rfl rfl [0, 1] rfl (by decide) (fun _ => rfl) (fun _ => wRo r ik tn j ++ (wA cI (r 1) 100 T)) (fun _ => rfl) rfl hl.1 rfl (Nat.le_of_ble_eq_true rfl) dX5_isAsked_2 ⟨Nat.le_of_ble_eq_true rfl, Nat.le_of_ble_eq_true rfl⟩ (fun _ H locs _ hP hD hS => ?_)
  refine W.eq (g2 := F0 m 5 ls [.int (iI (b2 (decide (0 ≤ sp ∧ sp < T 0))))]) rfl ?_
  refine x_ifb_eq (tgt := 24) hx hb dX5_isAsked_5 (by decide) (fun c_5 => ?_) (fun c_5 => ?_)
  · refine x_iconst hx hb dX5_isAsked_24 ?_
    exact kend () hP hS (an_i (b2_f (by omega)).symm) trivial (by decide) dX5_isAsked_25
  · refine lv_iload_n hx hb dX5_isAsked_8 rfl (lv_at hl 2 rfl) ?_
    refine x_i2l hx hb (by omega) dX5_isAsked_9 ?_
    refine x_lconst hx hb 0 rfl dX5_isAsked_10 ?_
    refine x_ldc2 hx hb 40 rfl hown (hts (.constantLong RX5 162 (40)) (by decide +kernel)) dX5_isAsked_11 ?_
    refine x_callS (As := [.long (lI n), .long (lI 0), .long (lI 40)]) (rest := []) ⟨hx, hb, hml, hown, hts⟩ (kX5_isIn n 0 40 (by omega) (by decide) (by decide)) (va_cwS 3 hts gX5_isAsked_X5_isIn rfl rfl rfl ykSX5_isIn ⟨Nat.le_of_ble_eq_true rfl, Nat.le_of_ble_eq_true rfl⟩) hP hK hD hS [] rfl (by decide) (fun _ => rfl) (fun _ => wRo r ik tn j ++ (wA cI (r 1) 100 T)) (fun _ => rfl) rfl hl.1 rfl (Nat.le_of_ble_eq_true rfl) dX5_isAsked_14 ⟨Nat.le_of_ble_eq_true rfl, Nat.le_of_ble_eq_true rfl⟩ (fun _ H locs _ hP hD hS => ?_)
    refine W.eq (g2 := F0 m 17 ls [.int (iI (b2 (decide (0 ≤ n ∧ n ≤ 40))))]) rfl ?_
    refine x_ifb_eq (tgt := 24) hx hb dX5_isAsked_17 (by decide) (fun c_17 => ?_) (fun c_17 => ?_)
    · refine x_iconst hx hb dX5_isAsked_24 ?_
      exact kend () hP hS (an_i (b2_f (by omega)).symm) trivial (by decide) dX5_isAsked_25
    · refine x_iconst hx hb dX5_isAsked_20 ?_
      refine lv_goto (tgt := 25) hx hb dX5_isAsked_21 (by decide) ?_
      exact kend () hP hS (an_i (b2_t (by omega)).symm) trivial (by decide) dX5_isAsked_25
theorem ykSX5_then : yX5_then.cls ≠ "java/lang/invoke/MethodHandle" ∧ yX5_then.cls ≠ "java/lang/invoke/VarHandle" ∧ (parseMethodDescriptor yX5_then.desc).map (fun d => d.parameters.length) = some 3 := by decide +kernel
theorem ykVX5_then : yX5_then.cls = RX5 ∧ yX5_then.cls ≠ "java/lang/invoke/MethodHandle" ∧ yX5_then.cls ≠ "java/lang/invoke/VarHandle" ∧ (parseMethodDescriptor yX5_then.desc).map (fun d => d.parameters.length) = some 3 := ⟨rfl, ykSX5_then⟩
set_option maxRecDepth 20000 in
theorem iT_X5_then_X5 : ∀ w ∈ u_ws RX5 TX5 18, w ∈ wsX5_then := by decide +kernel
set_option maxHeartbeats 4000000 in
set_option maxRecDepth 100000 in
theorem kX5_then {l : Launch} {D : va_G} {cI cB : ClassId} (r : Nat → Nat) (ik : Int) (tn : Int) (j : Nat → Int) (T : Tb) (Y : Tb) (p : Nat) (wh : Nat) (n : Nat) (B : Int) (hI : Inv B T) (hp : (p : Int) < T 0) (hw : wh < 10) (hnn : n ≤ 1000) (hB : B + n ≤ 99999) : Ct l yX5_then wsX5_then 6 133 D [(cI, .int), (cB, .byte)] [.ref (r 0), .int (iI ((p : Nat) : Int)), .int (iI ((wh : Nat) : Int)), .int (iI ((n : Nat) : Int))] (wRo r ik tn j ++ (wA cI (r 1) 100 T ++ (wA cI (r 4) 100 Y))) (S := (Nat → Int)) (fun u => some (.int (iI (thF T p wh n)))) (fun u => True) (fun u => wRo r ik tn u ++ (wA cI (r 1) 100 T ++ (wA cI (r 4) 100 T))) := by
  refine CtI.of (cc := cX5_then) (maxL := 5) (by decide +kernel) rfl (Nat.le_of_ble_eq_true rfl) ?_
  intro pg e s m args below meth c Q A hx hb hml hts hown hP hK hD hS ls hl kend
  have hown : s.vm.findClass RX5 = some m.cls := hown
  have hl : lv_has ls 5 [(0, .ref (r 0)), (1, .int (iI ((p : Nat) : Int))), (2, .int (iI ((wh : Nat) : Int))), (3, .int (iI ((n : Nat) : Int)))] := hl
  have hn := Inv_n hI
  refine lv_aload_n hx hb dX5_then_0 rfl (lv_at hl 0 rfl) ?_
  refine va_get (D := D) (ci := 4) (v := .ref (r 1)) (C := RX5) (T := TX5) (N := 18) hx hb hts (iT_X5_then_X5) hown hK hP 0 rfl rfl 0 (by decide) (hts (.fieldLink RX5 7 "WordSupperModel" "s" "[I") (by decide +kernel)) (fun _ h9 => h9) rfl dX5_then_1 ?_
  refine lv_aload_n hx hb dX5_then_4 rfl (lv_at hl 0 rfl) ?_
  refine va_get (D := D) (ci := 4) (v := .ref (r 4)) (C := RX5) (T := TX5) (N := 18) hx hb hts (iT_X5_then_X5) hown hK hP 0 rfl rfl 3 (by decide) (hts (.fieldLink RX5 19 "WordSupperModel" "aside" "[I") (by decide +kernel)) (fun _ h9 => h9) rfl dX5_then_5 ?_
  refine x_callS (As := [.ref (r 1), .ref (r 4)]) (rest := []) ⟨hx, hb, hml, hown, hts⟩ (kX5_copyRow (r 1) T (r 4) Y ) (va_cwS 2 hts gX5_then_X5_copyRow rfl rfl rfl ykSX5_copyRow ⟨Nat.le_of_ble_eq_true rfl, Nat.le_of_ble_eq_true rfl⟩) hP hK hD hS [1, 2] rfl (by decide) (fun _ => rfl) (fun _ => wRo r ik tn j ++ (wA cI (r 1) 100 T ++ (wA cI (r 4) 100 T))) (fun _ => rfl) rfl hl.1 rfl (Nat.le_of_ble_eq_true rfl) dX5_then_8 ⟨Nat.le_of_ble_eq_true rfl, Nat.le_of_ble_eq_true rfl⟩ (fun _ H locs _ hP hD hS => ?_)
  refine W.eq (g2 := F0 m 11 ls []) rfl ?_
  refine lv_aload_n hx hb dX5_then_11 rfl (lv_at hl 0 rfl) ?_
  refine lv_iload_n hx hb dX5_then_12 rfl (lv_at hl 3 rfl) ?_
  refine x_callV (As := [.int (iI ((n : Nat) : Int))]) (rest := []) ⟨hx, hb, hml, hown, hts⟩ (kX5_goes r ik tn j T n B (by omega) (by omega) (by omega)) (cwV 1 hts gX5_then_X5_goes rfl rfl rfl ykVX5_goes ⟨Nat.le_of_ble_eq_true rfl, Nat.le_of_ble_eq_true rfl⟩) hP hK hD hS 0 4 rfl rfl rfl [0, 1] rfl (by decide) (fun _ => rfl) (fun u => wRo r ik tn u.2 ++ (wA cI (r 1) 100 u.1 ++ (wA cI (r 4) 100 T))) (fun _ => rfl) rfl hl.1 rfl (Nat.le_of_ble_eq_true rfl) dX5_then_13 ⟨Nat.le_of_ble_eq_true rfl, Nat.le_of_ble_eq_true rfl⟩ (fun u3 H locs hp4 hP hD hS => ?_)
  obtain ⟨T11, j12⟩ := u3
  replace hp4 : T11 = dsF 0 n T := hp4
  have hP : va_P D vwCl (wRo r ik tn j12 ++ (wA cI (r 1) 100 T11 ++ (wA cI (r 4) 100 T))) H := hP
  have hD : va_D A (wRo r ik tn j12 ++ (wA cI (r 1) 100 T11 ++ (wA cI (r 4) 100 T))) := hD
  refine W.eq (g2 := F0 m 16 ls []) rfl ?_
  refine lv_iload_n hx hb dX5_then_16 rfl (lv_at hl 2 rfl) ?_
  refine x_iconst hx hb dX5_then_17 ?_
  refine x_icmp_ne (tgt := 29) hx hb (by omega) (by decide) dX5_then_18 (by decide) (fun c_18 => ?_) (fun c_18 => ?_)
  · refine lv_aload_n hx hb dX5_then_29 rfl (lv_at hl 0 rfl) ?_
    refine lv_iload_n hx hb dX5_then_30 rfl (lv_at hl 1 rfl) ?_
    refine lv_iload_n hx hb dX5_then_31 rfl (lv_at hl 2 rfl) ?_
    refine x_callV (As := [.int (iI ((p : Nat) : Int)), .int (iI ((wh : Nat) : Int))]) (rest := []) ⟨hx, hb, hml, hown, hts⟩ (kX5_its r ik tn j12 T11 p wh (by omega) (by omega)) (cwV 2 hts gX5_then_X5_its rfl rfl rfl ykVX5_its ⟨Nat.le_of_ble_eq_true rfl, Nat.le_of_ble_eq_true rfl⟩) hP hK hD hS 0 4 rfl rfl rfl [0, 1] rfl (by decide) (fun _ => rfl) (fun _ => wRo r ik tn j12 ++ (wA cI (r 1) 100 T11 ++ (wA cI (r 4) 100 T))) (fun _ => rfl) rfl hl.1 rfl (Nat.le_of_ble_eq_true rfl) dX5_then_32 ⟨Nat.le_of_ble_eq_true rfl, Nat.le_of_ble_eq_true rfl⟩ (fun _ H locs _ hP hD hS => ?_)
    refine W.eq (g2 := F0 m 35 ls [.int (iI (T11 (cx p wh)))]) rfl ?_
    refine lv_istore (lv' := [(4, .int (iI (T11 (cx p wh)))), (0, .ref (r 0)), (1, .int (iI ((p : Nat) : Int))), (2, .int (iI ((wh : Nat) : Int))), (3, .int (iI ((n : Nat) : Int)))]) hx hb dX5_then_35 hl (by decide) rfl (fun ls hl => ?_)
    refine lv_aload_n hx hb dX5_then_37 rfl (lv_at hl 1 rfl) ?_
    refine va_get (D := D) (ci := 4) (v := .ref (r 4)) (C := RX5) (T := TX5) (N := 18) hx hb hts (iT_X5_then_X5) hown hK hP 0 rfl rfl 3 (by decide) (hts (.fieldLink RX5 19 "WordSupperModel" "aside" "[I") (by decide +kernel)) (fun _ h9 => h9) rfl dX5_then_38 ?_
    refine lv_aload_n hx hb dX5_then_41 rfl (lv_at hl 1 rfl) ?_
    refine va_get (D := D) (ci := 4) (v := .ref (r 1)) (C := RX5) (T := TX5) (N := 18) hx hb hts (iT_X5_then_X5) hown hK hP 0 rfl rfl 0 (by decide) (hts (.fieldLink RX5 7 "WordSupperModel" "s" "[I") (by decide +kernel)) (fun _ h9 => h9) rfl dX5_then_42 ?_
    refine x_callS (As := [.ref (r 4), .ref (r 1)]) (rest := []) ⟨hx, hb, hml, hown, hts⟩ (kX5_copyRow (r 4) T (r 1) T11 ) (va_cwS 2 hts gX5_then_X5_copyRow rfl rfl rfl ykSX5_copyRow ⟨Nat.le_of_ble_eq_true rfl, Nat.le_of_ble_eq_true rfl⟩) hP hK hD hS [2, 1] rfl (by decide) (fun _ => rfl) (fun _ => wRo r ik tn j12 ++ (wA cI (r 1) 100 T ++ (wA cI (r 4) 100 T))) (fun _ => rfl) rfl hl.1 rfl (Nat.le_of_ble_eq_true rfl) dX5_then_45 ⟨Nat.le_of_ble_eq_true rfl, Nat.le_of_ble_eq_true rfl⟩ (fun _ H locs _ hP hD hS => ?_)
    refine W.eq (g2 := F0 m 48 ls []) rfl ?_
    refine lv_iload hx hb dX5_then_48 (lv_at hl 0 rfl) ?_
    exact kend j12 hP hS (an_i (by unfold thF; rw [if_neg (by omega), hp4])) trivial dX5_then_50
  · refine lv_aload_n hx hb dX5_then_21 rfl (lv_at hl 0 rfl) ?_
    refine lv_iload_n hx hb dX5_then_22 rfl (lv_at hl 1 rfl) ?_
    refine x_callV (As := [.int (iI ((p : Nat) : Int))]) (rest := []) ⟨hx, hb, hml, hown, hts⟩ (kX5_left r ik tn j12 T11 p (by omega)) (cwV 1 hts gX5_then_X5_left rfl rfl rfl ykVX5_left ⟨Nat.le_of_ble_eq_true rfl, Nat.le_of_ble_eq_true rfl⟩) hP hK hD hS 0 4 rfl rfl rfl [0, 1] rfl (by decide) (fun _ => rfl) (fun _ => wRo r ik tn j12 ++ (wA cI (r 1) 100 T11 ++ (wA cI (r 4) 100 T))) (fun _ => rfl) rfl hl.1 rfl (Nat.le_of_ble_eq_true rfl) dX5_then_23 ⟨Nat.le_of_ble_eq_true rfl, Nat.le_of_ble_eq_true rfl⟩ (fun _ H locs _ hP hD hS => ?_)
    refine W.eq (g2 := F0 m 26 ls [.int (iI (lfF T11 p))]) rfl ?_
    refine lv_goto (tgt := 35) hx hb dX5_then_26 (by decide) ?_
    refine lv_istore (lv' := [(4, .int (iI (lfF T11 p))), (0, .ref (r 0)), (1, .int (iI ((p : Nat) : Int))), (2, .int (iI ((wh : Nat) : Int))), (3, .int (iI ((n : Nat) : Int)))]) hx hb dX5_then_35 hl (by decide) rfl (fun ls hl => ?_)
    refine lv_aload_n hx hb dX5_then_37 rfl (lv_at hl 1 rfl) ?_
    refine va_get (D := D) (ci := 4) (v := .ref (r 4)) (C := RX5) (T := TX5) (N := 18) hx hb hts (iT_X5_then_X5) hown hK hP 0 rfl rfl 3 (by decide) (hts (.fieldLink RX5 19 "WordSupperModel" "aside" "[I") (by decide +kernel)) (fun _ h9 => h9) rfl dX5_then_38 ?_
    refine lv_aload_n hx hb dX5_then_41 rfl (lv_at hl 1 rfl) ?_
    refine va_get (D := D) (ci := 4) (v := .ref (r 1)) (C := RX5) (T := TX5) (N := 18) hx hb hts (iT_X5_then_X5) hown hK hP 0 rfl rfl 0 (by decide) (hts (.fieldLink RX5 7 "WordSupperModel" "s" "[I") (by decide +kernel)) (fun _ h9 => h9) rfl dX5_then_42 ?_
    refine x_callS (As := [.ref (r 4), .ref (r 1)]) (rest := []) ⟨hx, hb, hml, hown, hts⟩ (kX5_copyRow (r 4) T (r 1) T11 ) (va_cwS 2 hts gX5_then_X5_copyRow rfl rfl rfl ykSX5_copyRow ⟨Nat.le_of_ble_eq_true rfl, Nat.le_of_ble_eq_true rfl⟩) hP hK hD hS [2, 1] rfl (by decide) (fun _ => rfl) (fun _ => wRo r ik tn j12 ++ (wA cI (r 1) 100 T ++ (wA cI (r 4) 100 T))) (fun _ => rfl) rfl hl.1 rfl (Nat.le_of_ble_eq_true rfl) dX5_then_45 ⟨Nat.le_of_ble_eq_true rfl, Nat.le_of_ble_eq_true rfl⟩ (fun _ H locs _ hP hD hS => ?_)
    refine W.eq (g2 := F0 m 48 ls []) rfl ?_
    refine lv_iload hx hb dX5_then_48 (lv_at hl 0 rfl) ?_
    exact kend j12 hP hS (an_i (by unfold thF; rw [if_pos (by omega), hp4])) trivial dX5_then_50
theorem ykSX5_leftThen : yX5_leftThen.cls ≠ "java/lang/invoke/MethodHandle" ∧ yX5_leftThen.cls ≠ "java/lang/invoke/VarHandle" ∧ (parseMethodDescriptor yX5_leftThen.desc).map (fun d => d.parameters.length) = some 1 := by decide +kernel
theorem ykVX5_leftThen : yX5_leftThen.cls = RX5 ∧ yX5_leftThen.cls ≠ "java/lang/invoke/MethodHandle" ∧ yX5_leftThen.cls ≠ "java/lang/invoke/VarHandle" ∧ (parseMethodDescriptor yX5_leftThen.desc).map (fun d => d.parameters.length) = some 1 := ⟨rfl, ykSX5_leftThen⟩
set_option maxRecDepth 20000 in
theorem iT_X5_leftThen_X5 : ∀ w ∈ u_ws RX5 TX5 18, w ∈ wsX5_leftThen := by decide +kernel
set_option maxHeartbeats 4000000 in
set_option maxRecDepth 100000 in
theorem kX5_leftThen {l : Launch} {D : va_G} {cI cB : ClassId} (r : Nat → Nat) (ik : Int) (tn : Int) (j : Nat → Int) (T : Tb) (Y : Tb) (n : Nat) (B : Int) (hI : Inv B T) (hnn : n ≤ 1000) (hB : B + n ≤ 99999) : Ct l yX5_leftThen wsX5_leftThen 6 133 D [(cI, .int), (cB, .byte)] [.ref (r 0), .int (iI ((n : Nat) : Int))] (wRo r ik tn j ++ (wA cI (r 1) 100 T ++ (wA cI (r 4) 100 Y))) (S := (Nat → Int)) (fun u => some (.int (iI (alF (dsF 0 n T))))) (fun u => True) (fun u => wRo r ik tn u ++ (wA cI (r 1) 100 T ++ (wA cI (r 4) 100 T))) := by
  refine CtI.of (cc := cX5_leftThen) (maxL := 3) (by decide +kernel) rfl (Nat.le_of_ble_eq_true rfl) ?_
  intro pg e s m args below meth c Q A hx hb hml hts hown hP hK hD hS ls hl kend
  have hown : s.vm.findClass RX5 = some m.cls := hown
  have hl : lv_has ls 3 [(0, .ref (r 0)), (1, .int (iI ((n : Nat) : Int)))] := hl
  have hn := Inv_n hI
  refine lv_aload_n hx hb dX5_leftThen_0 rfl (lv_at hl 0 rfl) ?_
  refine va_get (D := D) (ci := 4) (v := .ref (r 1)) (C := RX5) (T := TX5) (N := 18) hx hb hts (iT_X5_leftThen_X5) hown hK hP 0 rfl rfl 0 (by decide) (hts (.fieldLink RX5 7 "WordSupperModel" "s" "[I") (by decide +kernel)) (fun _ h9 => h9) rfl dX5_leftThen_1 ?_
  refine lv_aload_n hx hb dX5_leftThen_4 rfl (lv_at hl 0 rfl) ?_
  refine va_get (D := D) (ci := 4) (v := .ref (r 4)) (C := RX5) (T := TX5) (N := 18) hx hb hts (iT_X5_leftThen_X5) hown hK hP 0 rfl rfl 3 (by decide) (hts (.fieldLink RX5 19 "WordSupperModel" "aside" "[I") (by decide +kernel)) (fun _ h9 => h9) rfl dX5_leftThen_5 ?_
  refine x_callS (As := [.ref (r 1), .ref (r 4)]) (rest := []) ⟨hx, hb, hml, hown, hts⟩ (kX5_copyRow (r 1) T (r 4) Y ) (va_cwS 2 hts gX5_leftThen_X5_copyRow rfl rfl rfl ykSX5_copyRow ⟨Nat.le_of_ble_eq_true rfl, Nat.le_of_ble_eq_true rfl⟩) hP hK hD hS [1, 2] rfl (by decide) (fun _ => rfl) (fun _ => wRo r ik tn j ++ (wA cI (r 1) 100 T ++ (wA cI (r 4) 100 T))) (fun _ => rfl) rfl hl.1 rfl (Nat.le_of_ble_eq_true rfl) dX5_leftThen_8 ⟨Nat.le_of_ble_eq_true rfl, Nat.le_of_ble_eq_true rfl⟩ (fun _ H locs _ hP hD hS => ?_)
  refine W.eq (g2 := F0 m 11 ls []) rfl ?_
  refine lv_aload_n hx hb dX5_leftThen_11 rfl (lv_at hl 0 rfl) ?_
  refine lv_iload_n hx hb dX5_leftThen_12 rfl (lv_at hl 1 rfl) ?_
  refine x_callV (As := [.int (iI ((n : Nat) : Int))]) (rest := []) ⟨hx, hb, hml, hown, hts⟩ (kX5_goes r ik tn j T n B (by omega) (by omega) (by omega)) (cwV 1 hts gX5_leftThen_X5_goes rfl rfl rfl ykVX5_goes ⟨Nat.le_of_ble_eq_true rfl, Nat.le_of_ble_eq_true rfl⟩) hP hK hD hS 0 4 rfl rfl rfl [0, 1] rfl (by decide) (fun _ => rfl) (fun u => wRo r ik tn u.2 ++ (wA cI (r 1) 100 u.1 ++ (wA cI (r 4) 100 T))) (fun _ => rfl) rfl hl.1 rfl (Nat.le_of_ble_eq_true rfl) dX5_leftThen_13 ⟨Nat.le_of_ble_eq_true rfl, Nat.le_of_ble_eq_true rfl⟩ (fun u3 H locs hp4 hP hD hS => ?_)
  obtain ⟨T11, j12⟩ := u3
  replace hp4 : T11 = dsF 0 n T := hp4
  have hP : va_P D vwCl (wRo r ik tn j12 ++ (wA cI (r 1) 100 T11 ++ (wA cI (r 4) 100 T))) H := hP
  have hD : va_D A (wRo r ik tn j12 ++ (wA cI (r 1) 100 T11 ++ (wA cI (r 4) 100 T))) := hD
  refine W.eq (g2 := F0 m 16 ls []) rfl ?_
  have hn1 : 0 ≤ T11 0 ∧ T11 0 ≤ 8 := by rw [hp4, (dsF_I n hI).2.1]; exact hn
  refine lv_aload_n hx hb dX5_leftThen_16 rfl (lv_at hl 0 rfl) ?_
  refine x_callV (As := []) (rest := []) ⟨hx, hb, hml, hown, hts⟩ (kX5_leftAll r ik tn j12 T11 hn1) (cwV 0 hts gX5_leftThen_X5_leftAll rfl rfl rfl ykVX5_leftAll ⟨Nat.le_of_ble_eq_true rfl, Nat.le_of_ble_eq_true rfl⟩) hP hK hD hS 0 4 rfl rfl rfl [0, 1] rfl (by decide) (fun _ => rfl) (fun _ => wRo r ik tn j12 ++ (wA cI (r 1) 100 T11 ++ (wA cI (r 4) 100 T))) (fun _ => rfl) rfl hl.1 rfl (Nat.le_of_ble_eq_true rfl) dX5_leftThen_17 ⟨Nat.le_of_ble_eq_true rfl, Nat.le_of_ble_eq_true rfl⟩ (fun _ H locs _ hP hD hS => ?_)
  refine W.eq (g2 := F0 m 20 ls [.int (iI (alF T11))]) rfl ?_
  refine lv_istore_n (lv' := [(2, .int (iI (alF T11))), (0, .ref (r 0)), (1, .int (iI ((n : Nat) : Int)))]) hx hb dX5_leftThen_20 rfl hl (by decide) rfl (fun ls hl => ?_)
  refine lv_aload_n hx hb dX5_leftThen_21 rfl (lv_at hl 1 rfl) ?_
  refine va_get (D := D) (ci := 4) (v := .ref (r 4)) (C := RX5) (T := TX5) (N := 18) hx hb hts (iT_X5_leftThen_X5) hown hK hP 0 rfl rfl 3 (by decide) (hts (.fieldLink RX5 19 "WordSupperModel" "aside" "[I") (by decide +kernel)) (fun _ h9 => h9) rfl dX5_leftThen_22 ?_
  refine lv_aload_n hx hb dX5_leftThen_25 rfl (lv_at hl 1 rfl) ?_
  refine va_get (D := D) (ci := 4) (v := .ref (r 1)) (C := RX5) (T := TX5) (N := 18) hx hb hts (iT_X5_leftThen_X5) hown hK hP 0 rfl rfl 0 (by decide) (hts (.fieldLink RX5 7 "WordSupperModel" "s" "[I") (by decide +kernel)) (fun _ h9 => h9) rfl dX5_leftThen_26 ?_
  refine x_callS (As := [.ref (r 4), .ref (r 1)]) (rest := []) ⟨hx, hb, hml, hown, hts⟩ (kX5_copyRow (r 4) T (r 1) T11 ) (va_cwS 2 hts gX5_leftThen_X5_copyRow rfl rfl rfl ykSX5_copyRow ⟨Nat.le_of_ble_eq_true rfl, Nat.le_of_ble_eq_true rfl⟩) hP hK hD hS [2, 1] rfl (by decide) (fun _ => rfl) (fun _ => wRo r ik tn j12 ++ (wA cI (r 1) 100 T ++ (wA cI (r 4) 100 T))) (fun _ => rfl) rfl hl.1 rfl (Nat.le_of_ble_eq_true rfl) dX5_leftThen_29 ⟨Nat.le_of_ble_eq_true rfl, Nat.le_of_ble_eq_true rfl⟩ (fun _ H locs _ hP hD hS => ?_)
  refine W.eq (g2 := F0 m 32 ls []) rfl ?_
  refine lv_iload_n hx hb dX5_leftThen_32 rfl (lv_at hl 0 rfl) ?_
  exact kend j12 hP hS (an_i (by rw [hp4])) trivial dX5_leftThen_33
theorem ykSX5_exchange : yX5_exchange.cls ≠ "java/lang/invoke/MethodHandle" ∧ yX5_exchange.cls ≠ "java/lang/invoke/VarHandle" ∧ (parseMethodDescriptor yX5_exchange.desc).map (fun d => d.parameters.length) = some 2 := by decide +kernel
theorem ykVX5_exchange : yX5_exchange.cls = RX5 ∧ yX5_exchange.cls ≠ "java/lang/invoke/MethodHandle" ∧ yX5_exchange.cls ≠ "java/lang/invoke/VarHandle" ∧ (parseMethodDescriptor yX5_exchange.desc).map (fun d => d.parameters.length) = some 2 := ⟨rfl, ykSX5_exchange⟩
set_option maxRecDepth 20000 in
theorem iT_X5_exchange_X5 : ∀ w ∈ u_ws RX5 TX5 18, w ∈ wsX5_exchange := by decide +kernel
set_option maxHeartbeats 4000000 in
set_option maxRecDepth 100000 in
theorem kX5_exchange {l : Launch} {D : va_G} {cI cB : ClassId} (r : Nat → Nat) (ik : Int) (tn : Int) (j : Nat → Int) (T : Tb) (a0 : Nat) (c0 : Nat) (ha : a0 < 8) (hc : c0 < 8) (hac : a0 ≠ c0) : Ct l yX5_exchange wsX5_exchange 1 23 D [(cI, .int), (cB, .byte)] [.ref (r 0), .int (iI ((a0 : Nat) : Int)), .int (iI ((c0 : Nat) : Int))] (wRo r ik tn j ++ (wA cI (r 1) 100 T)) (S := Tb) (fun u => none) (fun u => u = exF a0 c0 T) (fun u => wRo r ik tn j ++ (wA cI (r 1) 100 u)) := by
  refine CtV.of (cc := cX5_exchange) (maxL := 4) (by decide +kernel) rfl (Nat.le_of_ble_eq_true rfl) ?_
  intro pg e s m args below meth c Q A hx hb hml hts hown hP hK hD hS ls hl kend
  have hown : s.vm.findClass RX5 = some m.cls := hown
  have hl : lv_has ls 4 [(0, .ref (r 0)), (1, .int (iI ((a0 : Nat) : Int))), (2, .int (iI ((c0 : Nat) : Int)))] := hl
  refine x_iconst hx hb dX5_exchange_0 ?_
  refine lv_istore_n (lv' := [(3, .int (iI 0)), (0, .ref (r 0)), (1, .int (iI ((a0 : Nat) : Int))), (2, .int (iI ((c0 : Nat) : Int)))]) hx hb dX5_exchange_1 rfl hl (by decide) rfl (fun ls hl => ?_)
  have L2 : ∀ (k t : Nat) (Tt : Tb) (H : Heap) (locs : List Loc) (ls : Array Slot), t + k = 6 → (run (fun (t : Nat) (S : Tb) => va_up (va_up S (cx a0 (4 + t)) (S (cx c0 (4 + t)))) (cx c0 (4 + t)) (S (cx a0 (4 + t)))) k t Tt = exF a0 c0 T) → va_P D vwCl (wRo r ik tn j ++ (wA cI (r 1) 100 Tt)) H → va_D A (wRo r ik tn j ++ (wA cI (r 1) 100 Tt)) → va_S A s.heap H locs → lv_has ls 4 [(0, .ref (r 0)), (1, .int (iI ((a0 : Nat) : Int))), (2, .int (iI ((c0 : Nat) : Int))), (3, .int (iI ((t : Nat) : Int)))] → W pg l e { frames := 1, cells := 0, slots := 0, locals := 23 } s m args below meth c H locs 0 0 Q (F0 m 2 ls []) := by
    intro k
    induction k with
    | zero =>
      intro t Tt H locs ls hkt hr hP hD hS hl
      refine lv_iload_n hx hb dX5_exchange_2 rfl (lv_at hl 3 rfl) ?_
      refine x_bipush hx hb dX5_exchange_3 (by decide) ?_
      refine x_icmp_ge (tgt := 45) hx hb (by omega) (by decide) dX5_exchange_5 (by decide) (fun c_5 => ?_) (fun c_5 => ?_)
      · exact kend Tt hP hS rfl hr dX5_exchange_45
      · exfalso; omega
    | succ k ih =>
      intro t Tt H locs ls hkt hr hP hD hS hl
      refine lv_iload_n hx hb dX5_exchange_2 rfl (lv_at hl 3 rfl) ?_
      refine x_bipush hx hb dX5_exchange_3 (by decide) ?_
      refine x_icmp_ge (tgt := 45) hx hb (by omega) (by decide) dX5_exchange_5 (by decide) (fun c_5 => ?_) (fun c_5 => ?_)
      · exfalso; omega
      · refine lv_aload_n hx hb dX5_exchange_8 rfl (lv_at hl 0 rfl) ?_
        refine va_get (D := D) (ci := 4) (v := .ref (r 1)) (C := RX5) (T := TX5) (N := 18) hx hb hts (iT_X5_exchange_X5) hown hK hP 0 rfl rfl 0 (by decide) (hts (.fieldLink RX5 7 "WordSupperModel" "s" "[I") (by decide +kernel)) (fun _ h9 => h9) rfl dX5_exchange_9 ?_
        refine lv_iload_n hx hb dX5_exchange_12 rfl (lv_at hl 1 rfl) ?_
        refine x_iconst hx hb dX5_exchange_13 ?_
        refine lv_iload_n hx hb dX5_exchange_14 rfl (lv_at hl 3 rfl) ?_
        refine x_iadd hx hb dX5_exchange_15 ?_
        refine x_topi ((4 + t : Nat) : Int) (by omega) ?_
        refine x_callS (As := [.int (iI ((a0 : Nat) : Int)), .int (iI ((4 + t : Nat) : Int))]) (rest := [.ref (r 1)]) ⟨hx, hb, hml, hown, hts⟩ (kX5_at a0 (4 + t) ) (va_cwS 2 hts gX5_exchange_X5_at rfl rfl rfl ykSX5_at ⟨Nat.le_of_ble_eq_true rfl, Nat.le_of_ble_eq_true rfl⟩) hP hK hD hS [] rfl (by decide) (fun _ => rfl) (fun _ => wRo r ik tn j ++ (wA cI (r 1) 100 Tt)) (fun _ => rfl) rfl hl.1 rfl (Nat.le_of_ble_eq_true rfl) dX5_exchange_16 ⟨Nat.le_of_ble_eq_true rfl, Nat.le_of_ble_eq_true rfl⟩ (fun _ H locs _ hP hD hS => ?_)
        refine W.eq (g2 := F0 m 19 ls [.int (iI ((cx a0 (4 + t) : Nat) : Int)), .ref (r 1)]) rfl ?_
        refine lv_aload_n hx hb dX5_exchange_19 rfl (lv_at hl 0 rfl) ?_
        refine lv_iload_n hx hb dX5_exchange_20 rfl (lv_at hl 2 rfl) ?_
        refine x_iconst hx hb dX5_exchange_21 ?_
        refine lv_iload_n hx hb dX5_exchange_22 rfl (lv_at hl 3 rfl) ?_
        refine x_iadd hx hb dX5_exchange_23 ?_
        refine x_topi ((4 + t : Nat) : Int) (by omega) ?_
        refine x_callS (As := [.int (iI ((c0 : Nat) : Int)), .int (iI ((4 + t : Nat) : Int))]) (rest := [.ref (r 0), .int (iI ((cx a0 (4 + t) : Nat) : Int)), .ref (r 1)]) ⟨hx, hb, hml, hown, hts⟩ (kX5_at c0 (4 + t) ) (va_cwS 2 hts gX5_exchange_X5_at rfl rfl rfl ykSX5_at ⟨Nat.le_of_ble_eq_true rfl, Nat.le_of_ble_eq_true rfl⟩) hP hK hD hS [] rfl (by decide) (fun _ => rfl) (fun _ => wRo r ik tn j ++ (wA cI (r 1) 100 Tt)) (fun _ => rfl) rfl hl.1 rfl (Nat.le_of_ble_eq_true rfl) dX5_exchange_24 ⟨Nat.le_of_ble_eq_true rfl, Nat.le_of_ble_eq_true rfl⟩ (fun _ H locs _ hP hD hS => ?_)
        refine W.eq (g2 := F0 m 27 ls [.int (iI ((cx c0 (4 + t) : Nat) : Int)), .ref (r 0), .int (iI ((cx a0 (4 + t) : Nat) : Int)), .ref (r 1)]) rfl ?_
        refine lv_aload_n hx hb dX5_exchange_27 rfl (lv_at hl 0 rfl) ?_
        refine lv_iload_n hx hb dX5_exchange_28 rfl (lv_at hl 1 rfl) ?_
        refine x_iconst hx hb dX5_exchange_29 ?_
        refine lv_iload_n hx hb dX5_exchange_30 rfl (lv_at hl 3 rfl) ?_
        refine x_iadd hx hb dX5_exchange_31 ?_
        refine x_topi ((4 + t : Nat) : Int) (by omega) ?_
        refine x_callV (As := [.int (iI ((a0 : Nat) : Int)), .int (iI ((4 + t : Nat) : Int))]) (rest := [.int (iI ((cx c0 (4 + t) : Nat) : Int)), .ref (r 0), .int (iI ((cx a0 (4 + t) : Nat) : Int)), .ref (r 1)]) ⟨hx, hb, hml, hown, hts⟩ (kX5_its r ik tn j Tt a0 (4 + t) (by omega) (by omega)) (cwV 2 hts gX5_exchange_X5_its rfl rfl rfl ykVX5_its ⟨Nat.le_of_ble_eq_true rfl, Nat.le_of_ble_eq_true rfl⟩) hP hK hD hS 0 4 rfl rfl rfl [0, 1] rfl (by decide) (fun _ => rfl) (fun _ => wRo r ik tn j ++ (wA cI (r 1) 100 Tt)) (fun _ => rfl) rfl hl.1 rfl (Nat.le_of_ble_eq_true rfl) dX5_exchange_32 ⟨Nat.le_of_ble_eq_true rfl, Nat.le_of_ble_eq_true rfl⟩ (fun _ H locs _ hP hD hS => ?_)
        refine W.eq (g2 := F0 m 35 ls [.int (iI (Tt (cx a0 (4 + t)))), .int (iI ((cx c0 (4 + t) : Nat) : Int)), .ref (r 0), .int (iI ((cx a0 (4 + t) : Nat) : Int)), .ref (r 1)]) rfl ?_
        refine x_callV (As := [.int (iI ((cx c0 (4 + t) : Nat) : Int)), .int (iI (Tt (cx a0 (4 + t))))]) (rest := [.int (iI ((cx a0 (4 + t) : Nat) : Int)), .ref (r 1)]) ⟨hx, hb, hml, hown, hts⟩ (kX5_becomes r ik tn j Tt (cx c0 (4 + t)) (Tt (cx a0 (4 + t))) (cx_lt1 (by omega) (by omega))) (cwV 2 hts gX5_exchange_X5_becomes rfl rfl rfl ykVX5_becomes ⟨Nat.le_of_ble_eq_true rfl, Nat.le_of_ble_eq_true rfl⟩) hP hK hD hS 0 4 rfl rfl rfl [0, 1] rfl (by decide) (fun _ => rfl) (fun _ => wRo r ik tn j ++ (wA cI (r 1) 100 (va_up Tt (cx c0 (4 + t)) (Tt (cx a0 (4 + t)))))) (fun _ => rfl) rfl hl.1 rfl (Nat.le_of_ble_eq_true rfl) dX5_exchange_35 ⟨Nat.le_of_ble_eq_true rfl, Nat.le_of_ble_eq_true rfl⟩ (fun _ H locs _ hP hD hS => ?_)
        refine W.eq (g2 := F0 m 38 ls [.int (iI (Tt (cx c0 (4 + t)))), .int (iI ((cx a0 (4 + t) : Nat) : Int)), .ref (r 1)]) rfl ?_
        refine x_iast hx hb hK hP hD hS 1 0 rfl rfl (cx a0 (4 + t)) rfl (cx_lt1 (by omega) (by omega)) (by decide) (wRo r ik tn j ++ (wA cI (r 1) 100 (va_up (va_up Tt (cx c0 (4 + t)) (Tt (cx a0 (4 + t)))) (cx a0 (4 + t)) (Tt (cx c0 (4 + t)))))) (by rw [← wA_up cI (r 1) 100 (va_up Tt (cx c0 (4 + t)) (Tt (cx a0 (4 + t)))) (Tt (cx c0 (4 + t))) (cx a0 (4 + t)) (cx_lt1 (by omega) (by omega))]; rfl) dX5_exchange_38 (fun H locs hP hD hS => ?_)
        refine x_iinc hx hb 3 ((t + 1 : Nat) : Int) (by omega) [(3, .int (iI ((t + 1 : Nat) : Int))), (0, .ref (r 0)), (1, .int (iI ((a0 : Nat) : Int))), (2, .int (iI ((c0 : Nat) : Int)))] dX5_exchange_39 hl rfl (by decide) rfl (fun ls hl => ?_)
        refine lv_goto (tgt := 2) hx hb dX5_exchange_42 (by decide) ?_
        exact ih (t + 1) (va_up (va_up Tt (cx c0 (4 + t)) (Tt (cx a0 (4 + t)))) (cx a0 (4 + t)) (Tt (cx c0 (4 + t)))) _ _ _ (by omega) (run_step hr (ex_st _ hac (by omega))) hP hD hS (lv_sub hl [1, 2, 3, 0] rfl)
  exact L2 6 0 T _ _ _ (by omega) rfl hP hD hS (lv_sub hl [1, 2, 3, 0] rfl)
theorem ykSX5_draw : yX5_draw.cls ≠ "java/lang/invoke/MethodHandle" ∧ yX5_draw.cls ≠ "java/lang/invoke/VarHandle" ∧ (parseMethodDescriptor yX5_draw.desc).map (fun d => d.parameters.length) = some 0 := by decide +kernel
theorem ykVX5_draw : yX5_draw.cls = RX5 ∧ yX5_draw.cls ≠ "java/lang/invoke/MethodHandle" ∧ yX5_draw.cls ≠ "java/lang/invoke/VarHandle" ∧ (parseMethodDescriptor yX5_draw.desc).map (fun d => d.parameters.length) = some 0 := ⟨rfl, ykSX5_draw⟩
set_option maxRecDepth 20000 in
theorem iT_X5_draw_X5 : ∀ w ∈ u_ws RX5 TX5 18, w ∈ wsX5_draw := by decide +kernel
set_option maxHeartbeats 4000000 in
set_option maxRecDepth 100000 in
theorem kX5_draw {l : Launch} {D : va_G} {cI cB : ClassId} (r : Nat → Nat) (ik : Int) (tn : Int) (j : Nat → Int) (T : Tb) : Ct l yX5_draw wsX5_draw 0 0 D [(cI, .int), (cB, .byte)] [.ref (r 0)] (wRo r ik tn j ++ (wA cI (r 1) 100 T)) (S := Unit) (fun _ => some (.int (iI (ushrI (drF T 2) 8)))) (fun _ => True) (fun _ => wRo r ik tn j ++ (wA cI (r 1) 100 (drF T))) := by
  refine CtI.of (cc := cX5_draw) (maxL := 1) (by decide +kernel) rfl (Nat.le_of_ble_eq_true rfl) ?_
  intro pg e s m args below meth c Q A hx hb hml hts hown hP hK hD hS ls hl kend
  have hown : s.vm.findClass RX5 = some m.cls := hown
  have hl : lv_has ls 1 [(0, .ref (r 0))] := hl
  refine lv_aload_n hx hb dX5_draw_0 rfl (lv_at hl 0 rfl) ?_
  refine va_get (D := D) (ci := 4) (v := .ref (r 1)) (C := RX5) (T := TX5) (N := 18) hx hb hts (iT_X5_draw_X5) hown hK hP 0 rfl rfl 0 (by decide) (hts (.fieldLink RX5 7 "WordSupperModel" "s" "[I") (by decide +kernel)) (fun _ h9 => h9) rfl dX5_draw_1 ?_
  refine x_iconst hx hb dX5_draw_4 ?_
  refine lv_aload_n hx hb dX5_draw_5 rfl (lv_at hl 0 rfl) ?_
  refine va_get (D := D) (ci := 4) (v := .ref (r 1)) (C := RX5) (T := TX5) (N := 18) hx hb hts (iT_X5_draw_X5) hown hK hP 0 rfl rfl 0 (by decide) (hts (.fieldLink RX5 7 "WordSupperModel" "s" "[I") (by decide +kernel)) (fun _ h9 => h9) rfl dX5_draw_6 ?_
  refine x_iconst hx hb dX5_draw_9 ?_
  refine x_iald hx hb hK hP 1 0 rfl rfl 2 rfl (by omega) (by decide) (T 2) (gd_at _ (by omega)) dX5_draw_10 ?_
  refine x_ldc hx hb 1103515245 rfl hown (hts (.constant RX5 191 (1103515245)) (by decide +kernel)) dX5_draw_11 ?_
  refine x_imul hx hb dX5_draw_13 ?_
  refine x_sipush hx hb dX5_draw_14 (by decide) ?_
  refine x_iadd hx hb dX5_draw_17 ?_
  refine x_iast hx hb hK hP hD hS 1 0 rfl rfl 2 rfl (by omega) (by decide) (wRo r ik tn j ++ (wA cI (r 1) 100 (va_up T 2 (((T 2) * 1103515245) + 12345)))) (by rw [← wA_up cI (r 1) 100 T (((T 2) * 1103515245) + 12345) 2 (by omega)]; rfl) dX5_draw_18 (fun H locs hP hD hS => ?_)
  refine lv_aload_n hx hb dX5_draw_19 rfl (lv_at hl 0 rfl) ?_
  refine va_get (D := D) (ci := 4) (v := .ref (r 1)) (C := RX5) (T := TX5) (N := 18) hx hb hts (iT_X5_draw_X5) hown hK hP 0 rfl rfl 0 (by decide) (hts (.fieldLink RX5 7 "WordSupperModel" "s" "[I") (by decide +kernel)) (fun _ h9 => h9) rfl dX5_draw_20 ?_
  refine x_iconst hx hb dX5_draw_23 ?_
  refine x_iald hx hb hK hP 1 0 rfl rfl 2 rfl (by omega) (by decide) ((va_up T 2 (((T 2) * 1103515245) + 12345)) 2) (gd_at _ (by omega)) dX5_draw_24 ?_
  refine x_bipush hx hb dX5_draw_25 (by decide) ?_
  refine x_iushr hx hb dX5_draw_27 ?_
  exact kend () hP hS (an_i (by unfold drF; rfl)) trivial dX5_draw_28
theorem ykSX5_isTold : yX5_isTold.cls ≠ "java/lang/invoke/MethodHandle" ∧ yX5_isTold.cls ≠ "java/lang/invoke/VarHandle" ∧ (parseMethodDescriptor yX5_isTold.desc).map (fun d => d.parameters.length) = some 2 := by decide +kernel
theorem ykVX5_isTold : yX5_isTold.cls = RX5 ∧ yX5_isTold.cls ≠ "java/lang/invoke/MethodHandle" ∧ yX5_isTold.cls ≠ "java/lang/invoke/VarHandle" ∧ (parseMethodDescriptor yX5_isTold.desc).map (fun d => d.parameters.length) = some 2 := ⟨rfl, ykSX5_isTold⟩
set_option maxRecDepth 20000 in
theorem iT_X5_isTold_X5 : ∀ w ∈ u_ws RX5 TX5 18, w ∈ wsX5_isTold := by decide +kernel
set_option maxHeartbeats 4000000 in
set_option maxRecDepth 100000 in
theorem kX5_isTold {l : Launch} {D : va_G} {cI cB : ClassId} (r : Nat → Nat) (ik : Int) (tn : Int) (j : Nat → Int) (T : Tb) (Y : Tb) (SS : Nat → Int) (SN : Nat → Int) (t0 : Nat) (p : Nat) (B : Int) (hI : Inv B T) (hB : B ≤ 90000) (hp : (p : Int) < T 0) (ht0 : t0 < 4) (hSS : ∀ i : Nat, i < 4 → 0 ≤ SS i ∧ SS i ≤ 40) (hSN : ∀ i : Nat, i < 160 → rI (SN i)) : Ct l yX5_isTold wsX5_isTold 5 111 D [(cI, .int), (cB, .byte)] [.ref (r 0), .int (iI ((t0 : Nat) : Int)), .int (iI ((p : Nat) : Int))] (wRo r ik tn j ++ (wA cI (r 1) 100 T ++ (wA cI (r 4) 100 Y ++ (wA cI (r 8) 4 SS ++ (wA cI (r 9) 160 SN))))) (S := (Nat → Int)) (fun u => some (.int (iI (b2 (decide (toF SN (40 * t0) p (SS t0).toNat 0 T = true)))))) (fun u => True) (fun u => wRo r ik tn u ++ (wA cI (r 1) 100 T ++ (wA cI (r 4) 100 T ++ (wA cI (r 8) 4 SS ++ (wA cI (r 9) 160 SN))))) := by
  refine CtZ.of (cc := cX5_isTold) (maxL := 6) (by decide +kernel) rfl (Nat.le_of_ble_eq_true rfl) ?_
  intro pg e s m args below meth c Q A hx hb hml hts hown hP hK hD hS ls hl kend
  have hown : s.vm.findClass RX5 = some m.cls := hown
  have hl : lv_has ls 6 [(0, .ref (r 0)), (1, .int (iI ((t0 : Nat) : Int))), (2, .int (iI ((p : Nat) : Int)))] := hl
  have hz := hSS t0 ht0
  have hn9 := Inv_n hI
  refine lv_aload_n hx hb dX5_isTold_0 rfl (lv_at hl 0 rfl) ?_
  refine va_get (D := D) (ci := 4) (v := .ref (r 1)) (C := RX5) (T := TX5) (N := 18) hx hb hts (iT_X5_isTold_X5) hown hK hP 0 rfl rfl 0 (by decide) (hts (.fieldLink RX5 7 "WordSupperModel" "s" "[I") (by decide +kernel)) (fun _ h9 => h9) rfl dX5_isTold_1 ?_
  refine lv_aload_n hx hb dX5_isTold_4 rfl (lv_at hl 0 rfl) ?_
  refine va_get (D := D) (ci := 4) (v := .ref (r 4)) (C := RX5) (T := TX5) (N := 18) hx hb hts (iT_X5_isTold_X5) hown hK hP 0 rfl rfl 3 (by decide) (hts (.fieldLink RX5 19 "WordSupperModel" "aside" "[I") (by decide +kernel)) (fun _ h9 => h9) rfl dX5_isTold_5 ?_
  refine x_callS (As := [.ref (r 1), .ref (r 4)]) (rest := []) ⟨hx, hb, hml, hown, hts⟩ (kX5_copyRow (r 1) T (r 4) Y ) (va_cwS 2 hts gX5_isTold_X5_copyRow rfl rfl rfl ykSX5_copyRow ⟨Nat.le_of_ble_eq_true rfl, Nat.le_of_ble_eq_true rfl⟩) hP hK hD hS [1, 2] rfl (by decide) (fun _ => rfl) (fun _ => wRo r ik tn j ++ (wA cI (r 1) 100 T ++ (wA cI (r 4) 100 T ++ (wA cI (r 8) 4 SS ++ (wA cI (r 9) 160 SN))))) (fun _ => rfl) rfl hl.1 rfl (Nat.le_of_ble_eq_true rfl) dX5_isTold_8 ⟨Nat.le_of_ble_eq_true rfl, Nat.le_of_ble_eq_true rfl⟩ (fun _ H locs _ hP hD hS => ?_)
  refine W.eq (g2 := F0 m 11 ls []) rfl ?_
  refine x_iconst hx hb dX5_isTold_11 ?_
  refine lv_istore_n (lv' := [(3, .int (iI 1)), (0, .ref (r 0)), (1, .int (iI ((t0 : Nat) : Int))), (2, .int (iI ((p : Nat) : Int)))]) hx hb dX5_isTold_12 rfl hl (by decide) rfl (fun ls hl => ?_)
  refine x_iconst hx hb dX5_isTold_13 ?_
  refine lv_istore (lv' := [(4, .int (iI 0)), (3, .int (iI 1)), (0, .ref (r 0)), (1, .int (iI ((t0 : Nat) : Int))), (2, .int (iI ((p : Nat) : Int)))]) hx hb dX5_isTold_14 hl (by decide) rfl (fun ls hl => ?_)
  have L16 : ∀ (k t : Nat) (Tt : Tb) (jt : Nat → Int) (iv : Int) (H : Heap) (locs : List Loc) (ls : Array Slot), t + k = (SS t0).toNat → ((iv = 1 ∧ toF SN (40 * t0) p k t Tt = toF SN (40 * t0) p (SS t0).toNat 0 T) ∨ (iv = 0 ∧ toF SN (40 * t0) p (SS t0).toNat 0 T = false)) → (Inv (B + (t : Int)) Tt) → (Tt 0 = T 0) → va_P D vwCl (wRo r ik tn jt ++ (wA cI (r 1) 100 Tt ++ (wA cI (r 4) 100 T ++ (wA cI (r 8) 4 SS ++ (wA cI (r 9) 160 SN))))) H → va_D A (wRo r ik tn jt ++ (wA cI (r 1) 100 Tt ++ (wA cI (r 4) 100 T ++ (wA cI (r 8) 4 SS ++ (wA cI (r 9) 160 SN))))) → va_S A s.heap H locs → lv_has ls 6 [(0, .ref (r 0)), (1, .int (iI ((t0 : Nat) : Int))), (2, .int (iI ((p : Nat) : Int))), (3, .int (iI iv)), (4, .int (iI ((t : Nat) : Int)))] → W pg l e { frames := 5, cells := 0, slots := 0, locals := 111 } s m args below meth c H locs 0 0 Q (F0 m 16 ls []) := by
    intro k
    induction k with
    | zero =>
      intro t Tt jt iv H locs ls hkt hq hi0 h0 hP hD hS hl
      refine lv_iload hx hb dX5_isTold_16 (lv_at hl 4 rfl) ?_
      refine lv_aload_n hx hb dX5_isTold_18 rfl (lv_at hl 0 rfl) ?_
      refine va_get (D := D) (ci := 4) (v := .ref (r 8)) (C := RX5) (T := TX5) (N := 18) hx hb hts (iT_X5_isTold_X5) hown hK hP 0 rfl rfl 9 (by decide) (hts (.fieldLink RX5 31 "WordSupperModel" "sizes" "[I") (by decide +kernel)) (fun _ h9 => h9) rfl dX5_isTold_19 ?_
      refine lv_iload_n hx hb dX5_isTold_22 rfl (lv_at hl 1 rfl) ?_
      refine x_iald hx hb hK hP 3 0 rfl rfl t0 rfl (by omega) (by decide) (SS t0) (gd_at _ (by omega)) dX5_isTold_23 ?_
      refine x_icmp_ge (tgt := 78) hx hb (by omega) (by omega) dX5_isTold_24 (by decide) (fun c_24 => ?_) (fun c_24 => ?_)
      · refine lv_aload_n hx hb dX5_isTold_78 rfl (lv_at hl 0 rfl) ?_
        refine va_get (D := D) (ci := 4) (v := .ref (r 4)) (C := RX5) (T := TX5) (N := 18) hx hb hts (iT_X5_isTold_X5) hown hK hP 0 rfl rfl 3 (by decide) (hts (.fieldLink RX5 19 "WordSupperModel" "aside" "[I") (by decide +kernel)) (fun _ h9 => h9) rfl dX5_isTold_79 ?_
        refine lv_aload_n hx hb dX5_isTold_82 rfl (lv_at hl 0 rfl) ?_
        refine va_get (D := D) (ci := 4) (v := .ref (r 1)) (C := RX5) (T := TX5) (N := 18) hx hb hts (iT_X5_isTold_X5) hown hK hP 0 rfl rfl 0 (by decide) (hts (.fieldLink RX5 7 "WordSupperModel" "s" "[I") (by decide +kernel)) (fun _ h9 => h9) rfl dX5_isTold_83 ?_
        refine x_callS (As := [.ref (r 4), .ref (r 1)]) (rest := []) ⟨hx, hb, hml, hown, hts⟩ (kX5_copyRow (r 4) T (r 1) Tt ) (va_cwS 2 hts gX5_isTold_X5_copyRow rfl rfl rfl ykSX5_copyRow ⟨Nat.le_of_ble_eq_true rfl, Nat.le_of_ble_eq_true rfl⟩) hP hK hD hS [2, 1] rfl (by decide) (fun _ => rfl) (fun _ => wRo r ik tn jt ++ (wA cI (r 1) 100 T ++ (wA cI (r 4) 100 T ++ (wA cI (r 8) 4 SS ++ (wA cI (r 9) 160 SN))))) (fun _ => rfl) rfl hl.1 rfl (Nat.le_of_ble_eq_true rfl) dX5_isTold_86 ⟨Nat.le_of_ble_eq_true rfl, Nat.le_of_ble_eq_true rfl⟩ (fun _ H locs _ hP hD hS => ?_)
        refine W.eq (g2 := F0 m 89 ls []) rfl ?_
        refine lv_iload_n hx hb dX5_isTold_89 rfl (lv_at hl 3 rfl) ?_
        exact kend jt hP hS (an_i (tl_e hq (Or.inl rfl))) trivial (by omega) dX5_isTold_90
      · exfalso; omega
    | succ k ih =>
      intro t Tt jt iv H locs ls hkt hq hi0 h0 hP hD hS hl
      refine lv_iload hx hb dX5_isTold_16 (lv_at hl 4 rfl) ?_
      refine lv_aload_n hx hb dX5_isTold_18 rfl (lv_at hl 0 rfl) ?_
      refine va_get (D := D) (ci := 4) (v := .ref (r 8)) (C := RX5) (T := TX5) (N := 18) hx hb hts (iT_X5_isTold_X5) hown hK hP 0 rfl rfl 9 (by decide) (hts (.fieldLink RX5 31 "WordSupperModel" "sizes" "[I") (by decide +kernel)) (fun _ h9 => h9) rfl dX5_isTold_19 ?_
      refine lv_iload_n hx hb dX5_isTold_22 rfl (lv_at hl 1 rfl) ?_
      refine x_iald hx hb hK hP 3 0 rfl rfl t0 rfl (by omega) (by decide) (SS t0) (gd_at _ (by omega)) dX5_isTold_23 ?_
      refine x_icmp_ge (tgt := 78) hx hb (by omega) (by omega) dX5_isTold_24 (by decide) (fun c_24 => ?_) (fun c_24 => ?_)
      · exfalso; omega
      · refine lv_iload_n hx hb dX5_isTold_27 rfl (lv_at hl 3 rfl) ?_
        refine x_if_eq (tgt := 78) hx hb (by omega) dX5_isTold_28 (by decide) (fun c_28 => ?_) (fun c_28 => ?_)
        · refine lv_aload_n hx hb dX5_isTold_78 rfl (lv_at hl 0 rfl) ?_
          refine va_get (D := D) (ci := 4) (v := .ref (r 4)) (C := RX5) (T := TX5) (N := 18) hx hb hts (iT_X5_isTold_X5) hown hK hP 0 rfl rfl 3 (by decide) (hts (.fieldLink RX5 19 "WordSupperModel" "aside" "[I") (by decide +kernel)) (fun _ h9 => h9) rfl dX5_isTold_79 ?_
          refine lv_aload_n hx hb dX5_isTold_82 rfl (lv_at hl 0 rfl) ?_
          refine va_get (D := D) (ci := 4) (v := .ref (r 1)) (C := RX5) (T := TX5) (N := 18) hx hb hts (iT_X5_isTold_X5) hown hK hP 0 rfl rfl 0 (by decide) (hts (.fieldLink RX5 7 "WordSupperModel" "s" "[I") (by decide +kernel)) (fun _ h9 => h9) rfl dX5_isTold_83 ?_
          refine x_callS (As := [.ref (r 4), .ref (r 1)]) (rest := []) ⟨hx, hb, hml, hown, hts⟩ (kX5_copyRow (r 4) T (r 1) Tt ) (va_cwS 2 hts gX5_isTold_X5_copyRow rfl rfl rfl ykSX5_copyRow ⟨Nat.le_of_ble_eq_true rfl, Nat.le_of_ble_eq_true rfl⟩) hP hK hD hS [2, 1] rfl (by decide) (fun _ => rfl) (fun _ => wRo r ik tn jt ++ (wA cI (r 1) 100 T ++ (wA cI (r 4) 100 T ++ (wA cI (r 8) 4 SS ++ (wA cI (r 9) 160 SN))))) (fun _ => rfl) rfl hl.1 rfl (Nat.le_of_ble_eq_true rfl) dX5_isTold_86 ⟨Nat.le_of_ble_eq_true rfl, Nat.le_of_ble_eq_true rfl⟩ (fun _ H locs _ hP hD hS => ?_)
          refine W.eq (g2 := F0 m 89 ls []) rfl ?_
          refine lv_iload_n hx hb dX5_isTold_89 rfl (lv_at hl 3 rfl) ?_
          exact kend jt hP hS (an_i (tl_e hq (Or.inr (by omega)))) trivial (by omega) dX5_isTold_90
        · refine lv_aload_n hx hb dX5_isTold_31 rfl (lv_at hl 0 rfl) ?_
          refine va_get (D := D) (ci := 4) (v := .ref (r 9)) (C := RX5) (T := TX5) (N := 18) hx hb hts (iT_X5_isTold_X5) hown hK hP 0 rfl rfl 10 (by decide) (hts (.fieldLink RX5 34 "WordSupperModel" "numbers" "[I") (by decide +kernel)) (fun _ h9 => h9) rfl dX5_isTold_32 ?_
          refine x_bipush hx hb dX5_isTold_35 (by decide) ?_
          refine lv_iload_n hx hb dX5_isTold_37 rfl (lv_at hl 1 rfl) ?_
          refine x_imul hx hb dX5_isTold_38 ?_
          refine x_topi ((40 * t0 : Nat) : Int) (by omega) ?_
          refine lv_iload hx hb dX5_isTold_39 (lv_at hl 4 rfl) ?_
          refine x_iadd hx hb dX5_isTold_41 ?_
          refine x_topi (((40 * t0) + t : Nat) : Int) (by omega) ?_
          have hq1 := hSN (40 * t0 + t) (by omega)
          have hq2 := Inv_lf (p := p) hi0 (by omega)
          refine x_iald hx hb hK hP 4 0 rfl rfl ((40 * t0) + t) rfl (by omega) (by decide) (SN ((40 * t0) + t)) (gd_at _ (by omega)) dX5_isTold_42 ?_
          refine lv_istore (lv' := [(5, .int (iI (SN ((40 * t0) + t)))), (0, .ref (r 0)), (1, .int (iI ((t0 : Nat) : Int))), (2, .int (iI ((p : Nat) : Int))), (3, .int (iI iv)), (4, .int (iI ((t : Nat) : Int)))]) hx hb dX5_isTold_43 hl (by decide) rfl (fun ls hl => ?_)
          refine lv_iload hx hb dX5_isTold_45 (lv_at hl 0 rfl) ?_
          refine x_iconst hx hb dX5_isTold_47 ?_
          refine x_icmp_eq (tgt := 61) hx hb (by omega) (by decide) dX5_isTold_48 (by decide) (fun c_48 => ?_) (fun c_48 => ?_)
          · refine x_iconst hx hb dX5_isTold_61 ?_
            refine lv_goto (tgt := 66) hx hb dX5_isTold_62 (by decide) ?_
            refine lv_istore_n (lv' := [(3, .int (iI 1)), (5, .int (iI (SN ((40 * t0) + t)))), (0, .ref (r 0)), (1, .int (iI ((t0 : Nat) : Int))), (2, .int (iI ((p : Nat) : Int))), (4, .int (iI ((t : Nat) : Int)))]) hx hb dX5_isTold_66 rfl hl (by decide) rfl (fun ls hl => ?_)
            refine lv_aload_n hx hb dX5_isTold_67 rfl (lv_at hl 2 rfl) ?_
            refine x_iconst hx hb dX5_isTold_68 ?_
            refine x_callV (As := [.int (iI 0)]) (rest := []) ⟨hx, hb, hml, hown, hts⟩ (kX5_dayBut r ik tn jt Tt 0 (B + (t : Int)) hi0 (by omega) (by decide)) (cwV 1 hts gX5_isTold_X5_dayBut rfl rfl rfl ykVX5_dayBut ⟨Nat.le_of_ble_eq_true rfl, Nat.le_of_ble_eq_true rfl⟩) hP hK hD hS 0 4 rfl rfl rfl [0, 1] rfl (by decide) (fun _ => rfl) (fun u => wRo r ik tn u.2 ++ (wA cI (r 1) 100 u.1 ++ (wA cI (r 4) 100 T ++ (wA cI (r 8) 4 SS ++ (wA cI (r 9) 160 SN))))) (fun _ => rfl) rfl hl.1 rfl (Nat.le_of_ble_eq_true rfl) dX5_isTold_69 ⟨Nat.le_of_ble_eq_true rfl, Nat.le_of_ble_eq_true rfl⟩ (fun u3 H locs hp4 hP hD hS => ?_)
            obtain ⟨T11, j12⟩ := u3
            replace hp4 : T11 = dyF 0 Tt := hp4
            have hP : va_P D vwCl (wRo r ik tn j12 ++ (wA cI (r 1) 100 T11 ++ (wA cI (r 4) 100 T ++ (wA cI (r 8) 4 SS ++ (wA cI (r 9) 160 SN))))) H := hP
            have hD : va_D A (wRo r ik tn j12 ++ (wA cI (r 1) 100 T11 ++ (wA cI (r 4) 100 T ++ (wA cI (r 8) 4 SS ++ (wA cI (r 9) 160 SN))))) := hD
            refine W.eq (g2 := F0 m 72 ls []) rfl ?_
            refine x_iinc hx hb 5 ((t + 1 : Nat) : Int) (by omega) [(4, .int (iI ((t + 1 : Nat) : Int))), (3, .int (iI 1)), (5, .int (iI (SN ((40 * t0) + t)))), (0, .ref (r 0)), (1, .int (iI ((t0 : Nat) : Int))), (2, .int (iI ((p : Nat) : Int)))] dX5_isTold_72 hl rfl (by decide) rfl (fun ls hl => ?_)
            refine lv_goto (tgt := 16) hx hb dX5_isTold_75 (by decide) ?_
            exact ih (t + 1) T11 j12 1 _ _ _ (by omega) (by rw [hp4]; exact (to_y hq c_28 (by omega))) (by rw [hp4, show B + ((t + 1 : Nat) : Int) = B + (t : Int) + 1 by omega]; exact (dyF_I hi0).1) (by rw [hp4, (dyF_I hi0).2.1]; exact h0) hP hD hS (lv_sub hl [3, 4, 5, 1, 0] rfl)
          · refine lv_iload hx hb dX5_isTold_51 (lv_at hl 0 rfl) ?_
            refine lv_aload_n hx hb dX5_isTold_53 rfl (lv_at hl 1 rfl) ?_
            refine lv_iload_n hx hb dX5_isTold_54 rfl (lv_at hl 3 rfl) ?_
            refine x_callV (As := [.int (iI ((p : Nat) : Int))]) (rest := [.int (iI (SN ((40 * t0) + t)))]) ⟨hx, hb, hml, hown, hts⟩ (kX5_left r ik tn jt Tt p (by omega)) (cwV 1 hts gX5_isTold_X5_left rfl rfl rfl ykVX5_left ⟨Nat.le_of_ble_eq_true rfl, Nat.le_of_ble_eq_true rfl⟩) hP hK hD hS 0 4 rfl rfl rfl [0, 1] rfl (by decide) (fun _ => rfl) (fun _ => wRo r ik tn jt ++ (wA cI (r 1) 100 Tt ++ (wA cI (r 4) 100 T ++ (wA cI (r 8) 4 SS ++ (wA cI (r 9) 160 SN))))) (fun _ => rfl) rfl hl.1 rfl (Nat.le_of_ble_eq_true rfl) dX5_isTold_55 ⟨Nat.le_of_ble_eq_true rfl, Nat.le_of_ble_eq_true rfl⟩ (fun _ H locs _ hP hD hS => ?_)
            refine W.eq (g2 := F0 m 58 ls [.int (iI (lfF Tt p)), .int (iI (SN ((40 * t0) + t)))]) rfl ?_
            refine x_icmp_ne (tgt := 65) hx hb (by omega) (by omega) dX5_isTold_58 (by decide) (fun c_58 => ?_) (fun c_58 => ?_)
            · refine x_iconst hx hb dX5_isTold_65 ?_
              refine lv_istore_n (lv' := [(3, .int (iI 0)), (5, .int (iI (SN ((40 * t0) + t)))), (0, .ref (r 0)), (1, .int (iI ((t0 : Nat) : Int))), (2, .int (iI ((p : Nat) : Int))), (4, .int (iI ((t : Nat) : Int)))]) hx hb dX5_isTold_66 rfl hl (by decide) rfl (fun ls hl => ?_)
              refine lv_aload_n hx hb dX5_isTold_67 rfl (lv_at hl 2 rfl) ?_
              refine x_iconst hx hb dX5_isTold_68 ?_
              refine x_callV (As := [.int (iI 0)]) (rest := []) ⟨hx, hb, hml, hown, hts⟩ (kX5_dayBut r ik tn jt Tt 0 (B + (t : Int)) hi0 (by omega) (by decide)) (cwV 1 hts gX5_isTold_X5_dayBut rfl rfl rfl ykVX5_dayBut ⟨Nat.le_of_ble_eq_true rfl, Nat.le_of_ble_eq_true rfl⟩) hP hK hD hS 0 4 rfl rfl rfl [0, 1] rfl (by decide) (fun _ => rfl) (fun u => wRo r ik tn u.2 ++ (wA cI (r 1) 100 u.1 ++ (wA cI (r 4) 100 T ++ (wA cI (r 8) 4 SS ++ (wA cI (r 9) 160 SN))))) (fun _ => rfl) rfl hl.1 rfl (Nat.le_of_ble_eq_true rfl) dX5_isTold_69 ⟨Nat.le_of_ble_eq_true rfl, Nat.le_of_ble_eq_true rfl⟩ (fun u7 H locs hp8 hP hD hS => ?_)
              obtain ⟨T15, j16⟩ := u7
              replace hp8 : T15 = dyF 0 Tt := hp8
              have hP : va_P D vwCl (wRo r ik tn j16 ++ (wA cI (r 1) 100 T15 ++ (wA cI (r 4) 100 T ++ (wA cI (r 8) 4 SS ++ (wA cI (r 9) 160 SN))))) H := hP
              have hD : va_D A (wRo r ik tn j16 ++ (wA cI (r 1) 100 T15 ++ (wA cI (r 4) 100 T ++ (wA cI (r 8) 4 SS ++ (wA cI (r 9) 160 SN))))) := hD
              refine W.eq (g2 := F0 m 72 ls []) rfl ?_
              refine x_iinc hx hb 5 ((t + 1 : Nat) : Int) (by omega) [(4, .int (iI ((t + 1 : Nat) : Int))), (3, .int (iI 0)), (5, .int (iI (SN ((40 * t0) + t)))), (0, .ref (r 0)), (1, .int (iI ((t0 : Nat) : Int))), (2, .int (iI ((p : Nat) : Int)))] dX5_isTold_72 hl rfl (by decide) rfl (fun ls hl => ?_)
              refine lv_goto (tgt := 16) hx hb dX5_isTold_75 (by decide) ?_
              exact ih (t + 1) T15 j16 0 _ _ _ (by omega) (by rw [hp8]; exact (to_n (X := toF SN (40 * t0) p k (t + 1) (dyF 0 Tt)) hq c_28 (by omega))) (by rw [hp8, show B + ((t + 1 : Nat) : Int) = B + (t : Int) + 1 by omega]; exact (dyF_I hi0).1) (by rw [hp8, (dyF_I hi0).2.1]; exact h0) hP hD hS (lv_sub hl [3, 4, 5, 1, 0] rfl)
            · refine x_iconst hx hb dX5_isTold_61 ?_
              refine lv_goto (tgt := 66) hx hb dX5_isTold_62 (by decide) ?_
              refine lv_istore_n (lv' := [(3, .int (iI 1)), (5, .int (iI (SN ((40 * t0) + t)))), (0, .ref (r 0)), (1, .int (iI ((t0 : Nat) : Int))), (2, .int (iI ((p : Nat) : Int))), (4, .int (iI ((t : Nat) : Int)))]) hx hb dX5_isTold_66 rfl hl (by decide) rfl (fun ls hl => ?_)
              refine lv_aload_n hx hb dX5_isTold_67 rfl (lv_at hl 2 rfl) ?_
              refine x_iconst hx hb dX5_isTold_68 ?_
              refine x_callV (As := [.int (iI 0)]) (rest := []) ⟨hx, hb, hml, hown, hts⟩ (kX5_dayBut r ik tn jt Tt 0 (B + (t : Int)) hi0 (by omega) (by decide)) (cwV 1 hts gX5_isTold_X5_dayBut rfl rfl rfl ykVX5_dayBut ⟨Nat.le_of_ble_eq_true rfl, Nat.le_of_ble_eq_true rfl⟩) hP hK hD hS 0 4 rfl rfl rfl [0, 1] rfl (by decide) (fun _ => rfl) (fun u => wRo r ik tn u.2 ++ (wA cI (r 1) 100 u.1 ++ (wA cI (r 4) 100 T ++ (wA cI (r 8) 4 SS ++ (wA cI (r 9) 160 SN))))) (fun _ => rfl) rfl hl.1 rfl (Nat.le_of_ble_eq_true rfl) dX5_isTold_69 ⟨Nat.le_of_ble_eq_true rfl, Nat.le_of_ble_eq_true rfl⟩ (fun u11 H locs hp12 hP hD hS => ?_)
              obtain ⟨T19, j110⟩ := u11
              replace hp12 : T19 = dyF 0 Tt := hp12
              have hP : va_P D vwCl (wRo r ik tn j110 ++ (wA cI (r 1) 100 T19 ++ (wA cI (r 4) 100 T ++ (wA cI (r 8) 4 SS ++ (wA cI (r 9) 160 SN))))) H := hP
              have hD : va_D A (wRo r ik tn j110 ++ (wA cI (r 1) 100 T19 ++ (wA cI (r 4) 100 T ++ (wA cI (r 8) 4 SS ++ (wA cI (r 9) 160 SN))))) := hD
              refine W.eq (g2 := F0 m 72 ls []) rfl ?_
              refine x_iinc hx hb 5 ((t + 1 : Nat) : Int) (by omega) [(4, .int (iI ((t + 1 : Nat) : Int))), (3, .int (iI 1)), (5, .int (iI (SN ((40 * t0) + t)))), (0, .ref (r 0)), (1, .int (iI ((t0 : Nat) : Int))), (2, .int (iI ((p : Nat) : Int)))] dX5_isTold_72 hl rfl (by decide) rfl (fun ls hl => ?_)
              refine lv_goto (tgt := 16) hx hb dX5_isTold_75 (by decide) ?_
              exact ih (t + 1) T19 j110 1 _ _ _ (by omega) (by rw [hp12]; exact (to_y hq c_28 (by omega))) (by rw [hp12, show B + ((t + 1 : Nat) : Int) = B + (t : Int) + 1 by omega]; exact (dyF_I hi0).1) (by rw [hp12, (dyF_I hi0).2.1]; exact h0) hP hD hS (lv_sub hl [3, 4, 5, 1, 0] rfl)
  exact L16 (SS t0).toNat 0 T j 1 _ _ _ (by omega) (Or.inl ⟨rfl, rfl⟩) (by simpa using hI) rfl hP hD hS (lv_sub hl [2, 3, 4, 1, 0] rfl)
theorem ykSX5_wants : yX5_wants.cls ≠ "java/lang/invoke/MethodHandle" ∧ yX5_wants.cls ≠ "java/lang/invoke/VarHandle" ∧ (parseMethodDescriptor yX5_wants.desc).map (fun d => d.parameters.length) = some 1 := by decide +kernel
theorem ykVX5_wants : yX5_wants.cls = RX5 ∧ yX5_wants.cls ≠ "java/lang/invoke/MethodHandle" ∧ yX5_wants.cls ≠ "java/lang/invoke/VarHandle" ∧ (parseMethodDescriptor yX5_wants.desc).map (fun d => d.parameters.length) = some 1 := ⟨rfl, ykSX5_wants⟩
set_option maxRecDepth 20000 in
theorem iT_X5_wants_X5 : ∀ w ∈ u_ws RX5 TX5 18, w ∈ wsX5_wants := by decide +kernel
set_option maxHeartbeats 4000000 in
set_option maxRecDepth 100000 in
theorem kX5_wants {l : Launch} {D : va_G} {cI cB : ClassId} (r : Nat → Nat) (ik : Int) (tn : Int) (j : Nat → Int) (SB : Nat → Int) (s0 : Int) (hs : rI s0) (hSB : ∀ i : Nat, i < 4 → SB i = 0 ∨ SB i = 8 ∨ SB i = 16 ∨ SB i = 32) : Ct l yX5_wants wsX5_wants 1 20 D [(cI, .int), (cB, .byte)] [.ref (r 0), .int (iI s0)] (wRo r ik tn j ++ (wA cI (r 7) 4 (bR SB))) (S := Unit) (fun _ => some (.int (iI (waF SB s0)))) (fun _ => True) (fun _ => wRo r ik tn j ++ (wA cI (r 7) 4 (bR SB))) := by
  refine CtI.of (cc := cX5_wants) (maxL := 2) (by decide +kernel) rfl (Nat.le_of_ble_eq_true rfl) ?_
  intro pg e s m args below meth c Q A hx hb hml hts hown hP hK hD hS ls hl kend
  have hown : s.vm.findClass RX5 = some m.cls := hown
  have hl : lv_has ls 2 [(0, .ref (r 0)), (1, .int (iI s0))] := hl
  refine lv_iload_n hx hb dX5_wants_0 rfl (lv_at hl 1 rfl) ?_
  refine x_callS (As := [.int (iI s0)]) (rest := []) ⟨hx, hb, hml, hown, hts⟩ (kX5_isSheet s0 (by omega)) (va_cwS 1 hts gX5_wants_X5_isSheet rfl rfl rfl ykSX5_isSheet ⟨Nat.le_of_ble_eq_true rfl, Nat.le_of_ble_eq_true rfl⟩) hP hK hD hS [] rfl (by decide) (fun _ => rfl) (fun _ => wRo r ik tn j ++ (wA cI (r 7) 4 (bR SB))) (fun _ => rfl) rfl hl.1 rfl (Nat.le_of_ble_eq_true rfl) dX5_wants_1 ⟨Nat.le_of_ble_eq_true rfl, Nat.le_of_ble_eq_true rfl⟩ (fun _ H locs _ hP hD hS => ?_)
  refine W.eq (g2 := F0 m 4 ls [.int (iI (b2 (decide (0 ≤ s0 ∧ s0 < 4))))]) rfl ?_
  refine x_ifb_ne (tgt := 12) hx hb dX5_wants_4 (by decide) (fun c_4 => ?_) (fun c_4 => ?_)
  · refine lv_aload_n hx hb dX5_wants_12 rfl (lv_at hl 0 rfl) ?_
    refine va_get (D := D) (ci := 4) (v := .ref (r 7)) (C := RX5) (T := TX5) (N := 18) hx hb hts (iT_X5_wants_X5) hown hK hP 0 rfl rfl 8 (by decide) (hts (.fieldLink RX5 28 "WordSupperModel" "bitsOf" "[I") (by decide +kernel)) (fun _ h9 => h9) rfl dX5_wants_13 ?_
    obtain ⟨s1, rfl⟩ : ∃ s1 : Nat, s0 = (s1 : Int) := ⟨s0.toNat, by omega⟩
    refine lv_iload_n hx hb dX5_wants_16 rfl (lv_at hl 1 rfl) ?_
    have hbr := bR_c SB s1
    have hv := hSB s1 (by omega)
    refine x_iald hx hb hK hP 1 0 rfl rfl s1 rfl (by omega) (by decide) ((bR SB) s1) (gd_at _ (by omega)) dX5_wants_17 ?_
    refine x_if_ge (tgt := 27) hx hb (by omega) dX5_wants_18 (by decide) (fun c_18 => ?_) (fun c_18 => ?_)
    · refine x_iconst hx hb dX5_wants_27 ?_
      exact kend () hP hS (an_i ((by unfold waF; rw [if_neg (by omega), Int.toNat_natCast, if_neg (by omega)]))) trivial dX5_wants_28
    · refine x_ldcw hx hb (-1000006) rfl hown (hts (.constant RX5 273 (-1000006)) (by decide +kernel)) dX5_wants_21 ?_
      refine lv_goto (tgt := 28) hx hb dX5_wants_24 (by decide) ?_
      exact kend () hP hS (an_i ((by unfold waF; rw [if_neg (by omega), Int.toNat_natCast, if_pos (by omega)]))) trivial dX5_wants_28
  · refine x_ldc hx hb (-1000001) rfl hown (hts (.constant RX5 37 (-1000001)) (by decide +kernel)) dX5_wants_7 ?_
    refine lv_goto (tgt := 28) hx hb dX5_wants_9 (by decide) ?_
    exact kend () hP hS (an_i ((by unfold waF; rw [if_pos (by omega)]))) trivial dX5_wants_28
theorem ykSX5_wantsFor : yX5_wantsFor.cls ≠ "java/lang/invoke/MethodHandle" ∧ yX5_wantsFor.cls ≠ "java/lang/invoke/VarHandle" ∧ (parseMethodDescriptor yX5_wantsFor.desc).map (fun d => d.parameters.length) = some 2 := by decide +kernel
theorem ykVX5_wantsFor : yX5_wantsFor.cls = RX5 ∧ yX5_wantsFor.cls ≠ "java/lang/invoke/MethodHandle" ∧ yX5_wantsFor.cls ≠ "java/lang/invoke/VarHandle" ∧ (parseMethodDescriptor yX5_wantsFor.desc).map (fun d => d.parameters.length) = some 2 := ⟨rfl, ykSX5_wantsFor⟩
set_option maxHeartbeats 4000000 in
set_option maxRecDepth 100000 in
theorem kX5_wantsFor {l : Launch} {D : va_G} {cI cB : ClassId} (r : Nat → Nat) (ik : Int) (tn : Int) (j : Nat → Int) (T : Tb) (SB : Nat → Int) (s0 : Int) (sp : Int) (hs : rI s0) (hp : rI sp) (hn : 0 ≤ T 0 ∧ T 0 ≤ 8) (hSB : ∀ i : Nat, i < 4 → SB i = 0 ∨ SB i = 8 ∨ SB i = 16 ∨ SB i = 32) : Ct l yX5_wantsFor wsX5_wantsFor 2 41 D [(cI, .int), (cB, .byte)] [.ref (r 0), .int (iI s0), .int (iI sp)] (wRo r ik tn j ++ (wA cI (r 1) 100 T ++ (wA cI (r 7) 4 (bR SB)))) (S := Unit) (fun _ => some (.int (iI (wtF SB (T 0) s0 sp)))) (fun _ => True) (fun _ => wRo r ik tn j ++ (wA cI (r 1) 100 T ++ (wA cI (r 7) 4 (bR SB)))) := by
  refine CtI.of (cc := cX5_wantsFor) (maxL := 3) (by decide +kernel) rfl (Nat.le_of_ble_eq_true rfl) ?_
  intro pg e s m args below meth c Q A hx hb hml hts hown hP hK hD hS ls hl kend
  have hown : s.vm.findClass RX5 = some m.cls := hown
  have hl : lv_has ls 3 [(0, .ref (r 0)), (1, .int (iI s0)), (2, .int (iI sp))] := hl
  have hw := waF_r SB s0
  refine lv_aload_n hx hb dX5_wantsFor_0 rfl (lv_at hl 0 rfl) ?_
  refine lv_iload_n hx hb dX5_wantsFor_1 rfl (lv_at hl 1 rfl) ?_
  refine x_callV (As := [.int (iI s0)]) (rest := []) ⟨hx, hb, hml, hown, hts⟩ (kX5_wants r ik tn j SB s0 (by omega) hSB) (cwV 1 hts gX5_wantsFor_X5_wants rfl rfl rfl ykVX5_wants ⟨Nat.le_of_ble_eq_true rfl, Nat.le_of_ble_eq_true rfl⟩) hP hK hD hS 0 4 rfl rfl rfl [0, 2] rfl (by decide) (fun _ => rfl) (fun _ => wRo r ik tn j ++ (wA cI (r 1) 100 T ++ (wA cI (r 7) 4 (bR SB)))) (fun _ => rfl) rfl hl.1 rfl (Nat.le_of_ble_eq_true rfl) dX5_wantsFor_2 ⟨Nat.le_of_ble_eq_true rfl, Nat.le_of_ble_eq_true rfl⟩ (fun _ H locs _ hP hD hS => ?_)
  refine W.eq (g2 := F0 m 5 ls [.int (iI (waF SB s0))]) rfl ?_
  refine x_if_eq (tgt := 16) hx hb hw dX5_wantsFor_5 (by decide) (fun c_5 => ?_) (fun c_5 => ?_)
  · refine lv_aload_n hx hb dX5_wantsFor_16 rfl (lv_at hl 0 rfl) ?_
    refine lv_iload_n hx hb dX5_wantsFor_17 rfl (lv_at hl 2 rfl) ?_
    refine x_callV (As := [.int (iI sp)]) (rest := []) ⟨hx, hb, hml, hown, hts⟩ (kX5_isOne r ik tn j T sp (by omega) (by omega)) (cwV 1 hts gX5_wantsFor_X5_isOne rfl rfl rfl ykVX5_isOne ⟨Nat.le_of_ble_eq_true rfl, Nat.le_of_ble_eq_true rfl⟩) hP hK hD hS 0 4 rfl rfl rfl [0, 1] rfl (by decide) (fun _ => rfl) (fun _ => wRo r ik tn j ++ (wA cI (r 1) 100 T ++ (wA cI (r 7) 4 (bR SB)))) (fun _ => rfl) rfl hl.1 rfl (Nat.le_of_ble_eq_true rfl) dX5_wantsFor_18 ⟨Nat.le_of_ble_eq_true rfl, Nat.le_of_ble_eq_true rfl⟩ (fun _ H locs _ hP hD hS => ?_)
    refine W.eq (g2 := F0 m 21 ls [.int (iI (b2 (decide (0 ≤ sp ∧ sp < T 0))))]) rfl ?_
    refine x_ifb_eq (tgt := 28) hx hb dX5_wantsFor_21 (by decide) (fun c_21 => ?_) (fun c_21 => ?_)
    · refine x_ldc hx hb (-1000001) rfl hown (hts (.constant RX5 37 (-1000001)) (by decide +kernel)) dX5_wantsFor_28 ?_
      exact kend () hP hS (an_i ((by unfold wtF; first | rw [if_pos (by omega)] | (rw [if_neg (by omega), if_neg (by omega)])))) trivial dX5_wantsFor_30
    · refine x_iconst hx hb dX5_wantsFor_24 ?_
      refine lv_goto (tgt := 30) hx hb dX5_wantsFor_25 (by decide) ?_
      exact kend () hP hS (an_i ((by unfold wtF; rw [if_neg (by omega), if_pos (by omega)]))) trivial dX5_wantsFor_30
  · refine lv_aload_n hx hb dX5_wantsFor_8 rfl (lv_at hl 0 rfl) ?_
    refine lv_iload_n hx hb dX5_wantsFor_9 rfl (lv_at hl 1 rfl) ?_
    refine x_callV (As := [.int (iI s0)]) (rest := []) ⟨hx, hb, hml, hown, hts⟩ (kX5_wants r ik tn j SB s0 (by omega) hSB) (cwV 1 hts gX5_wantsFor_X5_wants rfl rfl rfl ykVX5_wants ⟨Nat.le_of_ble_eq_true rfl, Nat.le_of_ble_eq_true rfl⟩) hP hK hD hS 0 4 rfl rfl rfl [0, 2] rfl (by decide) (fun _ => rfl) (fun _ => wRo r ik tn j ++ (wA cI (r 1) 100 T ++ (wA cI (r 7) 4 (bR SB)))) (fun _ => rfl) rfl hl.1 rfl (Nat.le_of_ble_eq_true rfl) dX5_wantsFor_10 ⟨Nat.le_of_ble_eq_true rfl, Nat.le_of_ble_eq_true rfl⟩ (fun _ H locs _ hP hD hS => ?_)
    refine W.eq (g2 := F0 m 13 ls [.int (iI (waF SB s0))]) rfl ?_
    refine lv_goto (tgt := 30) hx hb dX5_wantsFor_13 (by decide) ?_
    exact kend () hP hS (an_i ((by unfold wtF; first | rw [if_pos (by omega)] | (rw [if_neg (by omega), if_neg (by omega)])))) trivial dX5_wantsFor_30
