theorem ykSX3_isLetter : yX3_isLetter.cls ≠ "java/lang/invoke/MethodHandle" ∧ yX3_isLetter.cls ≠ "java/lang/invoke/VarHandle" ∧ (parseMethodDescriptor yX3_isLetter.desc).map (fun d => d.parameters.length) = some 1 := by decide +kernel
theorem ykVX3_isLetter : yX3_isLetter.cls = RX3 ∧ yX3_isLetter.cls ≠ "java/lang/invoke/MethodHandle" ∧ yX3_isLetter.cls ≠ "java/lang/invoke/VarHandle" ∧ (parseMethodDescriptor yX3_isLetter.desc).map (fun d => d.parameters.length) = some 1 := ⟨rfl, ykSX3_isLetter⟩
set_option maxHeartbeats 4000000 in
set_option maxRecDepth 100000 in
theorem kX3_isLetter {l : Launch} {D : va_G} {cI cB : ClassId} (b0 : Int) (hb0 : rI b0) : Ct l yX3_isLetter wsX3_isLetter 0 0 D [(cI, .int), (cB, .byte)] [.int (iI b0)] (([] : va_W)) (S := Unit) (fun _ => some (.int (iI (b2 (decide (97 ≤ b0 ∧ b0 ≤ 122)))))) (fun _ => True) (fun _ => ([] : va_W)) := by
  refine CtZ.of (cc := cX3_isLetter) (maxL := 1) (by decide +kernel) rfl (Nat.le_of_ble_eq_true rfl) ?_
  intro pg e s m args below meth c Q A hx hb hml hts hown hP hK hD hS ls hl kend
  have hown : s.vm.findClass RX3 = some m.cls := hown
  have hl : lv_has ls 1 [(0, .int (iI b0))] := hl
  refine lv_iload_n hx hb dX3_isLetter_0 rfl (lv_at hl 0 rfl) ?_
  refine x_bipush hx hb dX3_isLetter_1 (by decide) ?_
  refine x_icmp_lt (tgt := 16) hx hb (by omega) (by decide) dX3_isLetter_3 (by decide) (fun c_3 => ?_) (fun c_3 => ?_)
  · refine x_iconst hx hb dX3_isLetter_16 ?_
    exact kend () hP hS (an_i (b2_f (by omega)).symm) trivial (by decide) dX3_isLetter_17
  · refine lv_iload_n hx hb dX3_isLetter_6 rfl (lv_at hl 0 rfl) ?_
    refine x_bipush hx hb dX3_isLetter_7 (by decide) ?_
    refine x_icmp_gt (tgt := 16) hx hb (by omega) (by decide) dX3_isLetter_9 (by decide) (fun c_9 => ?_) (fun c_9 => ?_)
    · refine x_iconst hx hb dX3_isLetter_16 ?_
      exact kend () hP hS (an_i (b2_f (by omega)).symm) trivial (by decide) dX3_isLetter_17
    · refine x_iconst hx hb dX3_isLetter_12 ?_
      refine lv_goto (tgt := 17) hx hb dX3_isLetter_13 (by decide) ?_
      exact kend () hP hS (an_i (b2_t (by omega)).symm) trivial (by decide) dX3_isLetter_17
theorem ykSX3_isDigit : yX3_isDigit.cls ≠ "java/lang/invoke/MethodHandle" ∧ yX3_isDigit.cls ≠ "java/lang/invoke/VarHandle" ∧ (parseMethodDescriptor yX3_isDigit.desc).map (fun d => d.parameters.length) = some 1 := by decide +kernel
theorem ykVX3_isDigit : yX3_isDigit.cls = RX3 ∧ yX3_isDigit.cls ≠ "java/lang/invoke/MethodHandle" ∧ yX3_isDigit.cls ≠ "java/lang/invoke/VarHandle" ∧ (parseMethodDescriptor yX3_isDigit.desc).map (fun d => d.parameters.length) = some 1 := ⟨rfl, ykSX3_isDigit⟩
set_option maxHeartbeats 4000000 in
set_option maxRecDepth 100000 in
theorem kX3_isDigit {l : Launch} {D : va_G} {cI cB : ClassId} (b0 : Int) (hb0 : rI b0) : Ct l yX3_isDigit wsX3_isDigit 0 0 D [(cI, .int), (cB, .byte)] [.int (iI b0)] (([] : va_W)) (S := Unit) (fun _ => some (.int (iI (b2 (decide (48 ≤ b0 ∧ b0 ≤ 57)))))) (fun _ => True) (fun _ => ([] : va_W)) := by
  refine CtZ.of (cc := cX3_isDigit) (maxL := 1) (by decide +kernel) rfl (Nat.le_of_ble_eq_true rfl) ?_
  intro pg e s m args below meth c Q A hx hb hml hts hown hP hK hD hS ls hl kend
  have hown : s.vm.findClass RX3 = some m.cls := hown
  have hl : lv_has ls 1 [(0, .int (iI b0))] := hl
  refine lv_iload_n hx hb dX3_isDigit_0 rfl (lv_at hl 0 rfl) ?_
  refine x_bipush hx hb dX3_isDigit_1 (by decide) ?_
  refine x_icmp_lt (tgt := 16) hx hb (by omega) (by decide) dX3_isDigit_3 (by decide) (fun c_3 => ?_) (fun c_3 => ?_)
  · refine x_iconst hx hb dX3_isDigit_16 ?_
    exact kend () hP hS (an_i (b2_f (by omega)).symm) trivial (by decide) dX3_isDigit_17
  · refine lv_iload_n hx hb dX3_isDigit_6 rfl (lv_at hl 0 rfl) ?_
    refine x_bipush hx hb dX3_isDigit_7 (by decide) ?_
    refine x_icmp_gt (tgt := 16) hx hb (by omega) (by decide) dX3_isDigit_9 (by decide) (fun c_9 => ?_) (fun c_9 => ?_)
    · refine x_iconst hx hb dX3_isDigit_16 ?_
      exact kend () hP hS (an_i (b2_f (by omega)).symm) trivial (by decide) dX3_isDigit_17
    · refine x_iconst hx hb dX3_isDigit_12 ?_
      refine lv_goto (tgt := 17) hx hb dX3_isDigit_13 (by decide) ?_
      exact kend () hP hS (an_i (b2_t (by omega)).symm) trivial (by decide) dX3_isDigit_17
theorem ty_0 {TB : Nat → Int} {nn e f : Nat} {d : Int} (e1 : skF TB nn 120 e = f) (h : nn ≤ f) : tyS 0 (f : Int) (f : Int) d (tnF TB nn e) := by
  unfold tnF tkA
  rw [e1, if_pos h]
  exact ⟨rfl, rfl, rfl, fun q => by dsimp only at q; omega⟩
theorem ty_1 {TB : Nat → Int} {nn e f ev : Nat} {d : Int} (e1 : skF TB nn 120 e = f) (h : f < nn) (hl : 97 ≤ TB f ∧ TB f ≤ 122) (h2 : leF TB nn 120 f = ev) : tyS 1 (f : Int) (ev : Int) d (tnF TB nn e) := by
  unfold tnF tkA
  rw [e1, if_neg (by omega), if_pos hl, h2]
  exact ⟨rfl, rfl, rfl, fun q => by dsimp only at q; omega⟩
theorem ty_2 {TB : Nat → Int} {nn e f ev : Nat} {v : Int} (e1 : skF TB nn 120 e = f) (h : f < nn) (hl : ¬ (97 ≤ TB f ∧ TB f ≤ 122)) (hd : 48 ≤ TB f ∧ TB f ≤ 57) (h2 : dgF TB nn 120 f 0 = (ev, v)) : tyS 2 (f : Int) (ev : Int) v (tnF TB nn e) := by
  unfold tnF tkA
  rw [e1, if_neg (by omega), if_neg hl, if_pos hd, h2]
  exact ⟨rfl, rfl, rfl, fun _ => rfl⟩
theorem ty_3 {TB : Nat → Int} {nn e f : Nat} {d : Int} (e1 : skF TB nn 120 e = f) (h : f < nn) (hl : ¬ (97 ≤ TB f ∧ TB f ≤ 122)) (hd : ¬ (48 ≤ TB f ∧ TB f ≤ 57)) (hs : TB f = 59) : tyS 3 (f : Int) ((f + 1 : Nat) : Int) d (tnF TB nn e) := by
  unfold tnF tkA
  rw [e1, if_neg (by omega), if_neg hl, if_neg hd, if_pos hs]
  exact ⟨rfl, rfl, rfl, fun q => by dsimp only at q; omega⟩
theorem ty_4 {TB : Nat → Int} {nn e f : Nat} {d : Int} (e1 : skF TB nn 120 e = f) (h : f < nn) (hl : ¬ (97 ≤ TB f ∧ TB f ≤ 122)) (hd : ¬ (48 ≤ TB f ∧ TB f ≤ 57)) (hs : ¬ TB f = 59) : tyS 4 (f : Int) ((f + 1 : Nat) : Int) d (tnF TB nn e) := by
  unfold tnF tkA
  rw [e1, if_neg (by omega), if_neg hl, if_neg hd, if_neg hs]
  exact ⟨rfl, rfl, rfl, fun q => by dsimp only at q; omega⟩
theorem ykSX3_step : yX3_step.cls ≠ "java/lang/invoke/MethodHandle" ∧ yX3_step.cls ≠ "java/lang/invoke/VarHandle" ∧ (parseMethodDescriptor yX3_step.desc).map (fun d => d.parameters.length) = some 0 := by decide +kernel
theorem ykVX3_step : yX3_step.cls = RX3 ∧ yX3_step.cls ≠ "java/lang/invoke/MethodHandle" ∧ yX3_step.cls ≠ "java/lang/invoke/VarHandle" ∧ (parseMethodDescriptor yX3_step.desc).map (fun d => d.parameters.length) = some 0 := ⟨rfl, ykSX3_step⟩
set_option maxRecDepth 20000 in
theorem iT_X3_step_X3 : ∀ w ∈ u_ws RX3 TX3 6, w ∈ wsX3_step := by decide +kernel
set_option maxHeartbeats 4000000 in
set_option maxRecDepth 100000 in
theorem kX3_step {l : Launch} {D : va_G} {cI cB : ClassId} (g : Nat → Nat) (tn : Int) (TB : Nat → Int) (ct : Int) (cf : Int) (ce : Int) (cv : Int) (nn : Nat) (e0 : Nat) (hn : tn = ((nn : Nat) : Int)) (hn9 : nn ≤ 120) (hTB : ∀ i : Nat, i < 120 → 0 ≤ TB i ∧ TB i ≤ 255) (he : ce = ((e0 : Nat) : Int)) (hen : e0 ≤ nn) : Ct l yX3_step wsX3_step 1 21 D [(cI, .int), (cB, .byte)] [.ref (g 0)] (wTp cB g tn TB (jj ct cf ce cv)) (S := Int × Int × Int × Int) (fun u => none) (fun u => tyS u.1 u.2.1 u.2.2.1 u.2.2.2 (tnF TB nn e0)) (fun u => wTp cB g tn TB (jj u.1 u.2.1 u.2.2.1 u.2.2.2)) := by
  refine CtV.of (cc := cX3_step) (maxL := 1) (by decide +kernel) rfl (Nat.le_of_ble_eq_true rfl) ?_
  intro pg e s m args below meth c Q A hx hb hml hts hown hP hK hD hS ls hl kend
  have hown : s.vm.findClass RX3 = some m.cls := hown
  have hl : lv_has ls 1 [(0, .ref (g 0))] := hl
  subst hn
  subst he
  refine lv_aload_n hx hb dX3_step_0 rfl (lv_at hl 0 rfl) ?_
  refine lv_aload_n hx hb dX3_step_1 rfl (lv_at hl 0 rfl) ?_
  refine va_get (D := D) (ci := 2) (v := .int (iI ((e0 : Nat) : Int))) (C := RX3) (T := TX3) (N := 6) hx hb hts (iT_X3_step_X3) hown hK hP 0 rfl rfl 4 (by decide) (hts (.fieldLink RX3 19 "WordSupper$Tape" "end" "I") (by decide +kernel)) (fun _ h9 => h9) rfl dX3_step_2 ?_
  refine x_putI (D := D) (ty := .int) (C := RX3) (T := TX3) (N := 6) hx hb 2 hts (iT_X3_step_X3) tyX3 tyX3_ok nmX3 hown hK hP hD hS 0 rfl rfl 3 (by decide) (hts (.fieldLink RX3 29 "WordSupper$Tape" "begin" "I") (by decide +kernel)) (fun _ h9 => h9) rfl (by decide +kernel) rfl rfl (Nat.le_of_ble_eq_true rfl) (wTp cB g ((nn : Nat) : Int) TB (jj ct ((e0 : Nat) : Int) ((e0 : Nat) : Int) cv)) (rfl) dX3_step_5 (fun H locs hP hD hS => ?_)
  have L8 : ∀ (k t : Nat) (iv : Nat) (H : Heap) (locs : List Loc) (ls : Array Slot), t + k = 120 → (skF TB nn k iv = skF TB nn 120 e0) → (nn ≤ iv + k) → (iv ≤ nn) → va_P D vwCl (wTp cB g ((nn : Nat) : Int) TB (jj ct ((iv : Nat) : Int) ((e0 : Nat) : Int) cv)) H → va_D A (wTp cB g ((nn : Nat) : Int) TB (jj ct ((iv : Nat) : Int) ((e0 : Nat) : Int) cv)) → va_S A s.heap H locs → lv_has ls 1 [(0, .ref (g 0))] → W pg l e { frames := 1, cells := 0, slots := 0, locals := 21 } s m args below meth c H locs 0 0 Q (F0 m 8 ls []) := by
    intro k
    induction k with
    | zero =>
      intro t iv H locs ls hkt hk1 hk2 hk3 hP hD hS hl
      refine lv_aload_n hx hb dX3_step_8 rfl (lv_at hl 0 rfl) ?_
      refine va_get (D := D) (ci := 2) (v := .int (iI ((iv : Nat) : Int))) (C := RX3) (T := TX3) (N := 6) hx hb hts (iT_X3_step_X3) hown hK hP 0 rfl rfl 3 (by decide) (hts (.fieldLink RX3 29 "WordSupper$Tape" "begin" "I") (by decide +kernel)) (fun _ h9 => h9) rfl dX3_step_9 ?_
      refine lv_aload_n hx hb dX3_step_12 rfl (lv_at hl 0 rfl) ?_
      refine va_get (D := D) (ci := 2) (v := .int (iI ((nn : Nat) : Int))) (C := RX3) (T := TX3) (N := 6) hx hb hts (iT_X3_step_X3) hown hK hP 0 rfl rfl 0 (by decide) (hts (.fieldLink RX3 15 "WordSupper$Tape" "size" "I") (by decide +kernel)) (fun _ h9 => h9) rfl dX3_step_13 ?_
      refine x_icmp_ge (tgt := 46) hx hb (by omega) (by omega) dX3_step_16 (by decide) (fun c_16 => ?_) (fun c_16 => ?_)
      · have e_f : skF TB nn 120 e0 = iv := hk1.symm
        refine lv_aload_n hx hb dX3_step_46 rfl (lv_at hl 0 rfl) ?_
        refine lv_aload_n hx hb dX3_step_47 rfl (lv_at hl 0 rfl) ?_
        refine va_get (D := D) (ci := 2) (v := .int (iI ((iv : Nat) : Int))) (C := RX3) (T := TX3) (N := 6) hx hb hts (iT_X3_step_X3) hown hK hP 0 rfl rfl 3 (by decide) (hts (.fieldLink RX3 29 "WordSupper$Tape" "begin" "I") (by decide +kernel)) (fun _ h9 => h9) rfl dX3_step_48 ?_
        refine x_putI (D := D) (ty := .int) (C := RX3) (T := TX3) (N := 6) hx hb 2 hts (iT_X3_step_X3) tyX3 tyX3_ok nmX3 hown hK hP hD hS 0 rfl rfl 4 (by decide) (hts (.fieldLink RX3 19 "WordSupper$Tape" "end" "I") (by decide +kernel)) (fun _ h9 => h9) rfl (by decide +kernel) rfl rfl (Nat.le_of_ble_eq_true rfl) (wTp cB g ((nn : Nat) : Int) TB (jj ct ((iv : Nat) : Int) ((iv : Nat) : Int) cv)) (rfl) dX3_step_51 (fun H locs hP hD hS => ?_)
        refine lv_aload_n hx hb dX3_step_54 rfl (lv_at hl 0 rfl) ?_
        refine va_get (D := D) (ci := 2) (v := .int (iI ((iv : Nat) : Int))) (C := RX3) (T := TX3) (N := 6) hx hb hts (iT_X3_step_X3) hown hK hP 0 rfl rfl 3 (by decide) (hts (.fieldLink RX3 29 "WordSupper$Tape" "begin" "I") (by decide +kernel)) (fun _ h9 => h9) rfl dX3_step_55 ?_
        refine lv_aload_n hx hb dX3_step_58 rfl (lv_at hl 0 rfl) ?_
        refine va_get (D := D) (ci := 2) (v := .int (iI ((nn : Nat) : Int))) (C := RX3) (T := TX3) (N := 6) hx hb hts (iT_X3_step_X3) hown hK hP 0 rfl rfl 0 (by decide) (hts (.fieldLink RX3 15 "WordSupper$Tape" "size" "I") (by decide +kernel)) (fun _ h9 => h9) rfl dX3_step_59 ?_
        refine x_icmp_lt (tgt := 73) hx hb (by omega) (by omega) dX3_step_62 (by decide) (fun c_62 => ?_) (fun c_62 => ?_)
        · refine lv_aload_n hx hb dX3_step_73 rfl (lv_at hl 0 rfl) ?_
          refine va_get (D := D) (ci := 2) (v := .ref (g 1)) (C := RX3) (T := TX3) (N := 6) hx hb hts (iT_X3_step_X3) hown hK hP 0 rfl rfl 1 (by decide) (hts (.fieldLink RX3 11 "WordSupper$Tape" "bytes" "[B") (by decide +kernel)) (fun _ h9 => h9) rfl dX3_step_74 ?_
          refine lv_aload_n hx hb dX3_step_77 rfl (lv_at hl 0 rfl) ?_
          refine va_get (D := D) (ci := 2) (v := .int (iI ((iv : Nat) : Int))) (C := RX3) (T := TX3) (N := 6) hx hb hts (iT_X3_step_X3) hown hK hP 0 rfl rfl 3 (by decide) (hts (.fieldLink RX3 29 "WordSupper$Tape" "begin" "I") (by decide +kernel)) (fun _ h9 => h9) rfl dX3_step_78 ?_
          have hb2 := sgB_c (hTB (iv) (by omega))
          refine x_bald hx hb hK hP 1 1 rfl rfl iv rfl (by omega) (by decide) (sgB (TB iv)) (gd_at _ (by omega)) dX3_step_81 ?_
          refine x_callS (As := [.int (iI (sgB (TB iv)))]) (rest := []) ⟨hx, hb, hml, hown, hts⟩ (kX3_isLetter (sgB (TB iv)) (by omega)) (va_cwS 1 hts gX3_step_X3_isLetter rfl rfl rfl ykSX3_isLetter ⟨Nat.le_of_ble_eq_true rfl, Nat.le_of_ble_eq_true rfl⟩) hP hK hD hS [] rfl (by decide) (fun _ => rfl) (fun _ => wTp cB g ((nn : Nat) : Int) TB (jj ct ((iv : Nat) : Int) ((iv : Nat) : Int) cv)) (fun _ => rfl) rfl hl.1 rfl (Nat.le_of_ble_eq_true rfl) dX3_step_82 ⟨Nat.le_of_ble_eq_true rfl, Nat.le_of_ble_eq_true rfl⟩ (fun _ H locs _ hP hD hS => ?_)
          refine W.eq (g2 := F0 m 85 ls [.int (iI (b2 (decide (97 ≤ (sgB (TB iv)) ∧ (sgB (TB iv)) ≤ 122))))]) rfl ?_
          refine x_ifb_eq (tgt := 132) hx hb dX3_step_85 (by decide) (fun c_85 => ?_) (fun c_85 => ?_)
          · refine lv_aload_n hx hb dX3_step_132 rfl (lv_at hl 0 rfl) ?_
            refine va_get (D := D) (ci := 2) (v := .ref (g 1)) (C := RX3) (T := TX3) (N := 6) hx hb hts (iT_X3_step_X3) hown hK hP 0 rfl rfl 1 (by decide) (hts (.fieldLink RX3 11 "WordSupper$Tape" "bytes" "[B") (by decide +kernel)) (fun _ h9 => h9) rfl dX3_step_133 ?_
            refine lv_aload_n hx hb dX3_step_136 rfl (lv_at hl 0 rfl) ?_
            refine va_get (D := D) (ci := 2) (v := .int (iI ((iv : Nat) : Int))) (C := RX3) (T := TX3) (N := 6) hx hb hts (iT_X3_step_X3) hown hK hP 0 rfl rfl 3 (by decide) (hts (.fieldLink RX3 29 "WordSupper$Tape" "begin" "I") (by decide +kernel)) (fun _ h9 => h9) rfl dX3_step_137 ?_
            have hb4 := sgB_c (hTB (iv) (by omega))
            refine x_bald hx hb hK hP 1 1 rfl rfl iv rfl (by omega) (by decide) (sgB (TB iv)) (gd_at _ (by omega)) dX3_step_140 ?_
            refine x_callS (As := [.int (iI (sgB (TB iv)))]) (rest := []) ⟨hx, hb, hml, hown, hts⟩ (kX3_isDigit (sgB (TB iv)) (by omega)) (va_cwS 1 hts gX3_step_X3_isDigit rfl rfl rfl ykSX3_isDigit ⟨Nat.le_of_ble_eq_true rfl, Nat.le_of_ble_eq_true rfl⟩) hP hK hD hS [] rfl (by decide) (fun _ => rfl) (fun _ => wTp cB g ((nn : Nat) : Int) TB (jj ct ((iv : Nat) : Int) ((iv : Nat) : Int) cv)) (fun _ => rfl) rfl hl.1 rfl (Nat.le_of_ble_eq_true rfl) dX3_step_141 ⟨Nat.le_of_ble_eq_true rfl, Nat.le_of_ble_eq_true rfl⟩ (fun _ H locs _ hP hD hS => ?_)
            refine W.eq (g2 := F0 m 144 ls [.int (iI (b2 (decide (48 ≤ (sgB (TB iv)) ∧ (sgB (TB iv)) ≤ 57))))]) rfl ?_
            refine x_ifb_eq (tgt := 226) hx hb dX3_step_144 (by decide) (fun c_144 => ?_) (fun c_144 => ?_)
            · refine lv_aload_n hx hb dX3_step_226 rfl (lv_at hl 0 rfl) ?_
              refine lv_aload_n hx hb dX3_step_227 rfl (lv_at hl 0 rfl) ?_
              refine va_get (D := D) (ci := 2) (v := .ref (g 1)) (C := RX3) (T := TX3) (N := 6) hx hb hts (iT_X3_step_X3) hown hK hP 0 rfl rfl 1 (by decide) (hts (.fieldLink RX3 11 "WordSupper$Tape" "bytes" "[B") (by decide +kernel)) (fun _ h9 => h9) rfl dX3_step_228 ?_
              refine lv_aload_n hx hb dX3_step_231 rfl (lv_at hl 0 rfl) ?_
              refine va_get (D := D) (ci := 2) (v := .int (iI ((iv : Nat) : Int))) (C := RX3) (T := TX3) (N := 6) hx hb hts (iT_X3_step_X3) hown hK hP 0 rfl rfl 3 (by decide) (hts (.fieldLink RX3 29 "WordSupper$Tape" "begin" "I") (by decide +kernel)) (fun _ h9 => h9) rfl dX3_step_232 ?_
              have hb6 := sgB_c (hTB (iv) (by omega))
              refine x_bald hx hb hK hP 1 1 rfl rfl iv rfl (by omega) (by decide) (sgB (TB iv)) (gd_at _ (by omega)) dX3_step_235 ?_
              refine x_bipush hx hb dX3_step_236 (by decide) ?_
              refine x_icmp_ne (tgt := 245) hx hb (by omega) (by decide) dX3_step_238 (by decide) (fun c_238 => ?_) (fun c_238 => ?_)
              · refine x_iconst hx hb dX3_step_245 ?_
                refine x_putI (D := D) (ty := .int) (C := RX3) (T := TX3) (N := 6) hx hb 2 hts (iT_X3_step_X3) tyX3 tyX3_ok nmX3 hown hK hP hD hS 0 rfl rfl 2 (by decide) (hts (.fieldLink RX3 32 "WordSupper$Tape" "token" "I") (by decide +kernel)) (fun _ h9 => h9) rfl (by decide +kernel) rfl rfl (Nat.le_of_ble_eq_true rfl) (wTp cB g ((nn : Nat) : Int) TB (jj 4 ((iv : Nat) : Int) ((iv : Nat) : Int) cv)) (rfl) dX3_step_246 (fun H locs hP hD hS => ?_)
                refine lv_aload_n hx hb dX3_step_249 rfl (lv_at hl 0 rfl) ?_
                refine lv_dup hx hb dX3_step_250 rfl ?_
                refine va_get (D := D) (ci := 2) (v := .int (iI ((iv : Nat) : Int))) (C := RX3) (T := TX3) (N := 6) hx hb hts (iT_X3_step_X3) hown hK hP 0 rfl rfl 4 (by decide) (hts (.fieldLink RX3 19 "WordSupper$Tape" "end" "I") (by decide +kernel)) (fun _ h9 => h9) rfl dX3_step_251 ?_
                refine x_iconst hx hb dX3_step_254 ?_
                refine x_iadd hx hb dX3_step_255 ?_
                refine x_topi ((iv + 1 : Nat) : Int) (by omega) ?_
                refine x_putI (D := D) (ty := .int) (C := RX3) (T := TX3) (N := 6) hx hb 2 hts (iT_X3_step_X3) tyX3 tyX3_ok nmX3 hown hK hP hD hS 0 rfl rfl 4 (by decide) (hts (.fieldLink RX3 19 "WordSupper$Tape" "end" "I") (by decide +kernel)) (fun _ h9 => h9) rfl (by decide +kernel) rfl rfl (Nat.le_of_ble_eq_true rfl) (wTp cB g ((nn : Nat) : Int) TB (jj 4 ((iv : Nat) : Int) ((iv + 1 : Nat) : Int) cv)) (rfl) dX3_step_256 (fun H locs hP hD hS => ?_)
                exact kend (4, ((iv : Nat) : Int), ((iv + 1 : Nat) : Int), cv) hP hS rfl (ty_4 e_f (by omega) (by omega) (by omega) (by omega)) dX3_step_259
              · refine x_iconst hx hb dX3_step_241 ?_
                refine lv_goto (tgt := 246) hx hb dX3_step_242 (by decide) ?_
                refine x_putI (D := D) (ty := .int) (C := RX3) (T := TX3) (N := 6) hx hb 2 hts (iT_X3_step_X3) tyX3 tyX3_ok nmX3 hown hK hP hD hS 0 rfl rfl 2 (by decide) (hts (.fieldLink RX3 32 "WordSupper$Tape" "token" "I") (by decide +kernel)) (fun _ h9 => h9) rfl (by decide +kernel) rfl rfl (Nat.le_of_ble_eq_true rfl) (wTp cB g ((nn : Nat) : Int) TB (jj 3 ((iv : Nat) : Int) ((iv : Nat) : Int) cv)) (rfl) dX3_step_246 (fun H locs hP hD hS => ?_)
                refine lv_aload_n hx hb dX3_step_249 rfl (lv_at hl 0 rfl) ?_
                refine lv_dup hx hb dX3_step_250 rfl ?_
                refine va_get (D := D) (ci := 2) (v := .int (iI ((iv : Nat) : Int))) (C := RX3) (T := TX3) (N := 6) hx hb hts (iT_X3_step_X3) hown hK hP 0 rfl rfl 4 (by decide) (hts (.fieldLink RX3 19 "WordSupper$Tape" "end" "I") (by decide +kernel)) (fun _ h9 => h9) rfl dX3_step_251 ?_
                refine x_iconst hx hb dX3_step_254 ?_
                refine x_iadd hx hb dX3_step_255 ?_
                refine x_topi ((iv + 1 : Nat) : Int) (by omega) ?_
                refine x_putI (D := D) (ty := .int) (C := RX3) (T := TX3) (N := 6) hx hb 2 hts (iT_X3_step_X3) tyX3 tyX3_ok nmX3 hown hK hP hD hS 0 rfl rfl 4 (by decide) (hts (.fieldLink RX3 19 "WordSupper$Tape" "end" "I") (by decide +kernel)) (fun _ h9 => h9) rfl (by decide +kernel) rfl rfl (Nat.le_of_ble_eq_true rfl) (wTp cB g ((nn : Nat) : Int) TB (jj 3 ((iv : Nat) : Int) ((iv + 1 : Nat) : Int) cv)) (rfl) dX3_step_256 (fun H locs hP hD hS => ?_)
                exact kend (3, ((iv : Nat) : Int), ((iv + 1 : Nat) : Int), cv) hP hS rfl (ty_3 e_f (by omega) (by omega) (by omega) (by omega)) dX3_step_259
            · refine lv_aload_n hx hb dX3_step_147 rfl (lv_at hl 0 rfl) ?_
              refine x_iconst hx hb dX3_step_148 ?_
              refine x_putI (D := D) (ty := .int) (C := RX3) (T := TX3) (N := 6) hx hb 2 hts (iT_X3_step_X3) tyX3 tyX3_ok nmX3 hown hK hP hD hS 0 rfl rfl 2 (by decide) (hts (.fieldLink RX3 32 "WordSupper$Tape" "token" "I") (by decide +kernel)) (fun _ h9 => h9) rfl (by decide +kernel) rfl rfl (Nat.le_of_ble_eq_true rfl) (wTp cB g ((nn : Nat) : Int) TB (jj 2 ((iv : Nat) : Int) ((iv : Nat) : Int) cv)) (rfl) dX3_step_149 (fun H locs hP hD hS => ?_)
              refine lv_aload_n hx hb dX3_step_152 rfl (lv_at hl 0 rfl) ?_
              refine x_iconst hx hb dX3_step_153 ?_
              refine x_putI (D := D) (ty := .int) (C := RX3) (T := TX3) (N := 6) hx hb 2 hts (iT_X3_step_X3) tyX3 tyX3_ok nmX3 hown hK hP hD hS 0 rfl rfl 5 (by decide) (hts (.fieldLink RX3 92 "WordSupper$Tape" "value" "I") (by decide +kernel)) (fun _ h9 => h9) rfl (by decide +kernel) rfl rfl (Nat.le_of_ble_eq_true rfl) (wTp cB g ((nn : Nat) : Int) TB (jj 2 ((iv : Nat) : Int) ((iv : Nat) : Int) 0)) (rfl) dX3_step_154 (fun H locs hP hD hS => ?_)
              have L157 : ∀ (k4 t4 : Nat) (ev : Nat) (vv : Int) (H : Heap) (locs : List Loc) (ls : Array Slot), t4 + k4 = 120 → (dgF TB nn k4 ev vv = dgF TB nn 120 iv 0) → (nn ≤ ev + k4) → (ev ≤ nn) → (0 ≤ vv ∧ vv ≤ 1000) → va_P D vwCl (wTp cB g ((nn : Nat) : Int) TB (jj 2 ((iv : Nat) : Int) ((ev : Nat) : Int) vv)) H → va_D A (wTp cB g ((nn : Nat) : Int) TB (jj 2 ((iv : Nat) : Int) ((ev : Nat) : Int) vv)) → va_S A s.heap H locs → lv_has ls 1 [(0, .ref (g 0))] → W pg l e { frames := 1, cells := 0, slots := 0, locals := 21 } s m args below meth c H locs 0 0 Q (F0 m 157 ls []) := by
                intro k4
                induction k4 with
                | zero =>
                  intro t4 ev vv H locs ls hk4t hd1 hd2 hd3 hd4 hP hD hS hl
                  refine lv_aload_n hx hb dX3_step_157 rfl (lv_at hl 0 rfl) ?_
                  refine va_get (D := D) (ci := 2) (v := .int (iI ((ev : Nat) : Int))) (C := RX3) (T := TX3) (N := 6) hx hb hts (iT_X3_step_X3) hown hK hP 0 rfl rfl 4 (by decide) (hts (.fieldLink RX3 19 "WordSupper$Tape" "end" "I") (by decide +kernel)) (fun _ h9 => h9) rfl dX3_step_158 ?_
                  refine lv_aload_n hx hb dX3_step_161 rfl (lv_at hl 0 rfl) ?_
                  refine va_get (D := D) (ci := 2) (v := .int (iI ((nn : Nat) : Int))) (C := RX3) (T := TX3) (N := 6) hx hb hts (iT_X3_step_X3) hown hK hP 0 rfl rfl 0 (by decide) (hts (.fieldLink RX3 15 "WordSupper$Tape" "size" "I") (by decide +kernel)) (fun _ h9 => h9) rfl dX3_step_162 ?_
                  refine x_icmp_ge (tgt := 259) hx hb (by omega) (by omega) dX3_step_165 (by decide) (fun c_165 => ?_) (fun c_165 => ?_)
                  · have e_d : dgF TB nn 120 iv 0 = (ev, vv) := hd1.symm
                    exact kend (2, ((iv : Nat) : Int), ((ev : Nat) : Int), vv) hP hS rfl (ty_2 e_f (by omega) (by omega) (by omega) e_d) dX3_step_259
                  · exfalso; omega
                | succ k4 ih4 =>
                  intro t4 ev vv H locs ls hk4t hd1 hd2 hd3 hd4 hP hD hS hl
                  refine lv_aload_n hx hb dX3_step_157 rfl (lv_at hl 0 rfl) ?_
                  refine va_get (D := D) (ci := 2) (v := .int (iI ((ev : Nat) : Int))) (C := RX3) (T := TX3) (N := 6) hx hb hts (iT_X3_step_X3) hown hK hP 0 rfl rfl 4 (by decide) (hts (.fieldLink RX3 19 "WordSupper$Tape" "end" "I") (by decide +kernel)) (fun _ h9 => h9) rfl dX3_step_158 ?_
                  refine lv_aload_n hx hb dX3_step_161 rfl (lv_at hl 0 rfl) ?_
                  refine va_get (D := D) (ci := 2) (v := .int (iI ((nn : Nat) : Int))) (C := RX3) (T := TX3) (N := 6) hx hb hts (iT_X3_step_X3) hown hK hP 0 rfl rfl 0 (by decide) (hts (.fieldLink RX3 15 "WordSupper$Tape" "size" "I") (by decide +kernel)) (fun _ h9 => h9) rfl dX3_step_162 ?_
                  refine x_icmp_ge (tgt := 259) hx hb (by omega) (by omega) dX3_step_165 (by decide) (fun c_165 => ?_) (fun c_165 => ?_)
                  · have e_d : dgF TB nn 120 iv 0 = (ev, vv) := by rw [← hd1, dgF, if_neg (by omega)]
                    exact kend (2, ((iv : Nat) : Int), ((ev : Nat) : Int), vv) hP hS rfl (ty_2 e_f (by omega) (by omega) (by omega) e_d) dX3_step_259
                  · refine lv_aload_n hx hb dX3_step_168 rfl (lv_at hl 0 rfl) ?_
                    refine va_get (D := D) (ci := 2) (v := .ref (g 1)) (C := RX3) (T := TX3) (N := 6) hx hb hts (iT_X3_step_X3) hown hK hP 0 rfl rfl 1 (by decide) (hts (.fieldLink RX3 11 "WordSupper$Tape" "bytes" "[B") (by decide +kernel)) (fun _ h9 => h9) rfl dX3_step_169 ?_
                    refine lv_aload_n hx hb dX3_step_172 rfl (lv_at hl 0 rfl) ?_
                    refine va_get (D := D) (ci := 2) (v := .int (iI ((ev : Nat) : Int))) (C := RX3) (T := TX3) (N := 6) hx hb hts (iT_X3_step_X3) hown hK hP 0 rfl rfl 4 (by decide) (hts (.fieldLink RX3 19 "WordSupper$Tape" "end" "I") (by decide +kernel)) (fun _ h9 => h9) rfl dX3_step_173 ?_
                    have hb5 := sgB_c (hTB (ev) (by omega))
                    refine x_bald hx hb hK hP 1 1 rfl rfl ev rfl (by omega) (by decide) (sgB (TB ev)) (gd_at _ (by omega)) dX3_step_176 ?_
                    refine x_callS (As := [.int (iI (sgB (TB ev)))]) (rest := []) ⟨hx, hb, hml, hown, hts⟩ (kX3_isDigit (sgB (TB ev)) (by omega)) (va_cwS 1 hts gX3_step_X3_isDigit rfl rfl rfl ykSX3_isDigit ⟨Nat.le_of_ble_eq_true rfl, Nat.le_of_ble_eq_true rfl⟩) hP hK hD hS [] rfl (by decide) (fun _ => rfl) (fun _ => wTp cB g ((nn : Nat) : Int) TB (jj 2 ((iv : Nat) : Int) ((ev : Nat) : Int) vv)) (fun _ => rfl) rfl hl.1 rfl (Nat.le_of_ble_eq_true rfl) dX3_step_177 ⟨Nat.le_of_ble_eq_true rfl, Nat.le_of_ble_eq_true rfl⟩ (fun _ H locs _ hP hD hS => ?_)
                    refine W.eq (g2 := F0 m 180 ls [.int (iI (b2 (decide (48 ≤ (sgB (TB ev)) ∧ (sgB (TB ev)) ≤ 57))))]) rfl ?_
                    refine x_ifb_eq (tgt := 259) hx hb dX3_step_180 (by decide) (fun c_180 => ?_) (fun c_180 => ?_)
                    · have e_d : dgF TB nn 120 iv 0 = (ev, vv) := by rw [← hd1, dgF, if_neg (by omega)]
                      exact kend (2, ((iv : Nat) : Int), ((ev : Nat) : Int), vv) hP hS rfl (ty_2 e_f (by omega) (by omega) (by omega) e_d) dX3_step_259
                    · refine lv_aload_n hx hb dX3_step_183 rfl (lv_at hl 0 rfl) ?_
                      refine x_sipush hx hb dX3_step_184 (by decide) ?_
                      refine lv_aload_n hx hb dX3_step_187 rfl (lv_at hl 0 rfl) ?_
                      refine va_get (D := D) (ci := 2) (v := .int (iI vv)) (C := RX3) (T := TX3) (N := 6) hx hb hts (iT_X3_step_X3) hown hK hP 0 rfl rfl 5 (by decide) (hts (.fieldLink RX3 92 "WordSupper$Tape" "value" "I") (by decide +kernel)) (fun _ h9 => h9) rfl dX3_step_188 ?_
                      refine x_bipush hx hb dX3_step_191 (by decide) ?_
                      refine x_imul hx hb dX3_step_193 ?_
                      refine lv_aload_n hx hb dX3_step_194 rfl (lv_at hl 0 rfl) ?_
                      refine va_get (D := D) (ci := 2) (v := .ref (g 1)) (C := RX3) (T := TX3) (N := 6) hx hb hts (iT_X3_step_X3) hown hK hP 0 rfl rfl 1 (by decide) (hts (.fieldLink RX3 11 "WordSupper$Tape" "bytes" "[B") (by decide +kernel)) (fun _ h9 => h9) rfl dX3_step_195 ?_
                      refine lv_aload_n hx hb dX3_step_198 rfl (lv_at hl 0 rfl) ?_
                      refine va_get (D := D) (ci := 2) (v := .int (iI ((ev : Nat) : Int))) (C := RX3) (T := TX3) (N := 6) hx hb hts (iT_X3_step_X3) hown hK hP 0 rfl rfl 4 (by decide) (hts (.fieldLink RX3 19 "WordSupper$Tape" "end" "I") (by decide +kernel)) (fun _ h9 => h9) rfl dX3_step_199 ?_
                      refine x_bald hx hb hK hP 1 1 rfl rfl ev rfl (by omega) (by decide) (sgB (TB ev)) (gd_at _ (by omega)) dX3_step_202 ?_
                      refine x_iadd hx hb dX3_step_203 ?_
                      refine x_bipush hx hb dX3_step_204 (by decide) ?_
                      refine x_isub hx hb dX3_step_206 ?_
                      refine x_mmin hx hb (hml.trans hl.1.symm) hown (hts (.methodLink RX3 131 Lib.Math.min.name) (by decide +kernel)) (hts (.static Lib.Math.min.name) (by decide +kernel)) (hts (.initialized "java/lang/Math") (by decide +kernel)) (hts (.code Lib.Math.min.name Lib.Math.min.code 2 (some .int)) (by decide +kernel)) (Nat.le_of_ble_eq_true rfl) (Nat.le_of_ble_eq_true rfl) (Nat.le_of_ble_eq_true rfl) (Nat.le_of_ble_eq_true rfl) (by decide) (by omega) dX3_step_207 ?_
                      refine x_topi (min 1000 (vv * 10 + TB ev - 48)) (by omega) ?_
                      refine x_putI (D := D) (ty := .int) (C := RX3) (T := TX3) (N := 6) hx hb 2 hts (iT_X3_step_X3) tyX3 tyX3_ok nmX3 hown hK hP hD hS 0 rfl rfl 5 (by decide) (hts (.fieldLink RX3 92 "WordSupper$Tape" "value" "I") (by decide +kernel)) (fun _ h9 => h9) rfl (by decide +kernel) rfl rfl (Nat.le_of_ble_eq_true rfl) (wTp cB g ((nn : Nat) : Int) TB (jj 2 ((iv : Nat) : Int) ((ev : Nat) : Int) (min 1000 (vv * 10 + TB ev - 48)))) (rfl) dX3_step_210 (fun H locs hP hD hS => ?_)
                      refine lv_aload_n hx hb dX3_step_213 rfl (lv_at hl 0 rfl) ?_
                      refine lv_dup hx hb dX3_step_214 rfl ?_
                      refine va_get (D := D) (ci := 2) (v := .int (iI ((ev : Nat) : Int))) (C := RX3) (T := TX3) (N := 6) hx hb hts (iT_X3_step_X3) hown hK hP 0 rfl rfl 4 (by decide) (hts (.fieldLink RX3 19 "WordSupper$Tape" "end" "I") (by decide +kernel)) (fun _ h9 => h9) rfl dX3_step_215 ?_
                      refine x_iconst hx hb dX3_step_218 ?_
                      refine x_iadd hx hb dX3_step_219 ?_
                      refine x_topi ((ev + 1 : Nat) : Int) (by omega) ?_
                      refine x_putI (D := D) (ty := .int) (C := RX3) (T := TX3) (N := 6) hx hb 2 hts (iT_X3_step_X3) tyX3 tyX3_ok nmX3 hown hK hP hD hS 0 rfl rfl 4 (by decide) (hts (.fieldLink RX3 19 "WordSupper$Tape" "end" "I") (by decide +kernel)) (fun _ h9 => h9) rfl (by decide +kernel) rfl rfl (Nat.le_of_ble_eq_true rfl) (wTp cB g ((nn : Nat) : Int) TB (jj 2 ((iv : Nat) : Int) ((ev + 1 : Nat) : Int) (min 1000 (vv * 10 + TB ev - 48)))) (rfl) dX3_step_220 (fun H locs hP hD hS => ?_)
                      refine lv_goto (tgt := 157) hx hb dX3_step_223 (by decide) ?_
                      exact ih4 (t4 + 1) (ev + 1) (min 1000 (vv * 10 + TB ev - 48)) _ _ _ (by omega) (by rw [← hd1, dgF, if_pos (by omega)]) (by omega) (by omega) (by omega) hP hD hS (lv_sub hl [0] rfl)
              exact L157 120 0 iv 0 _ _ _ (by omega) rfl (by omega) (by omega) (by decide) hP hD hS (lv_sub hl [0] rfl)
          · refine lv_aload_n hx hb dX3_step_88 rfl (lv_at hl 0 rfl) ?_
            refine x_iconst hx hb dX3_step_89 ?_
            refine x_putI (D := D) (ty := .int) (C := RX3) (T := TX3) (N := 6) hx hb 2 hts (iT_X3_step_X3) tyX3 tyX3_ok nmX3 hown hK hP hD hS 0 rfl rfl 2 (by decide) (hts (.fieldLink RX3 32 "WordSupper$Tape" "token" "I") (by decide +kernel)) (fun _ h9 => h9) rfl (by decide +kernel) rfl rfl (Nat.le_of_ble_eq_true rfl) (wTp cB g ((nn : Nat) : Int) TB (jj 1 ((iv : Nat) : Int) ((iv : Nat) : Int) cv)) (rfl) dX3_step_90 (fun H locs hP hD hS => ?_)
            have L93 : ∀ (k3 t3 : Nat) (ev : Nat) (H : Heap) (locs : List Loc) (ls : Array Slot), t3 + k3 = 120 → (leF TB nn k3 ev = leF TB nn 120 iv) → (nn ≤ ev + k3) → (ev ≤ nn) → va_P D vwCl (wTp cB g ((nn : Nat) : Int) TB (jj 1 ((iv : Nat) : Int) ((ev : Nat) : Int) cv)) H → va_D A (wTp cB g ((nn : Nat) : Int) TB (jj 1 ((iv : Nat) : Int) ((ev : Nat) : Int) cv)) → va_S A s.heap H locs → lv_has ls 1 [(0, .ref (g 0))] → W pg l e { frames := 1, cells := 0, slots := 0, locals := 21 } s m args below meth c H locs 0 0 Q (F0 m 93 ls []) := by
              intro k3
              induction k3 with
              | zero =>
                intro t3 ev H locs ls hk3t hl1 hl2 hl3 hP hD hS hl
                refine lv_aload_n hx hb dX3_step_93 rfl (lv_at hl 0 rfl) ?_
                refine va_get (D := D) (ci := 2) (v := .int (iI ((ev : Nat) : Int))) (C := RX3) (T := TX3) (N := 6) hx hb hts (iT_X3_step_X3) hown hK hP 0 rfl rfl 4 (by decide) (hts (.fieldLink RX3 19 "WordSupper$Tape" "end" "I") (by decide +kernel)) (fun _ h9 => h9) rfl dX3_step_94 ?_
                refine lv_aload_n hx hb dX3_step_97 rfl (lv_at hl 0 rfl) ?_
                refine va_get (D := D) (ci := 2) (v := .int (iI ((nn : Nat) : Int))) (C := RX3) (T := TX3) (N := 6) hx hb hts (iT_X3_step_X3) hown hK hP 0 rfl rfl 0 (by decide) (hts (.fieldLink RX3 15 "WordSupper$Tape" "size" "I") (by decide +kernel)) (fun _ h9 => h9) rfl dX3_step_98 ?_
                refine x_icmp_ge (tgt := 259) hx hb (by omega) (by omega) dX3_step_101 (by decide) (fun c_101 => ?_) (fun c_101 => ?_)
                · have e_l : leF TB nn 120 iv = ev := hl1.symm
                  exact kend (1, ((iv : Nat) : Int), ((ev : Nat) : Int), cv) hP hS rfl (ty_1 e_f (by omega) (by omega) e_l) dX3_step_259
                · exfalso; omega
              | succ k3 ih3 =>
                intro t3 ev H locs ls hk3t hl1 hl2 hl3 hP hD hS hl
                refine lv_aload_n hx hb dX3_step_93 rfl (lv_at hl 0 rfl) ?_
                refine va_get (D := D) (ci := 2) (v := .int (iI ((ev : Nat) : Int))) (C := RX3) (T := TX3) (N := 6) hx hb hts (iT_X3_step_X3) hown hK hP 0 rfl rfl 4 (by decide) (hts (.fieldLink RX3 19 "WordSupper$Tape" "end" "I") (by decide +kernel)) (fun _ h9 => h9) rfl dX3_step_94 ?_
                refine lv_aload_n hx hb dX3_step_97 rfl (lv_at hl 0 rfl) ?_
                refine va_get (D := D) (ci := 2) (v := .int (iI ((nn : Nat) : Int))) (C := RX3) (T := TX3) (N := 6) hx hb hts (iT_X3_step_X3) hown hK hP 0 rfl rfl 0 (by decide) (hts (.fieldLink RX3 15 "WordSupper$Tape" "size" "I") (by decide +kernel)) (fun _ h9 => h9) rfl dX3_step_98 ?_
                refine x_icmp_ge (tgt := 259) hx hb (by omega) (by omega) dX3_step_101 (by decide) (fun c_101 => ?_) (fun c_101 => ?_)
                · have e_l : leF TB nn 120 iv = ev := by rw [← hl1, leF, if_neg (by omega)]
                  exact kend (1, ((iv : Nat) : Int), ((ev : Nat) : Int), cv) hP hS rfl (ty_1 e_f (by omega) (by omega) e_l) dX3_step_259
                · refine lv_aload_n hx hb dX3_step_104 rfl (lv_at hl 0 rfl) ?_
                  refine va_get (D := D) (ci := 2) (v := .ref (g 1)) (C := RX3) (T := TX3) (N := 6) hx hb hts (iT_X3_step_X3) hown hK hP 0 rfl rfl 1 (by decide) (hts (.fieldLink RX3 11 "WordSupper$Tape" "bytes" "[B") (by decide +kernel)) (fun _ h9 => h9) rfl dX3_step_105 ?_
                  refine lv_aload_n hx hb dX3_step_108 rfl (lv_at hl 0 rfl) ?_
                  refine va_get (D := D) (ci := 2) (v := .int (iI ((ev : Nat) : Int))) (C := RX3) (T := TX3) (N := 6) hx hb hts (iT_X3_step_X3) hown hK hP 0 rfl rfl 4 (by decide) (hts (.fieldLink RX3 19 "WordSupper$Tape" "end" "I") (by decide +kernel)) (fun _ h9 => h9) rfl dX3_step_109 ?_
                  have hb3 := sgB_c (hTB (ev) (by omega))
                  refine x_bald hx hb hK hP 1 1 rfl rfl ev rfl (by omega) (by decide) (sgB (TB ev)) (gd_at _ (by omega)) dX3_step_112 ?_
                  refine x_callS (As := [.int (iI (sgB (TB ev)))]) (rest := []) ⟨hx, hb, hml, hown, hts⟩ (kX3_isLetter (sgB (TB ev)) (by omega)) (va_cwS 1 hts gX3_step_X3_isLetter rfl rfl rfl ykSX3_isLetter ⟨Nat.le_of_ble_eq_true rfl, Nat.le_of_ble_eq_true rfl⟩) hP hK hD hS [] rfl (by decide) (fun _ => rfl) (fun _ => wTp cB g ((nn : Nat) : Int) TB (jj 1 ((iv : Nat) : Int) ((ev : Nat) : Int) cv)) (fun _ => rfl) rfl hl.1 rfl (Nat.le_of_ble_eq_true rfl) dX3_step_113 ⟨Nat.le_of_ble_eq_true rfl, Nat.le_of_ble_eq_true rfl⟩ (fun _ H locs _ hP hD hS => ?_)
                  refine W.eq (g2 := F0 m 116 ls [.int (iI (b2 (decide (97 ≤ (sgB (TB ev)) ∧ (sgB (TB ev)) ≤ 122))))]) rfl ?_
                  refine x_ifb_eq (tgt := 259) hx hb dX3_step_116 (by decide) (fun c_116 => ?_) (fun c_116 => ?_)
                  · have e_l : leF TB nn 120 iv = ev := by rw [← hl1, leF, if_neg (by omega)]
                    exact kend (1, ((iv : Nat) : Int), ((ev : Nat) : Int), cv) hP hS rfl (ty_1 e_f (by omega) (by omega) e_l) dX3_step_259
                  · refine lv_aload_n hx hb dX3_step_119 rfl (lv_at hl 0 rfl) ?_
                    refine lv_dup hx hb dX3_step_120 rfl ?_
                    refine va_get (D := D) (ci := 2) (v := .int (iI ((ev : Nat) : Int))) (C := RX3) (T := TX3) (N := 6) hx hb hts (iT_X3_step_X3) hown hK hP 0 rfl rfl 4 (by decide) (hts (.fieldLink RX3 19 "WordSupper$Tape" "end" "I") (by decide +kernel)) (fun _ h9 => h9) rfl dX3_step_121 ?_
                    refine x_iconst hx hb dX3_step_124 ?_
                    refine x_iadd hx hb dX3_step_125 ?_
                    refine x_topi ((ev + 1 : Nat) : Int) (by omega) ?_
                    refine x_putI (D := D) (ty := .int) (C := RX3) (T := TX3) (N := 6) hx hb 2 hts (iT_X3_step_X3) tyX3 tyX3_ok nmX3 hown hK hP hD hS 0 rfl rfl 4 (by decide) (hts (.fieldLink RX3 19 "WordSupper$Tape" "end" "I") (by decide +kernel)) (fun _ h9 => h9) rfl (by decide +kernel) rfl rfl (Nat.le_of_ble_eq_true rfl) (wTp cB g ((nn : Nat) : Int) TB (jj 1 ((iv : Nat) : Int) ((ev + 1 : Nat) : Int) cv)) (rfl) dX3_step_126 (fun H locs hP hD hS => ?_)
                    refine lv_goto (tgt := 93) hx hb dX3_step_129 (by decide) ?_
                    exact ih3 (t3 + 1) (ev + 1) _ _ _ (by omega) (by rw [← hl1, leF, if_pos (by omega)]) (by omega) (by omega) hP hD hS (lv_sub hl [0] rfl)
            exact L93 120 0 iv _ _ _ (by omega) rfl (by omega) (by omega) hP hD hS (lv_sub hl [0] rfl)
        · refine lv_aload_n hx hb dX3_step_65 rfl (lv_at hl 0 rfl) ?_
          refine x_iconst hx hb dX3_step_66 ?_
          refine x_putI (D := D) (ty := .int) (C := RX3) (T := TX3) (N := 6) hx hb 2 hts (iT_X3_step_X3) tyX3 tyX3_ok nmX3 hown hK hP hD hS 0 rfl rfl 2 (by decide) (hts (.fieldLink RX3 32 "WordSupper$Tape" "token" "I") (by decide +kernel)) (fun _ h9 => h9) rfl (by decide +kernel) rfl rfl (Nat.le_of_ble_eq_true rfl) (wTp cB g ((nn : Nat) : Int) TB (jj 0 ((iv : Nat) : Int) ((iv : Nat) : Int) cv)) (rfl) dX3_step_67 (fun H locs hP hD hS => ?_)
          refine lv_goto (tgt := 259) hx hb dX3_step_70 (by decide) ?_
          exact kend (0, ((iv : Nat) : Int), ((iv : Nat) : Int), cv) hP hS rfl (ty_0 e_f (by omega)) dX3_step_259
      · exfalso; omega
    | succ k ih =>
      intro t iv H locs ls hkt hk1 hk2 hk3 hP hD hS hl
      refine lv_aload_n hx hb dX3_step_8 rfl (lv_at hl 0 rfl) ?_
      refine va_get (D := D) (ci := 2) (v := .int (iI ((iv : Nat) : Int))) (C := RX3) (T := TX3) (N := 6) hx hb hts (iT_X3_step_X3) hown hK hP 0 rfl rfl 3 (by decide) (hts (.fieldLink RX3 29 "WordSupper$Tape" "begin" "I") (by decide +kernel)) (fun _ h9 => h9) rfl dX3_step_9 ?_
      refine lv_aload_n hx hb dX3_step_12 rfl (lv_at hl 0 rfl) ?_
      refine va_get (D := D) (ci := 2) (v := .int (iI ((nn : Nat) : Int))) (C := RX3) (T := TX3) (N := 6) hx hb hts (iT_X3_step_X3) hown hK hP 0 rfl rfl 0 (by decide) (hts (.fieldLink RX3 15 "WordSupper$Tape" "size" "I") (by decide +kernel)) (fun _ h9 => h9) rfl dX3_step_13 ?_
      refine x_icmp_ge (tgt := 46) hx hb (by omega) (by omega) dX3_step_16 (by decide) (fun c_16 => ?_) (fun c_16 => ?_)
      · have e_f : skF TB nn 120 e0 = iv := by rw [← hk1, skF, if_neg (by omega)]
        refine lv_aload_n hx hb dX3_step_46 rfl (lv_at hl 0 rfl) ?_
        refine lv_aload_n hx hb dX3_step_47 rfl (lv_at hl 0 rfl) ?_
        refine va_get (D := D) (ci := 2) (v := .int (iI ((iv : Nat) : Int))) (C := RX3) (T := TX3) (N := 6) hx hb hts (iT_X3_step_X3) hown hK hP 0 rfl rfl 3 (by decide) (hts (.fieldLink RX3 29 "WordSupper$Tape" "begin" "I") (by decide +kernel)) (fun _ h9 => h9) rfl dX3_step_48 ?_
        refine x_putI (D := D) (ty := .int) (C := RX3) (T := TX3) (N := 6) hx hb 2 hts (iT_X3_step_X3) tyX3 tyX3_ok nmX3 hown hK hP hD hS 0 rfl rfl 4 (by decide) (hts (.fieldLink RX3 19 "WordSupper$Tape" "end" "I") (by decide +kernel)) (fun _ h9 => h9) rfl (by decide +kernel) rfl rfl (Nat.le_of_ble_eq_true rfl) (wTp cB g ((nn : Nat) : Int) TB (jj ct ((iv : Nat) : Int) ((iv : Nat) : Int) cv)) (rfl) dX3_step_51 (fun H locs hP hD hS => ?_)
        refine lv_aload_n hx hb dX3_step_54 rfl (lv_at hl 0 rfl) ?_
        refine va_get (D := D) (ci := 2) (v := .int (iI ((iv : Nat) : Int))) (C := RX3) (T := TX3) (N := 6) hx hb hts (iT_X3_step_X3) hown hK hP 0 rfl rfl 3 (by decide) (hts (.fieldLink RX3 29 "WordSupper$Tape" "begin" "I") (by decide +kernel)) (fun _ h9 => h9) rfl dX3_step_55 ?_
        refine lv_aload_n hx hb dX3_step_58 rfl (lv_at hl 0 rfl) ?_
        refine va_get (D := D) (ci := 2) (v := .int (iI ((nn : Nat) : Int))) (C := RX3) (T := TX3) (N := 6) hx hb hts (iT_X3_step_X3) hown hK hP 0 rfl rfl 0 (by decide) (hts (.fieldLink RX3 15 "WordSupper$Tape" "size" "I") (by decide +kernel)) (fun _ h9 => h9) rfl dX3_step_59 ?_
        refine x_icmp_lt (tgt := 73) hx hb (by omega) (by omega) dX3_step_62 (by decide) (fun c_62 => ?_) (fun c_62 => ?_)
        · refine lv_aload_n hx hb dX3_step_73 rfl (lv_at hl 0 rfl) ?_
          refine va_get (D := D) (ci := 2) (v := .ref (g 1)) (C := RX3) (T := TX3) (N := 6) hx hb hts (iT_X3_step_X3) hown hK hP 0 rfl rfl 1 (by decide) (hts (.fieldLink RX3 11 "WordSupper$Tape" "bytes" "[B") (by decide +kernel)) (fun _ h9 => h9) rfl dX3_step_74 ?_
          refine lv_aload_n hx hb dX3_step_77 rfl (lv_at hl 0 rfl) ?_
          refine va_get (D := D) (ci := 2) (v := .int (iI ((iv : Nat) : Int))) (C := RX3) (T := TX3) (N := 6) hx hb hts (iT_X3_step_X3) hown hK hP 0 rfl rfl 3 (by decide) (hts (.fieldLink RX3 29 "WordSupper$Tape" "begin" "I") (by decide +kernel)) (fun _ h9 => h9) rfl dX3_step_78 ?_
          have hb2 := sgB_c (hTB (iv) (by omega))
          refine x_bald hx hb hK hP 1 1 rfl rfl iv rfl (by omega) (by decide) (sgB (TB iv)) (gd_at _ (by omega)) dX3_step_81 ?_
          refine x_callS (As := [.int (iI (sgB (TB iv)))]) (rest := []) ⟨hx, hb, hml, hown, hts⟩ (kX3_isLetter (sgB (TB iv)) (by omega)) (va_cwS 1 hts gX3_step_X3_isLetter rfl rfl rfl ykSX3_isLetter ⟨Nat.le_of_ble_eq_true rfl, Nat.le_of_ble_eq_true rfl⟩) hP hK hD hS [] rfl (by decide) (fun _ => rfl) (fun _ => wTp cB g ((nn : Nat) : Int) TB (jj ct ((iv : Nat) : Int) ((iv : Nat) : Int) cv)) (fun _ => rfl) rfl hl.1 rfl (Nat.le_of_ble_eq_true rfl) dX3_step_82 ⟨Nat.le_of_ble_eq_true rfl, Nat.le_of_ble_eq_true rfl⟩ (fun _ H locs _ hP hD hS => ?_)
          refine W.eq (g2 := F0 m 85 ls [.int (iI (b2 (decide (97 ≤ (sgB (TB iv)) ∧ (sgB (TB iv)) ≤ 122))))]) rfl ?_
          refine x_ifb_eq (tgt := 132) hx hb dX3_step_85 (by decide) (fun c_85 => ?_) (fun c_85 => ?_)
          · refine lv_aload_n hx hb dX3_step_132 rfl (lv_at hl 0 rfl) ?_
            refine va_get (D := D) (ci := 2) (v := .ref (g 1)) (C := RX3) (T := TX3) (N := 6) hx hb hts (iT_X3_step_X3) hown hK hP 0 rfl rfl 1 (by decide) (hts (.fieldLink RX3 11 "WordSupper$Tape" "bytes" "[B") (by decide +kernel)) (fun _ h9 => h9) rfl dX3_step_133 ?_
            refine lv_aload_n hx hb dX3_step_136 rfl (lv_at hl 0 rfl) ?_
            refine va_get (D := D) (ci := 2) (v := .int (iI ((iv : Nat) : Int))) (C := RX3) (T := TX3) (N := 6) hx hb hts (iT_X3_step_X3) hown hK hP 0 rfl rfl 3 (by decide) (hts (.fieldLink RX3 29 "WordSupper$Tape" "begin" "I") (by decide +kernel)) (fun _ h9 => h9) rfl dX3_step_137 ?_
            have hb4 := sgB_c (hTB (iv) (by omega))
            refine x_bald hx hb hK hP 1 1 rfl rfl iv rfl (by omega) (by decide) (sgB (TB iv)) (gd_at _ (by omega)) dX3_step_140 ?_
            refine x_callS (As := [.int (iI (sgB (TB iv)))]) (rest := []) ⟨hx, hb, hml, hown, hts⟩ (kX3_isDigit (sgB (TB iv)) (by omega)) (va_cwS 1 hts gX3_step_X3_isDigit rfl rfl rfl ykSX3_isDigit ⟨Nat.le_of_ble_eq_true rfl, Nat.le_of_ble_eq_true rfl⟩) hP hK hD hS [] rfl (by decide) (fun _ => rfl) (fun _ => wTp cB g ((nn : Nat) : Int) TB (jj ct ((iv : Nat) : Int) ((iv : Nat) : Int) cv)) (fun _ => rfl) rfl hl.1 rfl (Nat.le_of_ble_eq_true rfl) dX3_step_141 ⟨Nat.le_of_ble_eq_true rfl, Nat.le_of_ble_eq_true rfl⟩ (fun _ H locs _ hP hD hS => ?_)
            refine W.eq (g2 := F0 m 144 ls [.int (iI (b2 (decide (48 ≤ (sgB (TB iv)) ∧ (sgB (TB iv)) ≤ 57))))]) rfl ?_
            refine x_ifb_eq (tgt := 226) hx hb dX3_step_144 (by decide) (fun c_144 => ?_) (fun c_144 => ?_)
            · refine lv_aload_n hx hb dX3_step_226 rfl (lv_at hl 0 rfl) ?_
              refine lv_aload_n hx hb dX3_step_227 rfl (lv_at hl 0 rfl) ?_
              refine va_get (D := D) (ci := 2) (v := .ref (g 1)) (C := RX3) (T := TX3) (N := 6) hx hb hts (iT_X3_step_X3) hown hK hP 0 rfl rfl 1 (by decide) (hts (.fieldLink RX3 11 "WordSupper$Tape" "bytes" "[B") (by decide +kernel)) (fun _ h9 => h9) rfl dX3_step_228 ?_
              refine lv_aload_n hx hb dX3_step_231 rfl (lv_at hl 0 rfl) ?_
              refine va_get (D := D) (ci := 2) (v := .int (iI ((iv : Nat) : Int))) (C := RX3) (T := TX3) (N := 6) hx hb hts (iT_X3_step_X3) hown hK hP 0 rfl rfl 3 (by decide) (hts (.fieldLink RX3 29 "WordSupper$Tape" "begin" "I") (by decide +kernel)) (fun _ h9 => h9) rfl dX3_step_232 ?_
              have hb6 := sgB_c (hTB (iv) (by omega))
              refine x_bald hx hb hK hP 1 1 rfl rfl iv rfl (by omega) (by decide) (sgB (TB iv)) (gd_at _ (by omega)) dX3_step_235 ?_
              refine x_bipush hx hb dX3_step_236 (by decide) ?_
              refine x_icmp_ne (tgt := 245) hx hb (by omega) (by decide) dX3_step_238 (by decide) (fun c_238 => ?_) (fun c_238 => ?_)
              · refine x_iconst hx hb dX3_step_245 ?_
                refine x_putI (D := D) (ty := .int) (C := RX3) (T := TX3) (N := 6) hx hb 2 hts (iT_X3_step_X3) tyX3 tyX3_ok nmX3 hown hK hP hD hS 0 rfl rfl 2 (by decide) (hts (.fieldLink RX3 32 "WordSupper$Tape" "token" "I") (by decide +kernel)) (fun _ h9 => h9) rfl (by decide +kernel) rfl rfl (Nat.le_of_ble_eq_true rfl) (wTp cB g ((nn : Nat) : Int) TB (jj 4 ((iv : Nat) : Int) ((iv : Nat) : Int) cv)) (rfl) dX3_step_246 (fun H locs hP hD hS => ?_)
                refine lv_aload_n hx hb dX3_step_249 rfl (lv_at hl 0 rfl) ?_
                refine lv_dup hx hb dX3_step_250 rfl ?_
                refine va_get (D := D) (ci := 2) (v := .int (iI ((iv : Nat) : Int))) (C := RX3) (T := TX3) (N := 6) hx hb hts (iT_X3_step_X3) hown hK hP 0 rfl rfl 4 (by decide) (hts (.fieldLink RX3 19 "WordSupper$Tape" "end" "I") (by decide +kernel)) (fun _ h9 => h9) rfl dX3_step_251 ?_
                refine x_iconst hx hb dX3_step_254 ?_
                refine x_iadd hx hb dX3_step_255 ?_
                refine x_topi ((iv + 1 : Nat) : Int) (by omega) ?_
                refine x_putI (D := D) (ty := .int) (C := RX3) (T := TX3) (N := 6) hx hb 2 hts (iT_X3_step_X3) tyX3 tyX3_ok nmX3 hown hK hP hD hS 0 rfl rfl 4 (by decide) (hts (.fieldLink RX3 19 "WordSupper$Tape" "end" "I") (by decide +kernel)) (fun _ h9 => h9) rfl (by decide +kernel) rfl rfl (Nat.le_of_ble_eq_true rfl) (wTp cB g ((nn : Nat) : Int) TB (jj 4 ((iv : Nat) : Int) ((iv + 1 : Nat) : Int) cv)) (rfl) dX3_step_256 (fun H locs hP hD hS => ?_)
                exact kend (4, ((iv : Nat) : Int), ((iv + 1 : Nat) : Int), cv) hP hS rfl (ty_4 e_f (by omega) (by omega) (by omega) (by omega)) dX3_step_259
              · refine x_iconst hx hb dX3_step_241 ?_
                refine lv_goto (tgt := 246) hx hb dX3_step_242 (by decide) ?_
                refine x_putI (D := D) (ty := .int) (C := RX3) (T := TX3) (N := 6) hx hb 2 hts (iT_X3_step_X3) tyX3 tyX3_ok nmX3 hown hK hP hD hS 0 rfl rfl 2 (by decide) (hts (.fieldLink RX3 32 "WordSupper$Tape" "token" "I") (by decide +kernel)) (fun _ h9 => h9) rfl (by decide +kernel) rfl rfl (Nat.le_of_ble_eq_true rfl) (wTp cB g ((nn : Nat) : Int) TB (jj 3 ((iv : Nat) : Int) ((iv : Nat) : Int) cv)) (rfl) dX3_step_246 (fun H locs hP hD hS => ?_)
                refine lv_aload_n hx hb dX3_step_249 rfl (lv_at hl 0 rfl) ?_
                refine lv_dup hx hb dX3_step_250 rfl ?_
                refine va_get (D := D) (ci := 2) (v := .int (iI ((iv : Nat) : Int))) (C := RX3) (T := TX3) (N := 6) hx hb hts (iT_X3_step_X3) hown hK hP 0 rfl rfl 4 (by decide) (hts (.fieldLink RX3 19 "WordSupper$Tape" "end" "I") (by decide +kernel)) (fun _ h9 => h9) rfl dX3_step_251 ?_
                refine x_iconst hx hb dX3_step_254 ?_
                refine x_iadd hx hb dX3_step_255 ?_
                refine x_topi ((iv + 1 : Nat) : Int) (by omega) ?_
                refine x_putI (D := D) (ty := .int) (C := RX3) (T := TX3) (N := 6) hx hb 2 hts (iT_X3_step_X3) tyX3 tyX3_ok nmX3 hown hK hP hD hS 0 rfl rfl 4 (by decide) (hts (.fieldLink RX3 19 "WordSupper$Tape" "end" "I") (by decide +kernel)) (fun _ h9 => h9) rfl (by decide +kernel) rfl rfl (Nat.le_of_ble_eq_true rfl) (wTp cB g ((nn : Nat) : Int) TB (jj 3 ((iv : Nat) : Int) ((iv + 1 : Nat) : Int) cv)) (rfl) dX3_step_256 (fun H locs hP hD hS => ?_)
                exact kend (3, ((iv : Nat) : Int), ((iv + 1 : Nat) : Int), cv) hP hS rfl (ty_3 e_f (by omega) (by omega) (by omega) (by omega)) dX3_step_259
            · refine lv_aload_n hx hb dX3_step_147 rfl (lv_at hl 0 rfl) ?_
              refine x_iconst hx hb dX3_step_148 ?_
              refine x_putI (D := D) (ty := .int) (C := RX3) (T := TX3) (N := 6) hx hb 2 hts (iT_X3_step_X3) tyX3 tyX3_ok nmX3 hown hK hP hD hS 0 rfl rfl 2 (by decide) (hts (.fieldLink RX3 32 "WordSupper$Tape" "token" "I") (by decide +kernel)) (fun _ h9 => h9) rfl (by decide +kernel) rfl rfl (Nat.le_of_ble_eq_true rfl) (wTp cB g ((nn : Nat) : Int) TB (jj 2 ((iv : Nat) : Int) ((iv : Nat) : Int) cv)) (rfl) dX3_step_149 (fun H locs hP hD hS => ?_)
              refine lv_aload_n hx hb dX3_step_152 rfl (lv_at hl 0 rfl) ?_
              refine x_iconst hx hb dX3_step_153 ?_
              refine x_putI (D := D) (ty := .int) (C := RX3) (T := TX3) (N := 6) hx hb 2 hts (iT_X3_step_X3) tyX3 tyX3_ok nmX3 hown hK hP hD hS 0 rfl rfl 5 (by decide) (hts (.fieldLink RX3 92 "WordSupper$Tape" "value" "I") (by decide +kernel)) (fun _ h9 => h9) rfl (by decide +kernel) rfl rfl (Nat.le_of_ble_eq_true rfl) (wTp cB g ((nn : Nat) : Int) TB (jj 2 ((iv : Nat) : Int) ((iv : Nat) : Int) 0)) (rfl) dX3_step_154 (fun H locs hP hD hS => ?_)
              have L157 : ∀ (k4 t4 : Nat) (ev : Nat) (vv : Int) (H : Heap) (locs : List Loc) (ls : Array Slot), t4 + k4 = 120 → (dgF TB nn k4 ev vv = dgF TB nn 120 iv 0) → (nn ≤ ev + k4) → (ev ≤ nn) → (0 ≤ vv ∧ vv ≤ 1000) → va_P D vwCl (wTp cB g ((nn : Nat) : Int) TB (jj 2 ((iv : Nat) : Int) ((ev : Nat) : Int) vv)) H → va_D A (wTp cB g ((nn : Nat) : Int) TB (jj 2 ((iv : Nat) : Int) ((ev : Nat) : Int) vv)) → va_S A s.heap H locs → lv_has ls 1 [(0, .ref (g 0))] → W pg l e { frames := 1, cells := 0, slots := 0, locals := 21 } s m args below meth c H locs 0 0 Q (F0 m 157 ls []) := by
                intro k4
                induction k4 with
                | zero =>
                  intro t4 ev vv H locs ls hk4t hd1 hd2 hd3 hd4 hP hD hS hl
                  refine lv_aload_n hx hb dX3_step_157 rfl (lv_at hl 0 rfl) ?_
                  refine va_get (D := D) (ci := 2) (v := .int (iI ((ev : Nat) : Int))) (C := RX3) (T := TX3) (N := 6) hx hb hts (iT_X3_step_X3) hown hK hP 0 rfl rfl 4 (by decide) (hts (.fieldLink RX3 19 "WordSupper$Tape" "end" "I") (by decide +kernel)) (fun _ h9 => h9) rfl dX3_step_158 ?_
                  refine lv_aload_n hx hb dX3_step_161 rfl (lv_at hl 0 rfl) ?_
                  refine va_get (D := D) (ci := 2) (v := .int (iI ((nn : Nat) : Int))) (C := RX3) (T := TX3) (N := 6) hx hb hts (iT_X3_step_X3) hown hK hP 0 rfl rfl 0 (by decide) (hts (.fieldLink RX3 15 "WordSupper$Tape" "size" "I") (by decide +kernel)) (fun _ h9 => h9) rfl dX3_step_162 ?_
                  refine x_icmp_ge (tgt := 259) hx hb (by omega) (by omega) dX3_step_165 (by decide) (fun c_165 => ?_) (fun c_165 => ?_)
                  · have e_d : dgF TB nn 120 iv 0 = (ev, vv) := hd1.symm
                    exact kend (2, ((iv : Nat) : Int), ((ev : Nat) : Int), vv) hP hS rfl (ty_2 e_f (by omega) (by omega) (by omega) e_d) dX3_step_259
                  · exfalso; omega
                | succ k4 ih4 =>
                  intro t4 ev vv H locs ls hk4t hd1 hd2 hd3 hd4 hP hD hS hl
                  refine lv_aload_n hx hb dX3_step_157 rfl (lv_at hl 0 rfl) ?_
                  refine va_get (D := D) (ci := 2) (v := .int (iI ((ev : Nat) : Int))) (C := RX3) (T := TX3) (N := 6) hx hb hts (iT_X3_step_X3) hown hK hP 0 rfl rfl 4 (by decide) (hts (.fieldLink RX3 19 "WordSupper$Tape" "end" "I") (by decide +kernel)) (fun _ h9 => h9) rfl dX3_step_158 ?_
                  refine lv_aload_n hx hb dX3_step_161 rfl (lv_at hl 0 rfl) ?_
                  refine va_get (D := D) (ci := 2) (v := .int (iI ((nn : Nat) : Int))) (C := RX3) (T := TX3) (N := 6) hx hb hts (iT_X3_step_X3) hown hK hP 0 rfl rfl 0 (by decide) (hts (.fieldLink RX3 15 "WordSupper$Tape" "size" "I") (by decide +kernel)) (fun _ h9 => h9) rfl dX3_step_162 ?_
                  refine x_icmp_ge (tgt := 259) hx hb (by omega) (by omega) dX3_step_165 (by decide) (fun c_165 => ?_) (fun c_165 => ?_)
                  · have e_d : dgF TB nn 120 iv 0 = (ev, vv) := by rw [← hd1, dgF, if_neg (by omega)]
                    exact kend (2, ((iv : Nat) : Int), ((ev : Nat) : Int), vv) hP hS rfl (ty_2 e_f (by omega) (by omega) (by omega) e_d) dX3_step_259
                  · refine lv_aload_n hx hb dX3_step_168 rfl (lv_at hl 0 rfl) ?_
                    refine va_get (D := D) (ci := 2) (v := .ref (g 1)) (C := RX3) (T := TX3) (N := 6) hx hb hts (iT_X3_step_X3) hown hK hP 0 rfl rfl 1 (by decide) (hts (.fieldLink RX3 11 "WordSupper$Tape" "bytes" "[B") (by decide +kernel)) (fun _ h9 => h9) rfl dX3_step_169 ?_
                    refine lv_aload_n hx hb dX3_step_172 rfl (lv_at hl 0 rfl) ?_
                    refine va_get (D := D) (ci := 2) (v := .int (iI ((ev : Nat) : Int))) (C := RX3) (T := TX3) (N := 6) hx hb hts (iT_X3_step_X3) hown hK hP 0 rfl rfl 4 (by decide) (hts (.fieldLink RX3 19 "WordSupper$Tape" "end" "I") (by decide +kernel)) (fun _ h9 => h9) rfl dX3_step_173 ?_
                    have hb5 := sgB_c (hTB (ev) (by omega))
                    refine x_bald hx hb hK hP 1 1 rfl rfl ev rfl (by omega) (by decide) (sgB (TB ev)) (gd_at _ (by omega)) dX3_step_176 ?_
                    refine x_callS (As := [.int (iI (sgB (TB ev)))]) (rest := []) ⟨hx, hb, hml, hown, hts⟩ (kX3_isDigit (sgB (TB ev)) (by omega)) (va_cwS 1 hts gX3_step_X3_isDigit rfl rfl rfl ykSX3_isDigit ⟨Nat.le_of_ble_eq_true rfl, Nat.le_of_ble_eq_true rfl⟩) hP hK hD hS [] rfl (by decide) (fun _ => rfl) (fun _ => wTp cB g ((nn : Nat) : Int) TB (jj 2 ((iv : Nat) : Int) ((ev : Nat) : Int) vv)) (fun _ => rfl) rfl hl.1 rfl (Nat.le_of_ble_eq_true rfl) dX3_step_177 ⟨Nat.le_of_ble_eq_true rfl, Nat.le_of_ble_eq_true rfl⟩ (fun _ H locs _ hP hD hS => ?_)
                    refine W.eq (g2 := F0 m 180 ls [.int (iI (b2 (decide (48 ≤ (sgB (TB ev)) ∧ (sgB (TB ev)) ≤ 57))))]) rfl ?_
                    refine x_ifb_eq (tgt := 259) hx hb dX3_step_180 (by decide) (fun c_180 => ?_) (fun c_180 => ?_)
                    · have e_d : dgF TB nn 120 iv 0 = (ev, vv) := by rw [← hd1, dgF, if_neg (by omega)]
                      exact kend (2, ((iv : Nat) : Int), ((ev : Nat) : Int), vv) hP hS rfl (ty_2 e_f (by omega) (by omega) (by omega) e_d) dX3_step_259
                    · refine lv_aload_n hx hb dX3_step_183 rfl (lv_at hl 0 rfl) ?_
                      refine x_sipush hx hb dX3_step_184 (by decide) ?_
                      refine lv_aload_n hx hb dX3_step_187 rfl (lv_at hl 0 rfl) ?_
                      refine va_get (D := D) (ci := 2) (v := .int (iI vv)) (C := RX3) (T := TX3) (N := 6) hx hb hts (iT_X3_step_X3) hown hK hP 0 rfl rfl 5 (by decide) (hts (.fieldLink RX3 92 "WordSupper$Tape" "value" "I") (by decide +kernel)) (fun _ h9 => h9) rfl dX3_step_188 ?_
                      refine x_bipush hx hb dX3_step_191 (by decide) ?_
                      refine x_imul hx hb dX3_step_193 ?_
                      refine lv_aload_n hx hb dX3_step_194 rfl (lv_at hl 0 rfl) ?_
                      refine va_get (D := D) (ci := 2) (v := .ref (g 1)) (C := RX3) (T := TX3) (N := 6) hx hb hts (iT_X3_step_X3) hown hK hP 0 rfl rfl 1 (by decide) (hts (.fieldLink RX3 11 "WordSupper$Tape" "bytes" "[B") (by decide +kernel)) (fun _ h9 => h9) rfl dX3_step_195 ?_
                      refine lv_aload_n hx hb dX3_step_198 rfl (lv_at hl 0 rfl) ?_
                      refine va_get (D := D) (ci := 2) (v := .int (iI ((ev : Nat) : Int))) (C := RX3) (T := TX3) (N := 6) hx hb hts (iT_X3_step_X3) hown hK hP 0 rfl rfl 4 (by decide) (hts (.fieldLink RX3 19 "WordSupper$Tape" "end" "I") (by decide +kernel)) (fun _ h9 => h9) rfl dX3_step_199 ?_
                      refine x_bald hx hb hK hP 1 1 rfl rfl ev rfl (by omega) (by decide) (sgB (TB ev)) (gd_at _ (by omega)) dX3_step_202 ?_
                      refine x_iadd hx hb dX3_step_203 ?_
                      refine x_bipush hx hb dX3_step_204 (by decide) ?_
                      refine x_isub hx hb dX3_step_206 ?_
                      refine x_mmin hx hb (hml.trans hl.1.symm) hown (hts (.methodLink RX3 131 Lib.Math.min.name) (by decide +kernel)) (hts (.static Lib.Math.min.name) (by decide +kernel)) (hts (.initialized "java/lang/Math") (by decide +kernel)) (hts (.code Lib.Math.min.name Lib.Math.min.code 2 (some .int)) (by decide +kernel)) (Nat.le_of_ble_eq_true rfl) (Nat.le_of_ble_eq_true rfl) (Nat.le_of_ble_eq_true rfl) (Nat.le_of_ble_eq_true rfl) (by decide) (by omega) dX3_step_207 ?_
                      refine x_topi (min 1000 (vv * 10 + TB ev - 48)) (by omega) ?_
                      refine x_putI (D := D) (ty := .int) (C := RX3) (T := TX3) (N := 6) hx hb 2 hts (iT_X3_step_X3) tyX3 tyX3_ok nmX3 hown hK hP hD hS 0 rfl rfl 5 (by decide) (hts (.fieldLink RX3 92 "WordSupper$Tape" "value" "I") (by decide +kernel)) (fun _ h9 => h9) rfl (by decide +kernel) rfl rfl (Nat.le_of_ble_eq_true rfl) (wTp cB g ((nn : Nat) : Int) TB (jj 2 ((iv : Nat) : Int) ((ev : Nat) : Int) (min 1000 (vv * 10 + TB ev - 48)))) (rfl) dX3_step_210 (fun H locs hP hD hS => ?_)
                      refine lv_aload_n hx hb dX3_step_213 rfl (lv_at hl 0 rfl) ?_
                      refine lv_dup hx hb dX3_step_214 rfl ?_
                      refine va_get (D := D) (ci := 2) (v := .int (iI ((ev : Nat) : Int))) (C := RX3) (T := TX3) (N := 6) hx hb hts (iT_X3_step_X3) hown hK hP 0 rfl rfl 4 (by decide) (hts (.fieldLink RX3 19 "WordSupper$Tape" "end" "I") (by decide +kernel)) (fun _ h9 => h9) rfl dX3_step_215 ?_
                      refine x_iconst hx hb dX3_step_218 ?_
                      refine x_iadd hx hb dX3_step_219 ?_
                      refine x_topi ((ev + 1 : Nat) : Int) (by omega) ?_
                      refine x_putI (D := D) (ty := .int) (C := RX3) (T := TX3) (N := 6) hx hb 2 hts (iT_X3_step_X3) tyX3 tyX3_ok nmX3 hown hK hP hD hS 0 rfl rfl 4 (by decide) (hts (.fieldLink RX3 19 "WordSupper$Tape" "end" "I") (by decide +kernel)) (fun _ h9 => h9) rfl (by decide +kernel) rfl rfl (Nat.le_of_ble_eq_true rfl) (wTp cB g ((nn : Nat) : Int) TB (jj 2 ((iv : Nat) : Int) ((ev + 1 : Nat) : Int) (min 1000 (vv * 10 + TB ev - 48)))) (rfl) dX3_step_220 (fun H locs hP hD hS => ?_)
                      refine lv_goto (tgt := 157) hx hb dX3_step_223 (by decide) ?_
                      exact ih4 (t4 + 1) (ev + 1) (min 1000 (vv * 10 + TB ev - 48)) _ _ _ (by omega) (by rw [← hd1, dgF, if_pos (by omega)]) (by omega) (by omega) (by omega) hP hD hS (lv_sub hl [0] rfl)
              exact L157 120 0 iv 0 _ _ _ (by omega) rfl (by omega) (by omega) (by decide) hP hD hS (lv_sub hl [0] rfl)
          · refine lv_aload_n hx hb dX3_step_88 rfl (lv_at hl 0 rfl) ?_
            refine x_iconst hx hb dX3_step_89 ?_
            refine x_putI (D := D) (ty := .int) (C := RX3) (T := TX3) (N := 6) hx hb 2 hts (iT_X3_step_X3) tyX3 tyX3_ok nmX3 hown hK hP hD hS 0 rfl rfl 2 (by decide) (hts (.fieldLink RX3 32 "WordSupper$Tape" "token" "I") (by decide +kernel)) (fun _ h9 => h9) rfl (by decide +kernel) rfl rfl (Nat.le_of_ble_eq_true rfl) (wTp cB g ((nn : Nat) : Int) TB (jj 1 ((iv : Nat) : Int) ((iv : Nat) : Int) cv)) (rfl) dX3_step_90 (fun H locs hP hD hS => ?_)
            have L93 : ∀ (k3 t3 : Nat) (ev : Nat) (H : Heap) (locs : List Loc) (ls : Array Slot), t3 + k3 = 120 → (leF TB nn k3 ev = leF TB nn 120 iv) → (nn ≤ ev + k3) → (ev ≤ nn) → va_P D vwCl (wTp cB g ((nn : Nat) : Int) TB (jj 1 ((iv : Nat) : Int) ((ev : Nat) : Int) cv)) H → va_D A (wTp cB g ((nn : Nat) : Int) TB (jj 1 ((iv : Nat) : Int) ((ev : Nat) : Int) cv)) → va_S A s.heap H locs → lv_has ls 1 [(0, .ref (g 0))] → W pg l e { frames := 1, cells := 0, slots := 0, locals := 21 } s m args below meth c H locs 0 0 Q (F0 m 93 ls []) := by
              intro k3
              induction k3 with
              | zero =>
                intro t3 ev H locs ls hk3t hl1 hl2 hl3 hP hD hS hl
                refine lv_aload_n hx hb dX3_step_93 rfl (lv_at hl 0 rfl) ?_
                refine va_get (D := D) (ci := 2) (v := .int (iI ((ev : Nat) : Int))) (C := RX3) (T := TX3) (N := 6) hx hb hts (iT_X3_step_X3) hown hK hP 0 rfl rfl 4 (by decide) (hts (.fieldLink RX3 19 "WordSupper$Tape" "end" "I") (by decide +kernel)) (fun _ h9 => h9) rfl dX3_step_94 ?_
                refine lv_aload_n hx hb dX3_step_97 rfl (lv_at hl 0 rfl) ?_
                refine va_get (D := D) (ci := 2) (v := .int (iI ((nn : Nat) : Int))) (C := RX3) (T := TX3) (N := 6) hx hb hts (iT_X3_step_X3) hown hK hP 0 rfl rfl 0 (by decide) (hts (.fieldLink RX3 15 "WordSupper$Tape" "size" "I") (by decide +kernel)) (fun _ h9 => h9) rfl dX3_step_98 ?_
                refine x_icmp_ge (tgt := 259) hx hb (by omega) (by omega) dX3_step_101 (by decide) (fun c_101 => ?_) (fun c_101 => ?_)
                · have e_l : leF TB nn 120 iv = ev := hl1.symm
                  exact kend (1, ((iv : Nat) : Int), ((ev : Nat) : Int), cv) hP hS rfl (ty_1 e_f (by omega) (by omega) e_l) dX3_step_259
                · exfalso; omega
              | succ k3 ih3 =>
                intro t3 ev H locs ls hk3t hl1 hl2 hl3 hP hD hS hl
                refine lv_aload_n hx hb dX3_step_93 rfl (lv_at hl 0 rfl) ?_
                refine va_get (D := D) (ci := 2) (v := .int (iI ((ev : Nat) : Int))) (C := RX3) (T := TX3) (N := 6) hx hb hts (iT_X3_step_X3) hown hK hP 0 rfl rfl 4 (by decide) (hts (.fieldLink RX3 19 "WordSupper$Tape" "end" "I") (by decide +kernel)) (fun _ h9 => h9) rfl dX3_step_94 ?_
                refine lv_aload_n hx hb dX3_step_97 rfl (lv_at hl 0 rfl) ?_
                refine va_get (D := D) (ci := 2) (v := .int (iI ((nn : Nat) : Int))) (C := RX3) (T := TX3) (N := 6) hx hb hts (iT_X3_step_X3) hown hK hP 0 rfl rfl 0 (by decide) (hts (.fieldLink RX3 15 "WordSupper$Tape" "size" "I") (by decide +kernel)) (fun _ h9 => h9) rfl dX3_step_98 ?_
                refine x_icmp_ge (tgt := 259) hx hb (by omega) (by omega) dX3_step_101 (by decide) (fun c_101 => ?_) (fun c_101 => ?_)
                · have e_l : leF TB nn 120 iv = ev := by rw [← hl1, leF, if_neg (by omega)]
                  exact kend (1, ((iv : Nat) : Int), ((ev : Nat) : Int), cv) hP hS rfl (ty_1 e_f (by omega) (by omega) e_l) dX3_step_259
                · refine lv_aload_n hx hb dX3_step_104 rfl (lv_at hl 0 rfl) ?_
                  refine va_get (D := D) (ci := 2) (v := .ref (g 1)) (C := RX3) (T := TX3) (N := 6) hx hb hts (iT_X3_step_X3) hown hK hP 0 rfl rfl 1 (by decide) (hts (.fieldLink RX3 11 "WordSupper$Tape" "bytes" "[B") (by decide +kernel)) (fun _ h9 => h9) rfl dX3_step_105 ?_
                  refine lv_aload_n hx hb dX3_step_108 rfl (lv_at hl 0 rfl) ?_
                  refine va_get (D := D) (ci := 2) (v := .int (iI ((ev : Nat) : Int))) (C := RX3) (T := TX3) (N := 6) hx hb hts (iT_X3_step_X3) hown hK hP 0 rfl rfl 4 (by decide) (hts (.fieldLink RX3 19 "WordSupper$Tape" "end" "I") (by decide +kernel)) (fun _ h9 => h9) rfl dX3_step_109 ?_
                  have hb3 := sgB_c (hTB (ev) (by omega))
                  refine x_bald hx hb hK hP 1 1 rfl rfl ev rfl (by omega) (by decide) (sgB (TB ev)) (gd_at _ (by omega)) dX3_step_112 ?_
                  refine x_callS (As := [.int (iI (sgB (TB ev)))]) (rest := []) ⟨hx, hb, hml, hown, hts⟩ (kX3_isLetter (sgB (TB ev)) (by omega)) (va_cwS 1 hts gX3_step_X3_isLetter rfl rfl rfl ykSX3_isLetter ⟨Nat.le_of_ble_eq_true rfl, Nat.le_of_ble_eq_true rfl⟩) hP hK hD hS [] rfl (by decide) (fun _ => rfl) (fun _ => wTp cB g ((nn : Nat) : Int) TB (jj 1 ((iv : Nat) : Int) ((ev : Nat) : Int) cv)) (fun _ => rfl) rfl hl.1 rfl (Nat.le_of_ble_eq_true rfl) dX3_step_113 ⟨Nat.le_of_ble_eq_true rfl, Nat.le_of_ble_eq_true rfl⟩ (fun _ H locs _ hP hD hS => ?_)
                  refine W.eq (g2 := F0 m 116 ls [.int (iI (b2 (decide (97 ≤ (sgB (TB ev)) ∧ (sgB (TB ev)) ≤ 122))))]) rfl ?_
                  refine x_ifb_eq (tgt := 259) hx hb dX3_step_116 (by decide) (fun c_116 => ?_) (fun c_116 => ?_)
                  · have e_l : leF TB nn 120 iv = ev := by rw [← hl1, leF, if_neg (by omega)]
                    exact kend (1, ((iv : Nat) : Int), ((ev : Nat) : Int), cv) hP hS rfl (ty_1 e_f (by omega) (by omega) e_l) dX3_step_259
                  · refine lv_aload_n hx hb dX3_step_119 rfl (lv_at hl 0 rfl) ?_
                    refine lv_dup hx hb dX3_step_120 rfl ?_
                    refine va_get (D := D) (ci := 2) (v := .int (iI ((ev : Nat) : Int))) (C := RX3) (T := TX3) (N := 6) hx hb hts (iT_X3_step_X3) hown hK hP 0 rfl rfl 4 (by decide) (hts (.fieldLink RX3 19 "WordSupper$Tape" "end" "I") (by decide +kernel)) (fun _ h9 => h9) rfl dX3_step_121 ?_
                    refine x_iconst hx hb dX3_step_124 ?_
                    refine x_iadd hx hb dX3_step_125 ?_
                    refine x_topi ((ev + 1 : Nat) : Int) (by omega) ?_
                    refine x_putI (D := D) (ty := .int) (C := RX3) (T := TX3) (N := 6) hx hb 2 hts (iT_X3_step_X3) tyX3 tyX3_ok nmX3 hown hK hP hD hS 0 rfl rfl 4 (by decide) (hts (.fieldLink RX3 19 "WordSupper$Tape" "end" "I") (by decide +kernel)) (fun _ h9 => h9) rfl (by decide +kernel) rfl rfl (Nat.le_of_ble_eq_true rfl) (wTp cB g ((nn : Nat) : Int) TB (jj 1 ((iv : Nat) : Int) ((ev + 1 : Nat) : Int) cv)) (rfl) dX3_step_126 (fun H locs hP hD hS => ?_)
                    refine lv_goto (tgt := 93) hx hb dX3_step_129 (by decide) ?_
                    exact ih3 (t3 + 1) (ev + 1) _ _ _ (by omega) (by rw [← hl1, leF, if_pos (by omega)]) (by omega) (by omega) hP hD hS (lv_sub hl [0] rfl)
            exact L93 120 0 iv _ _ _ (by omega) rfl (by omega) (by omega) hP hD hS (lv_sub hl [0] rfl)
        · refine lv_aload_n hx hb dX3_step_65 rfl (lv_at hl 0 rfl) ?_
          refine x_iconst hx hb dX3_step_66 ?_
          refine x_putI (D := D) (ty := .int) (C := RX3) (T := TX3) (N := 6) hx hb 2 hts (iT_X3_step_X3) tyX3 tyX3_ok nmX3 hown hK hP hD hS 0 rfl rfl 2 (by decide) (hts (.fieldLink RX3 32 "WordSupper$Tape" "token" "I") (by decide +kernel)) (fun _ h9 => h9) rfl (by decide +kernel) rfl rfl (Nat.le_of_ble_eq_true rfl) (wTp cB g ((nn : Nat) : Int) TB (jj 0 ((iv : Nat) : Int) ((iv : Nat) : Int) cv)) (rfl) dX3_step_67 (fun H locs hP hD hS => ?_)
          refine lv_goto (tgt := 259) hx hb dX3_step_70 (by decide) ?_
          exact kend (0, ((iv : Nat) : Int), ((iv : Nat) : Int), cv) hP hS rfl (ty_0 e_f (by omega)) dX3_step_259
      · refine lv_aload_n hx hb dX3_step_19 rfl (lv_at hl 0 rfl) ?_
        refine va_get (D := D) (ci := 2) (v := .ref (g 1)) (C := RX3) (T := TX3) (N := 6) hx hb hts (iT_X3_step_X3) hown hK hP 0 rfl rfl 1 (by decide) (hts (.fieldLink RX3 11 "WordSupper$Tape" "bytes" "[B") (by decide +kernel)) (fun _ h9 => h9) rfl dX3_step_20 ?_
        refine lv_aload_n hx hb dX3_step_23 rfl (lv_at hl 0 rfl) ?_
        refine va_get (D := D) (ci := 2) (v := .int (iI ((iv : Nat) : Int))) (C := RX3) (T := TX3) (N := 6) hx hb hts (iT_X3_step_X3) hown hK hP 0 rfl rfl 3 (by decide) (hts (.fieldLink RX3 29 "WordSupper$Tape" "begin" "I") (by decide +kernel)) (fun _ h9 => h9) rfl dX3_step_24 ?_
        have hb1 := sgB_c (hTB (iv) (by omega))
        refine x_bald hx hb hK hP 1 1 rfl rfl iv rfl (by omega) (by decide) (sgB (TB iv)) (gd_at _ (by omega)) dX3_step_27 ?_
        refine x_bipush hx hb dX3_step_28 (by decide) ?_
        refine x_icmp_ne (tgt := 46) hx hb (by omega) (by decide) dX3_step_30 (by decide) (fun c_30 => ?_) (fun c_30 => ?_)
        · have e_f : skF TB nn 120 e0 = iv := by rw [← hk1, skF, if_neg (by omega)]
          refine lv_aload_n hx hb dX3_step_46 rfl (lv_at hl 0 rfl) ?_
          refine lv_aload_n hx hb dX3_step_47 rfl (lv_at hl 0 rfl) ?_
          refine va_get (D := D) (ci := 2) (v := .int (iI ((iv : Nat) : Int))) (C := RX3) (T := TX3) (N := 6) hx hb hts (iT_X3_step_X3) hown hK hP 0 rfl rfl 3 (by decide) (hts (.fieldLink RX3 29 "WordSupper$Tape" "begin" "I") (by decide +kernel)) (fun _ h9 => h9) rfl dX3_step_48 ?_
          refine x_putI (D := D) (ty := .int) (C := RX3) (T := TX3) (N := 6) hx hb 2 hts (iT_X3_step_X3) tyX3 tyX3_ok nmX3 hown hK hP hD hS 0 rfl rfl 4 (by decide) (hts (.fieldLink RX3 19 "WordSupper$Tape" "end" "I") (by decide +kernel)) (fun _ h9 => h9) rfl (by decide +kernel) rfl rfl (Nat.le_of_ble_eq_true rfl) (wTp cB g ((nn : Nat) : Int) TB (jj ct ((iv : Nat) : Int) ((iv : Nat) : Int) cv)) (rfl) dX3_step_51 (fun H locs hP hD hS => ?_)
          refine lv_aload_n hx hb dX3_step_54 rfl (lv_at hl 0 rfl) ?_
          refine va_get (D := D) (ci := 2) (v := .int (iI ((iv : Nat) : Int))) (C := RX3) (T := TX3) (N := 6) hx hb hts (iT_X3_step_X3) hown hK hP 0 rfl rfl 3 (by decide) (hts (.fieldLink RX3 29 "WordSupper$Tape" "begin" "I") (by decide +kernel)) (fun _ h9 => h9) rfl dX3_step_55 ?_
          refine lv_aload_n hx hb dX3_step_58 rfl (lv_at hl 0 rfl) ?_
          refine va_get (D := D) (ci := 2) (v := .int (iI ((nn : Nat) : Int))) (C := RX3) (T := TX3) (N := 6) hx hb hts (iT_X3_step_X3) hown hK hP 0 rfl rfl 0 (by decide) (hts (.fieldLink RX3 15 "WordSupper$Tape" "size" "I") (by decide +kernel)) (fun _ h9 => h9) rfl dX3_step_59 ?_
          refine x_icmp_lt (tgt := 73) hx hb (by omega) (by omega) dX3_step_62 (by decide) (fun c_62 => ?_) (fun c_62 => ?_)
          · refine lv_aload_n hx hb dX3_step_73 rfl (lv_at hl 0 rfl) ?_
            refine va_get (D := D) (ci := 2) (v := .ref (g 1)) (C := RX3) (T := TX3) (N := 6) hx hb hts (iT_X3_step_X3) hown hK hP 0 rfl rfl 1 (by decide) (hts (.fieldLink RX3 11 "WordSupper$Tape" "bytes" "[B") (by decide +kernel)) (fun _ h9 => h9) rfl dX3_step_74 ?_
            refine lv_aload_n hx hb dX3_step_77 rfl (lv_at hl 0 rfl) ?_
            refine va_get (D := D) (ci := 2) (v := .int (iI ((iv : Nat) : Int))) (C := RX3) (T := TX3) (N := 6) hx hb hts (iT_X3_step_X3) hown hK hP 0 rfl rfl 3 (by decide) (hts (.fieldLink RX3 29 "WordSupper$Tape" "begin" "I") (by decide +kernel)) (fun _ h9 => h9) rfl dX3_step_78 ?_
            have hb2 := sgB_c (hTB (iv) (by omega))
            refine x_bald hx hb hK hP 1 1 rfl rfl iv rfl (by omega) (by decide) (sgB (TB iv)) (gd_at _ (by omega)) dX3_step_81 ?_
            refine x_callS (As := [.int (iI (sgB (TB iv)))]) (rest := []) ⟨hx, hb, hml, hown, hts⟩ (kX3_isLetter (sgB (TB iv)) (by omega)) (va_cwS 1 hts gX3_step_X3_isLetter rfl rfl rfl ykSX3_isLetter ⟨Nat.le_of_ble_eq_true rfl, Nat.le_of_ble_eq_true rfl⟩) hP hK hD hS [] rfl (by decide) (fun _ => rfl) (fun _ => wTp cB g ((nn : Nat) : Int) TB (jj ct ((iv : Nat) : Int) ((iv : Nat) : Int) cv)) (fun _ => rfl) rfl hl.1 rfl (Nat.le_of_ble_eq_true rfl) dX3_step_82 ⟨Nat.le_of_ble_eq_true rfl, Nat.le_of_ble_eq_true rfl⟩ (fun _ H locs _ hP hD hS => ?_)
            refine W.eq (g2 := F0 m 85 ls [.int (iI (b2 (decide (97 ≤ (sgB (TB iv)) ∧ (sgB (TB iv)) ≤ 122))))]) rfl ?_
            refine x_ifb_eq (tgt := 132) hx hb dX3_step_85 (by decide) (fun c_85 => ?_) (fun c_85 => ?_)
            · refine lv_aload_n hx hb dX3_step_132 rfl (lv_at hl 0 rfl) ?_
              refine va_get (D := D) (ci := 2) (v := .ref (g 1)) (C := RX3) (T := TX3) (N := 6) hx hb hts (iT_X3_step_X3) hown hK hP 0 rfl rfl 1 (by decide) (hts (.fieldLink RX3 11 "WordSupper$Tape" "bytes" "[B") (by decide +kernel)) (fun _ h9 => h9) rfl dX3_step_133 ?_
              refine lv_aload_n hx hb dX3_step_136 rfl (lv_at hl 0 rfl) ?_
              refine va_get (D := D) (ci := 2) (v := .int (iI ((iv : Nat) : Int))) (C := RX3) (T := TX3) (N := 6) hx hb hts (iT_X3_step_X3) hown hK hP 0 rfl rfl 3 (by decide) (hts (.fieldLink RX3 29 "WordSupper$Tape" "begin" "I") (by decide +kernel)) (fun _ h9 => h9) rfl dX3_step_137 ?_
              have hb4 := sgB_c (hTB (iv) (by omega))
              refine x_bald hx hb hK hP 1 1 rfl rfl iv rfl (by omega) (by decide) (sgB (TB iv)) (gd_at _ (by omega)) dX3_step_140 ?_
              refine x_callS (As := [.int (iI (sgB (TB iv)))]) (rest := []) ⟨hx, hb, hml, hown, hts⟩ (kX3_isDigit (sgB (TB iv)) (by omega)) (va_cwS 1 hts gX3_step_X3_isDigit rfl rfl rfl ykSX3_isDigit ⟨Nat.le_of_ble_eq_true rfl, Nat.le_of_ble_eq_true rfl⟩) hP hK hD hS [] rfl (by decide) (fun _ => rfl) (fun _ => wTp cB g ((nn : Nat) : Int) TB (jj ct ((iv : Nat) : Int) ((iv : Nat) : Int) cv)) (fun _ => rfl) rfl hl.1 rfl (Nat.le_of_ble_eq_true rfl) dX3_step_141 ⟨Nat.le_of_ble_eq_true rfl, Nat.le_of_ble_eq_true rfl⟩ (fun _ H locs _ hP hD hS => ?_)
              refine W.eq (g2 := F0 m 144 ls [.int (iI (b2 (decide (48 ≤ (sgB (TB iv)) ∧ (sgB (TB iv)) ≤ 57))))]) rfl ?_
              refine x_ifb_eq (tgt := 226) hx hb dX3_step_144 (by decide) (fun c_144 => ?_) (fun c_144 => ?_)
              · refine lv_aload_n hx hb dX3_step_226 rfl (lv_at hl 0 rfl) ?_
                refine lv_aload_n hx hb dX3_step_227 rfl (lv_at hl 0 rfl) ?_
                refine va_get (D := D) (ci := 2) (v := .ref (g 1)) (C := RX3) (T := TX3) (N := 6) hx hb hts (iT_X3_step_X3) hown hK hP 0 rfl rfl 1 (by decide) (hts (.fieldLink RX3 11 "WordSupper$Tape" "bytes" "[B") (by decide +kernel)) (fun _ h9 => h9) rfl dX3_step_228 ?_
                refine lv_aload_n hx hb dX3_step_231 rfl (lv_at hl 0 rfl) ?_
                refine va_get (D := D) (ci := 2) (v := .int (iI ((iv : Nat) : Int))) (C := RX3) (T := TX3) (N := 6) hx hb hts (iT_X3_step_X3) hown hK hP 0 rfl rfl 3 (by decide) (hts (.fieldLink RX3 29 "WordSupper$Tape" "begin" "I") (by decide +kernel)) (fun _ h9 => h9) rfl dX3_step_232 ?_
                have hb6 := sgB_c (hTB (iv) (by omega))
                refine x_bald hx hb hK hP 1 1 rfl rfl iv rfl (by omega) (by decide) (sgB (TB iv)) (gd_at _ (by omega)) dX3_step_235 ?_
                refine x_bipush hx hb dX3_step_236 (by decide) ?_
                refine x_icmp_ne (tgt := 245) hx hb (by omega) (by decide) dX3_step_238 (by decide) (fun c_238 => ?_) (fun c_238 => ?_)
                · refine x_iconst hx hb dX3_step_245 ?_
                  refine x_putI (D := D) (ty := .int) (C := RX3) (T := TX3) (N := 6) hx hb 2 hts (iT_X3_step_X3) tyX3 tyX3_ok nmX3 hown hK hP hD hS 0 rfl rfl 2 (by decide) (hts (.fieldLink RX3 32 "WordSupper$Tape" "token" "I") (by decide +kernel)) (fun _ h9 => h9) rfl (by decide +kernel) rfl rfl (Nat.le_of_ble_eq_true rfl) (wTp cB g ((nn : Nat) : Int) TB (jj 4 ((iv : Nat) : Int) ((iv : Nat) : Int) cv)) (rfl) dX3_step_246 (fun H locs hP hD hS => ?_)
                  refine lv_aload_n hx hb dX3_step_249 rfl (lv_at hl 0 rfl) ?_
                  refine lv_dup hx hb dX3_step_250 rfl ?_
                  refine va_get (D := D) (ci := 2) (v := .int (iI ((iv : Nat) : Int))) (C := RX3) (T := TX3) (N := 6) hx hb hts (iT_X3_step_X3) hown hK hP 0 rfl rfl 4 (by decide) (hts (.fieldLink RX3 19 "WordSupper$Tape" "end" "I") (by decide +kernel)) (fun _ h9 => h9) rfl dX3_step_251 ?_
                  refine x_iconst hx hb dX3_step_254 ?_
                  refine x_iadd hx hb dX3_step_255 ?_
                  refine x_topi ((iv + 1 : Nat) : Int) (by omega) ?_
                  refine x_putI (D := D) (ty := .int) (C := RX3) (T := TX3) (N := 6) hx hb 2 hts (iT_X3_step_X3) tyX3 tyX3_ok nmX3 hown hK hP hD hS 0 rfl rfl 4 (by decide) (hts (.fieldLink RX3 19 "WordSupper$Tape" "end" "I") (by decide +kernel)) (fun _ h9 => h9) rfl (by decide +kernel) rfl rfl (Nat.le_of_ble_eq_true rfl) (wTp cB g ((nn : Nat) : Int) TB (jj 4 ((iv : Nat) : Int) ((iv + 1 : Nat) : Int) cv)) (rfl) dX3_step_256 (fun H locs hP hD hS => ?_)
                  exact kend (4, ((iv : Nat) : Int), ((iv + 1 : Nat) : Int), cv) hP hS rfl (ty_4 e_f (by omega) (by omega) (by omega) (by omega)) dX3_step_259
                · refine x_iconst hx hb dX3_step_241 ?_
                  refine lv_goto (tgt := 246) hx hb dX3_step_242 (by decide) ?_
                  refine x_putI (D := D) (ty := .int) (C := RX3) (T := TX3) (N := 6) hx hb 2 hts (iT_X3_step_X3) tyX3 tyX3_ok nmX3 hown hK hP hD hS 0 rfl rfl 2 (by decide) (hts (.fieldLink RX3 32 "WordSupper$Tape" "token" "I") (by decide +kernel)) (fun _ h9 => h9) rfl (by decide +kernel) rfl rfl (Nat.le_of_ble_eq_true rfl) (wTp cB g ((nn : Nat) : Int) TB (jj 3 ((iv : Nat) : Int) ((iv : Nat) : Int) cv)) (rfl) dX3_step_246 (fun H locs hP hD hS => ?_)
                  refine lv_aload_n hx hb dX3_step_249 rfl (lv_at hl 0 rfl) ?_
                  refine lv_dup hx hb dX3_step_250 rfl ?_
                  refine va_get (D := D) (ci := 2) (v := .int (iI ((iv : Nat) : Int))) (C := RX3) (T := TX3) (N := 6) hx hb hts (iT_X3_step_X3) hown hK hP 0 rfl rfl 4 (by decide) (hts (.fieldLink RX3 19 "WordSupper$Tape" "end" "I") (by decide +kernel)) (fun _ h9 => h9) rfl dX3_step_251 ?_
                  refine x_iconst hx hb dX3_step_254 ?_
                  refine x_iadd hx hb dX3_step_255 ?_
                  refine x_topi ((iv + 1 : Nat) : Int) (by omega) ?_
                  refine x_putI (D := D) (ty := .int) (C := RX3) (T := TX3) (N := 6) hx hb 2 hts (iT_X3_step_X3) tyX3 tyX3_ok nmX3 hown hK hP hD hS 0 rfl rfl 4 (by decide) (hts (.fieldLink RX3 19 "WordSupper$Tape" "end" "I") (by decide +kernel)) (fun _ h9 => h9) rfl (by decide +kernel) rfl rfl (Nat.le_of_ble_eq_true rfl) (wTp cB g ((nn : Nat) : Int) TB (jj 3 ((iv : Nat) : Int) ((iv + 1 : Nat) : Int) cv)) (rfl) dX3_step_256 (fun H locs hP hD hS => ?_)
                  exact kend (3, ((iv : Nat) : Int), ((iv + 1 : Nat) : Int), cv) hP hS rfl (ty_3 e_f (by omega) (by omega) (by omega) (by omega)) dX3_step_259
              · refine lv_aload_n hx hb dX3_step_147 rfl (lv_at hl 0 rfl) ?_
                refine x_iconst hx hb dX3_step_148 ?_
                refine x_putI (D := D) (ty := .int) (C := RX3) (T := TX3) (N := 6) hx hb 2 hts (iT_X3_step_X3) tyX3 tyX3_ok nmX3 hown hK hP hD hS 0 rfl rfl 2 (by decide) (hts (.fieldLink RX3 32 "WordSupper$Tape" "token" "I") (by decide +kernel)) (fun _ h9 => h9) rfl (by decide +kernel) rfl rfl (Nat.le_of_ble_eq_true rfl) (wTp cB g ((nn : Nat) : Int) TB (jj 2 ((iv : Nat) : Int) ((iv : Nat) : Int) cv)) (rfl) dX3_step_149 (fun H locs hP hD hS => ?_)
                refine lv_aload_n hx hb dX3_step_152 rfl (lv_at hl 0 rfl) ?_
                refine x_iconst hx hb dX3_step_153 ?_
                refine x_putI (D := D) (ty := .int) (C := RX3) (T := TX3) (N := 6) hx hb 2 hts (iT_X3_step_X3) tyX3 tyX3_ok nmX3 hown hK hP hD hS 0 rfl rfl 5 (by decide) (hts (.fieldLink RX3 92 "WordSupper$Tape" "value" "I") (by decide +kernel)) (fun _ h9 => h9) rfl (by decide +kernel) rfl rfl (Nat.le_of_ble_eq_true rfl) (wTp cB g ((nn : Nat) : Int) TB (jj 2 ((iv : Nat) : Int) ((iv : Nat) : Int) 0)) (rfl) dX3_step_154 (fun H locs hP hD hS => ?_)
                have L157 : ∀ (k4 t4 : Nat) (ev : Nat) (vv : Int) (H : Heap) (locs : List Loc) (ls : Array Slot), t4 + k4 = 120 → (dgF TB nn k4 ev vv = dgF TB nn 120 iv 0) → (nn ≤ ev + k4) → (ev ≤ nn) → (0 ≤ vv ∧ vv ≤ 1000) → va_P D vwCl (wTp cB g ((nn : Nat) : Int) TB (jj 2 ((iv : Nat) : Int) ((ev : Nat) : Int) vv)) H → va_D A (wTp cB g ((nn : Nat) : Int) TB (jj 2 ((iv : Nat) : Int) ((ev : Nat) : Int) vv)) → va_S A s.heap H locs → lv_has ls 1 [(0, .ref (g 0))] → W pg l e { frames := 1, cells := 0, slots := 0, locals := 21 } s m args below meth c H locs 0 0 Q (F0 m 157 ls []) := by
                  intro k4
                  induction k4 with
                  | zero =>
                    intro t4 ev vv H locs ls hk4t hd1 hd2 hd3 hd4 hP hD hS hl
                    refine lv_aload_n hx hb dX3_step_157 rfl (lv_at hl 0 rfl) ?_
                    refine va_get (D := D) (ci := 2) (v := .int (iI ((ev : Nat) : Int))) (C := RX3) (T := TX3) (N := 6) hx hb hts (iT_X3_step_X3) hown hK hP 0 rfl rfl 4 (by decide) (hts (.fieldLink RX3 19 "WordSupper$Tape" "end" "I") (by decide +kernel)) (fun _ h9 => h9) rfl dX3_step_158 ?_
                    refine lv_aload_n hx hb dX3_step_161 rfl (lv_at hl 0 rfl) ?_
                    refine va_get (D := D) (ci := 2) (v := .int (iI ((nn : Nat) : Int))) (C := RX3) (T := TX3) (N := 6) hx hb hts (iT_X3_step_X3) hown hK hP 0 rfl rfl 0 (by decide) (hts (.fieldLink RX3 15 "WordSupper$Tape" "size" "I") (by decide +kernel)) (fun _ h9 => h9) rfl dX3_step_162 ?_
                    refine x_icmp_ge (tgt := 259) hx hb (by omega) (by omega) dX3_step_165 (by decide) (fun c_165 => ?_) (fun c_165 => ?_)
                    · have e_d : dgF TB nn 120 iv 0 = (ev, vv) := hd1.symm
                      exact kend (2, ((iv : Nat) : Int), ((ev : Nat) : Int), vv) hP hS rfl (ty_2 e_f (by omega) (by omega) (by omega) e_d) dX3_step_259
                    · exfalso; omega
                  | succ k4 ih4 =>
                    intro t4 ev vv H locs ls hk4t hd1 hd2 hd3 hd4 hP hD hS hl
                    refine lv_aload_n hx hb dX3_step_157 rfl (lv_at hl 0 rfl) ?_
                    refine va_get (D := D) (ci := 2) (v := .int (iI ((ev : Nat) : Int))) (C := RX3) (T := TX3) (N := 6) hx hb hts (iT_X3_step_X3) hown hK hP 0 rfl rfl 4 (by decide) (hts (.fieldLink RX3 19 "WordSupper$Tape" "end" "I") (by decide +kernel)) (fun _ h9 => h9) rfl dX3_step_158 ?_
                    refine lv_aload_n hx hb dX3_step_161 rfl (lv_at hl 0 rfl) ?_
                    refine va_get (D := D) (ci := 2) (v := .int (iI ((nn : Nat) : Int))) (C := RX3) (T := TX3) (N := 6) hx hb hts (iT_X3_step_X3) hown hK hP 0 rfl rfl 0 (by decide) (hts (.fieldLink RX3 15 "WordSupper$Tape" "size" "I") (by decide +kernel)) (fun _ h9 => h9) rfl dX3_step_162 ?_
                    refine x_icmp_ge (tgt := 259) hx hb (by omega) (by omega) dX3_step_165 (by decide) (fun c_165 => ?_) (fun c_165 => ?_)
                    · have e_d : dgF TB nn 120 iv 0 = (ev, vv) := by rw [← hd1, dgF, if_neg (by omega)]
                      exact kend (2, ((iv : Nat) : Int), ((ev : Nat) : Int), vv) hP hS rfl (ty_2 e_f (by omega) (by omega) (by omega) e_d) dX3_step_259
                    · refine lv_aload_n hx hb dX3_step_168 rfl (lv_at hl 0 rfl) ?_
                      refine va_get (D := D) (ci := 2) (v := .ref (g 1)) (C := RX3) (T := TX3) (N := 6) hx hb hts (iT_X3_step_X3) hown hK hP 0 rfl rfl 1 (by decide) (hts (.fieldLink RX3 11 "WordSupper$Tape" "bytes" "[B") (by decide +kernel)) (fun _ h9 => h9) rfl dX3_step_169 ?_
                      refine lv_aload_n hx hb dX3_step_172 rfl (lv_at hl 0 rfl) ?_
                      refine va_get (D := D) (ci := 2) (v := .int (iI ((ev : Nat) : Int))) (C := RX3) (T := TX3) (N := 6) hx hb hts (iT_X3_step_X3) hown hK hP 0 rfl rfl 4 (by decide) (hts (.fieldLink RX3 19 "WordSupper$Tape" "end" "I") (by decide +kernel)) (fun _ h9 => h9) rfl dX3_step_173 ?_
                      have hb5 := sgB_c (hTB (ev) (by omega))
                      refine x_bald hx hb hK hP 1 1 rfl rfl ev rfl (by omega) (by decide) (sgB (TB ev)) (gd_at _ (by omega)) dX3_step_176 ?_
                      refine x_callS (As := [.int (iI (sgB (TB ev)))]) (rest := []) ⟨hx, hb, hml, hown, hts⟩ (kX3_isDigit (sgB (TB ev)) (by omega)) (va_cwS 1 hts gX3_step_X3_isDigit rfl rfl rfl ykSX3_isDigit ⟨Nat.le_of_ble_eq_true rfl, Nat.le_of_ble_eq_true rfl⟩) hP hK hD hS [] rfl (by decide) (fun _ => rfl) (fun _ => wTp cB g ((nn : Nat) : Int) TB (jj 2 ((iv : Nat) : Int) ((ev : Nat) : Int) vv)) (fun _ => rfl) rfl hl.1 rfl (Nat.le_of_ble_eq_true rfl) dX3_step_177 ⟨Nat.le_of_ble_eq_true rfl, Nat.le_of_ble_eq_true rfl⟩ (fun _ H locs _ hP hD hS => ?_)
                      refine W.eq (g2 := F0 m 180 ls [.int (iI (b2 (decide (48 ≤ (sgB (TB ev)) ∧ (sgB (TB ev)) ≤ 57))))]) rfl ?_
                      refine x_ifb_eq (tgt := 259) hx hb dX3_step_180 (by decide) (fun c_180 => ?_) (fun c_180 => ?_)
                      · have e_d : dgF TB nn 120 iv 0 = (ev, vv) := by rw [← hd1, dgF, if_neg (by omega)]
                        exact kend (2, ((iv : Nat) : Int), ((ev : Nat) : Int), vv) hP hS rfl (ty_2 e_f (by omega) (by omega) (by omega) e_d) dX3_step_259
                      · refine lv_aload_n hx hb dX3_step_183 rfl (lv_at hl 0 rfl) ?_
                        refine x_sipush hx hb dX3_step_184 (by decide) ?_
                        refine lv_aload_n hx hb dX3_step_187 rfl (lv_at hl 0 rfl) ?_
                        refine va_get (D := D) (ci := 2) (v := .int (iI vv)) (C := RX3) (T := TX3) (N := 6) hx hb hts (iT_X3_step_X3) hown hK hP 0 rfl rfl 5 (by decide) (hts (.fieldLink RX3 92 "WordSupper$Tape" "value" "I") (by decide +kernel)) (fun _ h9 => h9) rfl dX3_step_188 ?_
                        refine x_bipush hx hb dX3_step_191 (by decide) ?_
                        refine x_imul hx hb dX3_step_193 ?_
                        refine lv_aload_n hx hb dX3_step_194 rfl (lv_at hl 0 rfl) ?_
                        refine va_get (D := D) (ci := 2) (v := .ref (g 1)) (C := RX3) (T := TX3) (N := 6) hx hb hts (iT_X3_step_X3) hown hK hP 0 rfl rfl 1 (by decide) (hts (.fieldLink RX3 11 "WordSupper$Tape" "bytes" "[B") (by decide +kernel)) (fun _ h9 => h9) rfl dX3_step_195 ?_
                        refine lv_aload_n hx hb dX3_step_198 rfl (lv_at hl 0 rfl) ?_
                        refine va_get (D := D) (ci := 2) (v := .int (iI ((ev : Nat) : Int))) (C := RX3) (T := TX3) (N := 6) hx hb hts (iT_X3_step_X3) hown hK hP 0 rfl rfl 4 (by decide) (hts (.fieldLink RX3 19 "WordSupper$Tape" "end" "I") (by decide +kernel)) (fun _ h9 => h9) rfl dX3_step_199 ?_
                        refine x_bald hx hb hK hP 1 1 rfl rfl ev rfl (by omega) (by decide) (sgB (TB ev)) (gd_at _ (by omega)) dX3_step_202 ?_
                        refine x_iadd hx hb dX3_step_203 ?_
                        refine x_bipush hx hb dX3_step_204 (by decide) ?_
                        refine x_isub hx hb dX3_step_206 ?_
                        refine x_mmin hx hb (hml.trans hl.1.symm) hown (hts (.methodLink RX3 131 Lib.Math.min.name) (by decide +kernel)) (hts (.static Lib.Math.min.name) (by decide +kernel)) (hts (.initialized "java/lang/Math") (by decide +kernel)) (hts (.code Lib.Math.min.name Lib.Math.min.code 2 (some .int)) (by decide +kernel)) (Nat.le_of_ble_eq_true rfl) (Nat.le_of_ble_eq_true rfl) (Nat.le_of_ble_eq_true rfl) (Nat.le_of_ble_eq_true rfl) (by decide) (by omega) dX3_step_207 ?_
                        refine x_topi (min 1000 (vv * 10 + TB ev - 48)) (by omega) ?_
                        refine x_putI (D := D) (ty := .int) (C := RX3) (T := TX3) (N := 6) hx hb 2 hts (iT_X3_step_X3) tyX3 tyX3_ok nmX3 hown hK hP hD hS 0 rfl rfl 5 (by decide) (hts (.fieldLink RX3 92 "WordSupper$Tape" "value" "I") (by decide +kernel)) (fun _ h9 => h9) rfl (by decide +kernel) rfl rfl (Nat.le_of_ble_eq_true rfl) (wTp cB g ((nn : Nat) : Int) TB (jj 2 ((iv : Nat) : Int) ((ev : Nat) : Int) (min 1000 (vv * 10 + TB ev - 48)))) (rfl) dX3_step_210 (fun H locs hP hD hS => ?_)
                        refine lv_aload_n hx hb dX3_step_213 rfl (lv_at hl 0 rfl) ?_
                        refine lv_dup hx hb dX3_step_214 rfl ?_
                        refine va_get (D := D) (ci := 2) (v := .int (iI ((ev : Nat) : Int))) (C := RX3) (T := TX3) (N := 6) hx hb hts (iT_X3_step_X3) hown hK hP 0 rfl rfl 4 (by decide) (hts (.fieldLink RX3 19 "WordSupper$Tape" "end" "I") (by decide +kernel)) (fun _ h9 => h9) rfl dX3_step_215 ?_
                        refine x_iconst hx hb dX3_step_218 ?_
                        refine x_iadd hx hb dX3_step_219 ?_
                        refine x_topi ((ev + 1 : Nat) : Int) (by omega) ?_
                        refine x_putI (D := D) (ty := .int) (C := RX3) (T := TX3) (N := 6) hx hb 2 hts (iT_X3_step_X3) tyX3 tyX3_ok nmX3 hown hK hP hD hS 0 rfl rfl 4 (by decide) (hts (.fieldLink RX3 19 "WordSupper$Tape" "end" "I") (by decide +kernel)) (fun _ h9 => h9) rfl (by decide +kernel) rfl rfl (Nat.le_of_ble_eq_true rfl) (wTp cB g ((nn : Nat) : Int) TB (jj 2 ((iv : Nat) : Int) ((ev + 1 : Nat) : Int) (min 1000 (vv * 10 + TB ev - 48)))) (rfl) dX3_step_220 (fun H locs hP hD hS => ?_)
                        refine lv_goto (tgt := 157) hx hb dX3_step_223 (by decide) ?_
                        exact ih4 (t4 + 1) (ev + 1) (min 1000 (vv * 10 + TB ev - 48)) _ _ _ (by omega) (by rw [← hd1, dgF, if_pos (by omega)]) (by omega) (by omega) (by omega) hP hD hS (lv_sub hl [0] rfl)
                exact L157 120 0 iv 0 _ _ _ (by omega) rfl (by omega) (by omega) (by decide) hP hD hS (lv_sub hl [0] rfl)
            · refine lv_aload_n hx hb dX3_step_88 rfl (lv_at hl 0 rfl) ?_
              refine x_iconst hx hb dX3_step_89 ?_
              refine x_putI (D := D) (ty := .int) (C := RX3) (T := TX3) (N := 6) hx hb 2 hts (iT_X3_step_X3) tyX3 tyX3_ok nmX3 hown hK hP hD hS 0 rfl rfl 2 (by decide) (hts (.fieldLink RX3 32 "WordSupper$Tape" "token" "I") (by decide +kernel)) (fun _ h9 => h9) rfl (by decide +kernel) rfl rfl (Nat.le_of_ble_eq_true rfl) (wTp cB g ((nn : Nat) : Int) TB (jj 1 ((iv : Nat) : Int) ((iv : Nat) : Int) cv)) (rfl) dX3_step_90 (fun H locs hP hD hS => ?_)
              have L93 : ∀ (k3 t3 : Nat) (ev : Nat) (H : Heap) (locs : List Loc) (ls : Array Slot), t3 + k3 = 120 → (leF TB nn k3 ev = leF TB nn 120 iv) → (nn ≤ ev + k3) → (ev ≤ nn) → va_P D vwCl (wTp cB g ((nn : Nat) : Int) TB (jj 1 ((iv : Nat) : Int) ((ev : Nat) : Int) cv)) H → va_D A (wTp cB g ((nn : Nat) : Int) TB (jj 1 ((iv : Nat) : Int) ((ev : Nat) : Int) cv)) → va_S A s.heap H locs → lv_has ls 1 [(0, .ref (g 0))] → W pg l e { frames := 1, cells := 0, slots := 0, locals := 21 } s m args below meth c H locs 0 0 Q (F0 m 93 ls []) := by
                intro k3
                induction k3 with
                | zero =>
                  intro t3 ev H locs ls hk3t hl1 hl2 hl3 hP hD hS hl
                  refine lv_aload_n hx hb dX3_step_93 rfl (lv_at hl 0 rfl) ?_
                  refine va_get (D := D) (ci := 2) (v := .int (iI ((ev : Nat) : Int))) (C := RX3) (T := TX3) (N := 6) hx hb hts (iT_X3_step_X3) hown hK hP 0 rfl rfl 4 (by decide) (hts (.fieldLink RX3 19 "WordSupper$Tape" "end" "I") (by decide +kernel)) (fun _ h9 => h9) rfl dX3_step_94 ?_
                  refine lv_aload_n hx hb dX3_step_97 rfl (lv_at hl 0 rfl) ?_
                  refine va_get (D := D) (ci := 2) (v := .int (iI ((nn : Nat) : Int))) (C := RX3) (T := TX3) (N := 6) hx hb hts (iT_X3_step_X3) hown hK hP 0 rfl rfl 0 (by decide) (hts (.fieldLink RX3 15 "WordSupper$Tape" "size" "I") (by decide +kernel)) (fun _ h9 => h9) rfl dX3_step_98 ?_
                  refine x_icmp_ge (tgt := 259) hx hb (by omega) (by omega) dX3_step_101 (by decide) (fun c_101 => ?_) (fun c_101 => ?_)
                  · have e_l : leF TB nn 120 iv = ev := hl1.symm
                    exact kend (1, ((iv : Nat) : Int), ((ev : Nat) : Int), cv) hP hS rfl (ty_1 e_f (by omega) (by omega) e_l) dX3_step_259
                  · exfalso; omega
                | succ k3 ih3 =>
                  intro t3 ev H locs ls hk3t hl1 hl2 hl3 hP hD hS hl
                  refine lv_aload_n hx hb dX3_step_93 rfl (lv_at hl 0 rfl) ?_
                  refine va_get (D := D) (ci := 2) (v := .int (iI ((ev : Nat) : Int))) (C := RX3) (T := TX3) (N := 6) hx hb hts (iT_X3_step_X3) hown hK hP 0 rfl rfl 4 (by decide) (hts (.fieldLink RX3 19 "WordSupper$Tape" "end" "I") (by decide +kernel)) (fun _ h9 => h9) rfl dX3_step_94 ?_
                  refine lv_aload_n hx hb dX3_step_97 rfl (lv_at hl 0 rfl) ?_
                  refine va_get (D := D) (ci := 2) (v := .int (iI ((nn : Nat) : Int))) (C := RX3) (T := TX3) (N := 6) hx hb hts (iT_X3_step_X3) hown hK hP 0 rfl rfl 0 (by decide) (hts (.fieldLink RX3 15 "WordSupper$Tape" "size" "I") (by decide +kernel)) (fun _ h9 => h9) rfl dX3_step_98 ?_
                  refine x_icmp_ge (tgt := 259) hx hb (by omega) (by omega) dX3_step_101 (by decide) (fun c_101 => ?_) (fun c_101 => ?_)
                  · have e_l : leF TB nn 120 iv = ev := by rw [← hl1, leF, if_neg (by omega)]
                    exact kend (1, ((iv : Nat) : Int), ((ev : Nat) : Int), cv) hP hS rfl (ty_1 e_f (by omega) (by omega) e_l) dX3_step_259
                  · refine lv_aload_n hx hb dX3_step_104 rfl (lv_at hl 0 rfl) ?_
                    refine va_get (D := D) (ci := 2) (v := .ref (g 1)) (C := RX3) (T := TX3) (N := 6) hx hb hts (iT_X3_step_X3) hown hK hP 0 rfl rfl 1 (by decide) (hts (.fieldLink RX3 11 "WordSupper$Tape" "bytes" "[B") (by decide +kernel)) (fun _ h9 => h9) rfl dX3_step_105 ?_
                    refine lv_aload_n hx hb dX3_step_108 rfl (lv_at hl 0 rfl) ?_
                    refine va_get (D := D) (ci := 2) (v := .int (iI ((ev : Nat) : Int))) (C := RX3) (T := TX3) (N := 6) hx hb hts (iT_X3_step_X3) hown hK hP 0 rfl rfl 4 (by decide) (hts (.fieldLink RX3 19 "WordSupper$Tape" "end" "I") (by decide +kernel)) (fun _ h9 => h9) rfl dX3_step_109 ?_
                    have hb3 := sgB_c (hTB (ev) (by omega))
                    refine x_bald hx hb hK hP 1 1 rfl rfl ev rfl (by omega) (by decide) (sgB (TB ev)) (gd_at _ (by omega)) dX3_step_112 ?_
                    refine x_callS (As := [.int (iI (sgB (TB ev)))]) (rest := []) ⟨hx, hb, hml, hown, hts⟩ (kX3_isLetter (sgB (TB ev)) (by omega)) (va_cwS 1 hts gX3_step_X3_isLetter rfl rfl rfl ykSX3_isLetter ⟨Nat.le_of_ble_eq_true rfl, Nat.le_of_ble_eq_true rfl⟩) hP hK hD hS [] rfl (by decide) (fun _ => rfl) (fun _ => wTp cB g ((nn : Nat) : Int) TB (jj 1 ((iv : Nat) : Int) ((ev : Nat) : Int) cv)) (fun _ => rfl) rfl hl.1 rfl (Nat.le_of_ble_eq_true rfl) dX3_step_113 ⟨Nat.le_of_ble_eq_true rfl, Nat.le_of_ble_eq_true rfl⟩ (fun _ H locs _ hP hD hS => ?_)
                    refine W.eq (g2 := F0 m 116 ls [.int (iI (b2 (decide (97 ≤ (sgB (TB ev)) ∧ (sgB (TB ev)) ≤ 122))))]) rfl ?_
                    refine x_ifb_eq (tgt := 259) hx hb dX3_step_116 (by decide) (fun c_116 => ?_) (fun c_116 => ?_)
                    · have e_l : leF TB nn 120 iv = ev := by rw [← hl1, leF, if_neg (by omega)]
                      exact kend (1, ((iv : Nat) : Int), ((ev : Nat) : Int), cv) hP hS rfl (ty_1 e_f (by omega) (by omega) e_l) dX3_step_259
                    · refine lv_aload_n hx hb dX3_step_119 rfl (lv_at hl 0 rfl) ?_
                      refine lv_dup hx hb dX3_step_120 rfl ?_
                      refine va_get (D := D) (ci := 2) (v := .int (iI ((ev : Nat) : Int))) (C := RX3) (T := TX3) (N := 6) hx hb hts (iT_X3_step_X3) hown hK hP 0 rfl rfl 4 (by decide) (hts (.fieldLink RX3 19 "WordSupper$Tape" "end" "I") (by decide +kernel)) (fun _ h9 => h9) rfl dX3_step_121 ?_
                      refine x_iconst hx hb dX3_step_124 ?_
                      refine x_iadd hx hb dX3_step_125 ?_
                      refine x_topi ((ev + 1 : Nat) : Int) (by omega) ?_
                      refine x_putI (D := D) (ty := .int) (C := RX3) (T := TX3) (N := 6) hx hb 2 hts (iT_X3_step_X3) tyX3 tyX3_ok nmX3 hown hK hP hD hS 0 rfl rfl 4 (by decide) (hts (.fieldLink RX3 19 "WordSupper$Tape" "end" "I") (by decide +kernel)) (fun _ h9 => h9) rfl (by decide +kernel) rfl rfl (Nat.le_of_ble_eq_true rfl) (wTp cB g ((nn : Nat) : Int) TB (jj 1 ((iv : Nat) : Int) ((ev + 1 : Nat) : Int) cv)) (rfl) dX3_step_126 (fun H locs hP hD hS => ?_)
                      refine lv_goto (tgt := 93) hx hb dX3_step_129 (by decide) ?_
                      exact ih3 (t3 + 1) (ev + 1) _ _ _ (by omega) (by rw [← hl1, leF, if_pos (by omega)]) (by omega) (by omega) hP hD hS (lv_sub hl [0] rfl)
              exact L93 120 0 iv _ _ _ (by omega) rfl (by omega) (by omega) hP hD hS (lv_sub hl [0] rfl)
          · refine lv_aload_n hx hb dX3_step_65 rfl (lv_at hl 0 rfl) ?_
            refine x_iconst hx hb dX3_step_66 ?_
            refine x_putI (D := D) (ty := .int) (C := RX3) (T := TX3) (N := 6) hx hb 2 hts (iT_X3_step_X3) tyX3 tyX3_ok nmX3 hown hK hP hD hS 0 rfl rfl 2 (by decide) (hts (.fieldLink RX3 32 "WordSupper$Tape" "token" "I") (by decide +kernel)) (fun _ h9 => h9) rfl (by decide +kernel) rfl rfl (Nat.le_of_ble_eq_true rfl) (wTp cB g ((nn : Nat) : Int) TB (jj 0 ((iv : Nat) : Int) ((iv : Nat) : Int) cv)) (rfl) dX3_step_67 (fun H locs hP hD hS => ?_)
            refine lv_goto (tgt := 259) hx hb dX3_step_70 (by decide) ?_
            exact kend (0, ((iv : Nat) : Int), ((iv : Nat) : Int), cv) hP hS rfl (ty_0 e_f (by omega)) dX3_step_259
        · refine lv_aload_n hx hb dX3_step_33 rfl (lv_at hl 0 rfl) ?_
          refine lv_dup hx hb dX3_step_34 rfl ?_
          refine va_get (D := D) (ci := 2) (v := .int (iI ((iv : Nat) : Int))) (C := RX3) (T := TX3) (N := 6) hx hb hts (iT_X3_step_X3) hown hK hP 0 rfl rfl 3 (by decide) (hts (.fieldLink RX3 29 "WordSupper$Tape" "begin" "I") (by decide +kernel)) (fun _ h9 => h9) rfl dX3_step_35 ?_
          refine x_iconst hx hb dX3_step_38 ?_
          refine x_iadd hx hb dX3_step_39 ?_
          refine x_topi ((iv + 1 : Nat) : Int) (by omega) ?_
          refine x_putI (D := D) (ty := .int) (C := RX3) (T := TX3) (N := 6) hx hb 2 hts (iT_X3_step_X3) tyX3 tyX3_ok nmX3 hown hK hP hD hS 0 rfl rfl 3 (by decide) (hts (.fieldLink RX3 29 "WordSupper$Tape" "begin" "I") (by decide +kernel)) (fun _ h9 => h9) rfl (by decide +kernel) rfl rfl (Nat.le_of_ble_eq_true rfl) (wTp cB g ((nn : Nat) : Int) TB (jj ct ((iv + 1 : Nat) : Int) ((e0 : Nat) : Int) cv)) (rfl) dX3_step_40 (fun H locs hP hD hS => ?_)
          refine lv_goto (tgt := 8) hx hb dX3_step_43 (by decide) ?_
          exact ih (t + 1) (iv + 1) _ _ _ (by omega) (by rw [← hk1, skF, if_pos (by omega)]) (by omega) (by omega) hP hD hS (lv_sub hl [0] rfl)
  exact L8 120 0 e0 _ _ _ (by omega) rfl (by omega) hen hP hD hS (lv_sub hl [0] rfl)
