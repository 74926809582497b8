theorem ykSX3_isNumber : yX3_isNumber.cls ≠ "java/lang/invoke/MethodHandle" ∧ yX3_isNumber.cls ≠ "java/lang/invoke/VarHandle" ∧ (parseMethodDescriptor yX3_isNumber.desc).map (fun d => d.parameters.length) = some 1 := by decide +kernel
theorem ykVX3_isNumber : yX3_isNumber.cls = RX3 ∧ yX3_isNumber.cls ≠ "java/lang/invoke/MethodHandle" ∧ yX3_isNumber.cls ≠ "java/lang/invoke/VarHandle" ∧ (parseMethodDescriptor yX3_isNumber.desc).map (fun d => d.parameters.length) = some 1 := ⟨rfl, ykSX3_isNumber⟩
set_option maxRecDepth 20000 in
theorem iT_X3_isNumber_X3 : ∀ w ∈ u_ws RX3 TX3 6, w ∈ wsX3_isNumber := by decide +kernel
set_option maxHeartbeats 4000000 in
set_option maxRecDepth 100000 in
theorem kX3_isNumber {l : Launch} {D : va_G} {cI cB : ClassId} (g : Nat → Nat) (tn : Int) (TB : Nat → Int) (ct : Int) (cf : Int) (ce : Int) (cv : Int) (mo : Int) (p : Tk) (nn : Nat) (hp : tyS ct cf ce cv p) (hi : tkI nn p) (hm : rI mo) : Ct l yX3_isNumber wsX3_isNumber 0 0 D [(cI, .int), (cB, .byte)] [.ref (g 0), .int (iI mo)] (wTp cB g tn TB (jj ct cf ce cv)) (S := Unit) (fun _ => some (.int (iI (b2 (decide (nbB p mo = true)))))) (fun _ => True) (fun _ => wTp cB g tn TB (jj ct cf ce cv)) := by
  refine CtZ.of (cc := cX3_isNumber) (maxL := 2) (by decide +kernel) rfl (Nat.le_of_ble_eq_true rfl) ?_
  intro pg e s m args below meth c Q A hx hb hml hts hown hP hK hD hS ls hl kend
  have hown : s.vm.findClass RX3 = some m.cls := hown
  have hl : lv_has ls 2 [(0, .ref (g 0)), (1, .int (iI mo))] := hl
  have hi5 := hi
  obtain ⟨rfl, rfl, rfl, hv_p⟩ := hp
  refine lv_aload_n hx hb dX3_isNumber_0 rfl (lv_at hl 0 rfl) ?_
  obtain ⟨z1, z2, z3, z4, z5, z6⟩ := id hi
  refine va_get (D := D) (ci := 2) (v := .int (iI p.1)) (C := RX3) (T := TX3) (N := 6) hx hb hts (iT_X3_isNumber_X3) hown hK hP 0 rfl rfl 2 (by decide) (hts (.fieldLink RX3 32 "WordSupper$Tape" "token" "I") (by decide +kernel)) (fun _ h9 => h9) rfl dX3_isNumber_1 ?_
  refine x_iconst hx hb dX3_isNumber_4 ?_
  refine x_icmp_ne (tgt := 20) hx hb (by omega) (by decide) dX3_isNumber_5 (by decide) (fun c_5 => ?_) (fun c_5 => ?_)
  · refine x_iconst hx hb dX3_isNumber_20 ?_
    exact kend () hP hS (an_i (b2_f (by rw [nbB_i]; omega)).symm) trivial (by decide) dX3_isNumber_21
  · refine lv_aload_n hx hb dX3_isNumber_8 rfl (lv_at hl 0 rfl) ?_
    refine va_get (D := D) (ci := 2) (v := .int (iI cv)) (C := RX3) (T := TX3) (N := 6) hx hb hts (iT_X3_isNumber_X3) hown hK hP 0 rfl rfl 5 (by decide) (hts (.fieldLink RX3 92 "WordSupper$Tape" "value" "I") (by decide +kernel)) (fun _ h9 => h9) rfl dX3_isNumber_9 ?_
    refine lv_iload_n hx hb dX3_isNumber_12 rfl (lv_at hl 1 rfl) ?_
    refine x_icmp_gt (tgt := 20) hx hb (by omega) (by omega) dX3_isNumber_13 (by decide) (fun c_13 => ?_) (fun c_13 => ?_)
    · refine x_iconst hx hb dX3_isNumber_20 ?_
      exact kend () hP hS (an_i (b2_f (by rw [nbB_i]; omega)).symm) trivial (by decide) dX3_isNumber_21
    · refine x_iconst hx hb dX3_isNumber_16 ?_
      refine lv_goto (tgt := 21) hx hb dX3_isNumber_17 (by decide) ?_
      exact kend () hP hS (an_i (b2_t (by rw [nbB_i]; omega)).symm) trivial (by decide) dX3_isNumber_21
theorem ykSX3_isWord : yX3_isWord.cls ≠ "java/lang/invoke/MethodHandle" ∧ yX3_isWord.cls ≠ "java/lang/invoke/VarHandle" ∧ (parseMethodDescriptor yX3_isWord.desc).map (fun d => d.parameters.length) = some 1 := by decide +kernel
theorem ykVX3_isWord : yX3_isWord.cls = RX3 ∧ yX3_isWord.cls ≠ "java/lang/invoke/MethodHandle" ∧ yX3_isWord.cls ≠ "java/lang/invoke/VarHandle" ∧ (parseMethodDescriptor yX3_isWord.desc).map (fun d => d.parameters.length) = some 1 := ⟨rfl, ykSX3_isWord⟩
set_option maxRecDepth 20000 in
theorem iT_X3_isWord_X3 : ∀ w ∈ u_ws RX3 TX3 6, w ∈ wsX3_isWord := by decide +kernel
set_option maxHeartbeats 4000000 in
set_option maxRecDepth 100000 in
theorem kX3_isWord {l : Launch} {D : va_G} {cI cB : ClassId} {kS vS : Nat → Nat} (g : Nat → Nat) (tn : Int) (TB : Nat → Int) (ct : Int) (cf : Int) (ce : Int) (cv : Int) (nn : Nat) (p : Tk) (i : Nat) (hn : tn = ((nn : Nat) : Int)) (hn9 : nn ≤ 120) (hTB : ∀ i : Nat, i < 120 → 0 ≤ TB i ∧ TB i ≤ 255) (hp : tyS ct cf ce cv p) (hi : tkI nn p) (hi1 : i < 12) : CtS l yX3_isWord wsX3_isWord 4 85 D [(cI, .int), (cB, .byte)] kS vS [.ref (g 0), .ref (kS i)] (wTp cB g tn TB (jj ct cf ce cv)) (S := Unit) (fun _ => some (.int (iI (b2 (decide (wdB TB p (wdA i) = true)))))) (fun _ => True) (fun _ => wTp cB g tn TB (jj ct cf ce cv)) := by
  refine CtSZ.of (cc := cX3_isWord) (maxL := 3) (by decide +kernel) rfl (Nat.le_of_ble_eq_true rfl) ?_
  intro pg e s m args below meth c Q A hx hb hml hts hown hP hK hD hS hX ls hl kend
  have hown : s.vm.findClass RX3 = some m.cls := hown
  have hl : lv_has ls 3 [(0, .ref (g 0)), (1, .ref (kS i))] := hl
  subst hn
  have hle := ln_e i hi1
  have hlb := ln_b i hi1
  obtain ⟨rfl, rfl, rfl, hv_p⟩ := hp
  refine lv_aload_n hx hb dX3_isWord_0 rfl (lv_at hl 0 rfl) ?_
  obtain ⟨z1, z2, z3, z4, z5, z6⟩ := id hi
  refine va_get (D := D) (ci := 2) (v := .int (iI p.1)) (C := RX3) (T := TX3) (N := 6) hx hb hts (iT_X3_isWord_X3) hown hK hP 0 rfl rfl 2 (by decide) (hts (.fieldLink RX3 32 "WordSupper$Tape" "token" "I") (by decide +kernel)) (fun _ h9 => h9) rfl dX3_isWord_1 ?_
  refine x_iconst hx hb dX3_isWord_4 ?_
  refine x_icmp_ne (tgt := 24) hx hb (by omega) (by decide) dX3_isWord_5 (by decide) (fun c_5 => ?_) (fun c_5 => ?_)
  · refine x_iconst hx hb dX3_isWord_24 ?_
    exact kend () hP hS (an_i (b2_f (fun q9 => by have q8 := (wdB_i.mp q9).1; omega)).symm) trivial (by decide) dX3_isWord_25
  · refine lv_aload_n hx hb dX3_isWord_8 rfl (lv_at hl 0 rfl) ?_
    refine va_get (D := D) (ci := 2) (v := .int (iI ((p.2.2.1 : Nat) : Int))) (C := RX3) (T := TX3) (N := 6) hx hb hts (iT_X3_isWord_X3) hown hK hP 0 rfl rfl 4 (by decide) (hts (.fieldLink RX3 19 "WordSupper$Tape" "end" "I") (by decide +kernel)) (fun _ h9 => h9) rfl dX3_isWord_9 ?_
    refine lv_aload_n hx hb dX3_isWord_12 rfl (lv_at hl 0 rfl) ?_
    refine va_get (D := D) (ci := 2) (v := .int (iI ((p.2.1 : Nat) : Int))) (C := RX3) (T := TX3) (N := 6) hx hb hts (iT_X3_isWord_X3) hown hK hP 0 rfl rfl 3 (by decide) (hts (.fieldLink RX3 29 "WordSupper$Tape" "begin" "I") (by decide +kernel)) (fun _ h9 => h9) rfl dX3_isWord_13 ?_
    refine x_isub hx hb dX3_isWord_16 ?_
    refine lv_aload_n hx hb dX3_isWord_17 rfl (lv_at hl 1 rfl) ?_
    refine x_callVK (As := []) (rest := [.int (iI (((p.2.2.1 : Nat) : Int) - ((p.2.1 : Nat) : Int)))]) ⟨hx, hb, hml, hown, hts⟩ (kJ0_length_8abf5 i hi1) (cwV 0 hts gX3_isWord_J0_length_8abf5 rfl rfl rfl ykVJ0_length_8abf5 ⟨Nat.le_of_ble_eq_true rfl, Nat.le_of_ble_eq_true rfl⟩) hP hK hD hS hX hi1 rfl [] rfl (by decide) (fun _ => rfl) (fun _ => wTp cB g ((nn : Nat) : Int) TB (jj p.1 ((p.2.1 : Nat) : Int) ((p.2.2.1 : Nat) : Int) cv)) (fun _ => rfl) rfl hl.1 rfl (Nat.le_of_ble_eq_true rfl) dX3_isWord_18 ⟨Nat.le_of_ble_eq_true rfl, Nat.le_of_ble_eq_true rfl⟩ (fun _ H locs _ hP hD hS => ?_)
    refine W.eq (g2 := F0 m 21 ls [.int (iI ((lenS.getD i 0 : Nat) : Int)), .int (iI (((p.2.2.1 : Nat) : Int) - ((p.2.1 : Nat) : Int)))]) rfl ?_
    refine x_icmp_eq (tgt := 26) hx hb (by omega) (by omega) dX3_isWord_21 (by decide) (fun c_21 => ?_) (fun c_21 => ?_)
    · refine x_iconst hx hb dX3_isWord_26 ?_
      refine lv_istore_n (lv' := [(2, .int (iI 0)), (0, .ref (g 0)), (1, .ref (kS i))]) hx hb dX3_isWord_27 rfl hl (by decide) rfl (fun ls hl => ?_)
      have L28 : ∀ (k t : Nat) (H : Heap) (locs : List Loc) (ls : Array Slot), t + k = lenS.getD i 0 → (∀ x : Nat, x < t → TB (p.2.1 + x) = (wdA i).getD x 0) → va_P D vwCl (wTp cB g ((nn : Nat) : Int) TB (jj p.1 ((p.2.1 : Nat) : Int) ((p.2.2.1 : Nat) : Int) cv)) H → va_D A (wTp cB g ((nn : Nat) : Int) TB (jj p.1 ((p.2.1 : Nat) : Int) ((p.2.2.1 : Nat) : Int) cv)) → va_S A s.heap H locs → lv_has ls 3 [(0, .ref (g 0)), (1, .ref (kS i)), (2, .int (iI ((t : Nat) : Int)))] → W pg l e { frames := 4, cells := 0, slots := 0, locals := 85 } s m args below meth c H locs 0 0 Q (F0 m 28 ls []) := by
        intro k
        induction k with
        | zero =>
          intro t H locs ls hkt hw hP hD hS hl
          refine lv_iload_n hx hb dX3_isWord_28 rfl (lv_at hl 2 rfl) ?_
          refine lv_aload_n hx hb dX3_isWord_29 rfl (lv_at hl 1 rfl) ?_
          refine x_callVK (As := []) (rest := [.int (iI ((t : Nat) : Int))]) ⟨hx, hb, hml, hown, hts⟩ (kJ0_length_8abf5 i hi1) (cwV 0 hts gX3_isWord_J0_length_8abf5 rfl rfl rfl ykVJ0_length_8abf5 ⟨Nat.le_of_ble_eq_true rfl, Nat.le_of_ble_eq_true rfl⟩) hP hK hD hS hX hi1 rfl [] rfl (by decide) (fun _ => rfl) (fun _ => wTp cB g ((nn : Nat) : Int) TB (jj p.1 ((p.2.1 : Nat) : Int) ((p.2.2.1 : Nat) : Int) cv)) (fun _ => rfl) rfl hl.1 rfl (Nat.le_of_ble_eq_true rfl) dX3_isWord_30 ⟨Nat.le_of_ble_eq_true rfl, Nat.le_of_ble_eq_true rfl⟩ (fun _ H locs _ hP hD hS => ?_)
          refine W.eq (g2 := F0 m 33 ls [.int (iI ((lenS.getD i 0 : Nat) : Int)), .int (iI ((t : Nat) : Int))]) rfl ?_
          refine x_icmp_ge (tgt := 63) hx hb (by omega) (by omega) dX3_isWord_33 (by decide) (fun c_33 => ?_) (fun c_33 => ?_)
          · refine x_iconst hx hb dX3_isWord_63 ?_
            exact kend () hP hS (an_i (b2_t (wdB_i.mpr ⟨⟨by omega, by omega⟩, fun x hx9 => hw x (by omega)⟩)).symm) trivial (by decide) dX3_isWord_64
          · exfalso; omega
        | succ k ih =>
          intro t H locs ls hkt hw hP hD hS hl
          refine lv_iload_n hx hb dX3_isWord_28 rfl (lv_at hl 2 rfl) ?_
          refine lv_aload_n hx hb dX3_isWord_29 rfl (lv_at hl 1 rfl) ?_
          refine x_callVK (As := []) (rest := [.int (iI ((t : Nat) : Int))]) ⟨hx, hb, hml, hown, hts⟩ (kJ0_length_8abf5 i hi1) (cwV 0 hts gX3_isWord_J0_length_8abf5 rfl rfl rfl ykVJ0_length_8abf5 ⟨Nat.le_of_ble_eq_true rfl, Nat.le_of_ble_eq_true rfl⟩) hP hK hD hS hX hi1 rfl [] rfl (by decide) (fun _ => rfl) (fun _ => wTp cB g ((nn : Nat) : Int) TB (jj p.1 ((p.2.1 : Nat) : Int) ((p.2.2.1 : Nat) : Int) cv)) (fun _ => rfl) rfl hl.1 rfl (Nat.le_of_ble_eq_true rfl) dX3_isWord_30 ⟨Nat.le_of_ble_eq_true rfl, Nat.le_of_ble_eq_true rfl⟩ (fun _ H locs _ hP hD hS => ?_)
          refine W.eq (g2 := F0 m 33 ls [.int (iI ((lenS.getD i 0 : Nat) : Int)), .int (iI ((t : Nat) : Int))]) rfl ?_
          refine x_icmp_ge (tgt := 63) hx hb (by omega) (by omega) dX3_isWord_33 (by decide) (fun c_33 => ?_) (fun c_33 => ?_)
          · exfalso; omega
          · refine lv_aload_n hx hb dX3_isWord_36 rfl (lv_at hl 0 rfl) ?_
            refine va_get (D := D) (ci := 2) (v := .ref (g 1)) (C := RX3) (T := TX3) (N := 6) hx hb hts (iT_X3_isWord_X3) hown hK hP 0 rfl rfl 1 (by decide) (hts (.fieldLink RX3 11 "WordSupper$Tape" "bytes" "[B") (by decide +kernel)) (fun _ h9 => h9) rfl dX3_isWord_37 ?_
            refine lv_aload_n hx hb dX3_isWord_40 rfl (lv_at hl 0 rfl) ?_
            refine va_get (D := D) (ci := 2) (v := .int (iI ((p.2.1 : Nat) : Int))) (C := RX3) (T := TX3) (N := 6) hx hb hts (iT_X3_isWord_X3) hown hK hP 0 rfl rfl 3 (by decide) (hts (.fieldLink RX3 29 "WordSupper$Tape" "begin" "I") (by decide +kernel)) (fun _ h9 => h9) rfl dX3_isWord_41 ?_
            refine lv_iload_n hx hb dX3_isWord_44 rfl (lv_at hl 2 rfl) ?_
            refine x_iadd hx hb dX3_isWord_45 ?_
            refine x_topi ((p.2.1 + t : Nat) : Int) (by omega) ?_
            have hb1 := sgB_c (hTB (p.2.1 + t) (by omega))
            refine x_bald hx hb hK hP 1 1 rfl rfl (p.2.1 + t) rfl (by omega) (by decide) (sgB (TB (p.2.1 + t))) (gd_at _ (by omega)) dX3_isWord_46 ?_
            refine lv_aload_n hx hb dX3_isWord_47 rfl (lv_at hl 1 rfl) ?_
            refine lv_iload_n hx hb dX3_isWord_48 rfl (lv_at hl 2 rfl) ?_
            obtain ⟨e2, e3, e4, e5⟩ := ch_e i hi1 t (by omega)
            refine x_callVK (As := [.int (iI ((t : Nat) : Int))]) (rest := [.int (iI (sgB (TB (p.2.1 + t))))]) ⟨hx, hb, hml, hown, hts⟩ (kJ0_charAt_5068e i t hi1 (by omega)) (cwV 1 hts gX3_isWord_J0_charAt_5068e rfl rfl rfl ykVJ0_charAt_5068e ⟨Nat.le_of_ble_eq_true rfl, Nat.le_of_ble_eq_true rfl⟩) hP hK hD hS hX hi1 rfl [] rfl (by decide) (fun _ => rfl) (fun _ => wTp cB g ((nn : Nat) : Int) TB (jj p.1 ((p.2.1 : Nat) : Int) ((p.2.2.1 : Nat) : Int) cv)) (fun _ => rfl) rfl hl.1 rfl (Nat.le_of_ble_eq_true rfl) dX3_isWord_49 ⟨Nat.le_of_ble_eq_true rfl, Nat.le_of_ble_eq_true rfl⟩ (fun _ H locs _ hP hD hS => ?_)
            refine W.eq (g2 := F0 m 52 ls [.int (iI ((wdA i).getD t 0)), .int (iI (sgB (TB (p.2.1 + t))))]) rfl ?_
            refine x_icmp_eq (tgt := 57) hx hb (by omega) (by omega) dX3_isWord_52 (by decide) (fun c_52 => ?_) (fun c_52 => ?_)
            · refine x_iinc hx hb 2 ((t + 1 : Nat) : Int) (by omega) [(2, .int (iI ((t + 1 : Nat) : Int))), (0, .ref (g 0)), (1, .ref (kS i))] dX3_isWord_57 hl rfl (by decide) rfl (fun ls hl => ?_)
              refine lv_goto (tgt := 28) hx hb dX3_isWord_60 (by decide) ?_
              exact ih (t + 1) _ _ _ (by omega) (fun x hx9 => (Nat.lt_or_ge x t).elim (hw x) (fun e9 => by rw [show x = t by omega]; omega)) hP hD hS (lv_sub hl [1, 2, 0] rfl)
            · refine x_iconst hx hb dX3_isWord_55 ?_
              exact kend () hP hS (an_i (b2_f (fun q9 => by have q8 := (wdB_i.mp q9).2 t (by omega); omega)).symm) trivial (by decide) dX3_isWord_56
      exact L28 (lenS.getD i 0) 0 _ _ _ (by omega) (fun x hx9 => absurd hx9 (Nat.not_lt_zero x)) hP hD hS (lv_sub hl [1, 2, 0] rfl)
    · refine x_iconst hx hb dX3_isWord_24 ?_
      exact kend () hP hS (an_i (b2_f (fun q9 => by have q8 := (wdB_i.mp q9).1; omega)).symm) trivial (by decide) dX3_isWord_25
