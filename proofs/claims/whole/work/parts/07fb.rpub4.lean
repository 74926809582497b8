theorem ykSX5_load : yX5_load.cls ≠ "java/lang/invoke/MethodHandle" ∧ yX5_load.cls ≠ "java/lang/invoke/VarHandle" ∧ (parseMethodDescriptor yX5_load.desc).map (fun d => d.parameters.length) = some 1 := by decide +kernel
theorem ykVX5_load : yX5_load.cls = RX5 ∧ yX5_load.cls ≠ "java/lang/invoke/MethodHandle" ∧ yX5_load.cls ≠ "java/lang/invoke/VarHandle" ∧ (parseMethodDescriptor yX5_load.desc).map (fun d => d.parameters.length) = some 1 := ⟨rfl, ykSX5_load⟩
set_option maxRecDepth 20000 in
theorem iT_X5_load_X5 : ∀ w ∈ u_ws RX5 TX5 18, w ∈ wsX5_load := by decide +kernel
set_option maxHeartbeats 4000000 in
set_option maxRecDepth 100000 in
theorem kX5_load {l : Launch} {D : va_G} {cI cB : ClassId} (r : Nat → Nat) (T K : Tb) (ik : Int) (SB SS SN : Nat → Int) (tn : Int) (TB F : Nat → Int) (X Y : Tb) (j : Nat → Int) (s0 : Int) (B : Int) (hG : GI B T K ik SB SS SN tn TB F) (hB : B ≤ 40000) (h_s0 : rI s0) : Ct l yX5_load wsX5_load 2 41 D [(cI, .int), (cB, .byte)] [.ref (r 0), .int (iI s0)] (wM cI r (T, K, ik, SB, SS, SN, tn, TB, F) X Y j) (S := (Int × Gs) × Tb × Tb × (Nat → Int)) (fun u => some (.int (iI u.1.1))) (fun u => u.1 = m_load s0 T K ik SB SS SN tn TB F) (fun u => wM cI r u.1.2 u.2.1 u.2.2.1 u.2.2.2) := by
  refine CtI.of (cc := cX5_load) (maxL := 3) (by decide +kernel) rfl (Nat.le_of_ble_eq_true rfl) ?_
  intro pg e s m args below meth c Q A hx hb hml hts hown hP hK hD hS ls hl kend
  have hown : s.vm.findClass RX5 = some m.cls := hown
  have hl : lv_has ls 3 [(0, .ref (r 0)), (1, .int (iI s0))] := hl
  obtain ⟨hI, hIK, hik, hSB, hSS, hSN, htn, hTB, hF⟩ := id hG
  have hn := Inv_n hI
  have hdy := Inv_d hI
  have hP : va_P D vwCl (wRo r ik tn j ++ (wA cI (r 1) 100 T ++ (wA cI (r 2) 100 K ++ (wA cI (r 3) 100 X ++ (wA cI (r 4) 100 Y ++ (wA cI (r 5) 8 (fR F) ++ (wA cI (r 6) 120 TB ++ (wA cI (r 7) 4 (bR SB) ++ (wA cI (r 8) 4 SS ++ (wA cI (r 9) 160 SN)))))))))) s.heap := hP
  have hD : va_D A (wRo r ik tn j ++ (wA cI (r 1) 100 T ++ (wA cI (r 2) 100 K ++ (wA cI (r 3) 100 X ++ (wA cI (r 4) 100 Y ++ (wA cI (r 5) 8 (fR F) ++ (wA cI (r 6) 120 TB ++ (wA cI (r 7) 4 (bR SB) ++ (wA cI (r 8) 4 SS ++ (wA cI (r 9) 160 SN)))))))))) := hD
  have hwa := waF_c SB s0
  refine lv_aload_n hx hb dX5_load_0 rfl (lv_at hl 0 rfl) ?_
  refine lv_iload_n hx hb dX5_load_1 rfl (lv_at hl 1 rfl) ?_
  refine x_callV (As := [.int (iI s0)]) (rest := []) ⟨hx, hb, hml, hown, hts⟩ (kX5_wants r ik tn j SB s0 (by omega) hSB) (cwV 1 hts gX5_load_X5_wants rfl rfl rfl ykVX5_wants ⟨Nat.le_of_ble_eq_true rfl, Nat.le_of_ble_eq_true rfl⟩) hP hK hD hS 0 4 rfl rfl rfl [0, 7] rfl (by decide) (fun _ => rfl) (fun _ => wRo r ik tn j ++ (wA cI (r 1) 100 T ++ (wA cI (r 2) 100 K ++ (wA cI (r 3) 100 X ++ (wA cI (r 4) 100 Y ++ (wA cI (r 5) 8 (fR F) ++ (wA cI (r 6) 120 TB ++ (wA cI (r 7) 4 (bR SB) ++ (wA cI (r 8) 4 SS ++ (wA cI (r 9) 160 SN)))))))))) (fun _ => rfl) rfl hl.1 rfl (Nat.le_of_ble_eq_true rfl) dX5_load_2 ⟨Nat.le_of_ble_eq_true rfl, Nat.le_of_ble_eq_true rfl⟩ (fun _ H locs _ hP hD hS => ?_)
  refine W.eq (g2 := F0 m 5 ls [.int (iI (waF SB s0))]) rfl ?_
  refine x_if_eq (tgt := 18) hx hb (by omega) dX5_load_5 (by decide) (fun c_5 => ?_) (fun c_5 => ?_)
  · have hs9 := waF_0 (show waF SB s0 = 0 by omega)
    obtain ⟨s1, rfl⟩ : ∃ s1 : Nat, s0 = (s1 : Int) := ⟨s0.toNat, by omega⟩
    have hz := hSS s1 (by omega)
    refine x_iconst hx hb dX5_load_18 ?_
    refine lv_istore_n (lv' := [(2, .int (iI 0)), (0, .ref (r 0)), (1, .int (iI ((s1 : Nat) : Int)))]) hx hb dX5_load_19 rfl hl (by decide) rfl (fun ls hl => ?_)
    have L20 : ∀ (k t : Nat) (Tt : Tb) (H : Heap) (locs : List Loc) (ls : Array Slot), t + k = (min 6 (SS s1)).toNat → (ldF SN (40 * s1) k t Tt = ldF SN (40 * s1) (min 6 (SS s1)).toNat 0 T) → va_P D vwCl (wRo r ik tn j ++ (wA cI (r 1) 100 Tt ++ (wA cI (r 2) 100 K ++ (wA cI (r 3) 100 X ++ (wA cI (r 4) 100 Y ++ (wA cI (r 5) 8 (fR F) ++ (wA cI (r 6) 120 TB ++ (wA cI (r 7) 4 (bR SB) ++ (wA cI (r 8) 4 SS ++ (wA cI (r 9) 160 SN)))))))))) H → va_D A (wRo r ik tn j ++ (wA cI (r 1) 100 Tt ++ (wA cI (r 2) 100 K ++ (wA cI (r 3) 100 X ++ (wA cI (r 4) 100 Y ++ (wA cI (r 5) 8 (fR F) ++ (wA cI (r 6) 120 TB ++ (wA cI (r 7) 4 (bR SB) ++ (wA cI (r 8) 4 SS ++ (wA cI (r 9) 160 SN)))))))))) → va_S A s.heap H locs → lv_has ls 3 [(0, .ref (r 0)), (1, .int (iI ((s1 : Nat) : Int))), (2, .int (iI ((t : Nat) : Int)))] → W pg l e { frames := 2, cells := 0, slots := 0, locals := 41 } s m args below meth c H locs 0 0 Q (F0 m 20 ls []) := by
      intro k
      induction k with
      | zero =>
        intro t Tt H locs ls hkt hr hP hD hS hl
        refine lv_iload_n hx hb dX5_load_20 rfl (lv_at hl 2 rfl) ?_
        refine lv_aload_n hx hb dX5_load_21 rfl (lv_at hl 0 rfl) ?_
        refine va_get (D := D) (ci := 4) (v := .ref (r 8)) (C := RX5) (T := TX5) (N := 18) hx hb hts (iT_X5_load_X5) hown hK hP 0 rfl rfl 9 (by decide) (hts (.fieldLink RX5 31 "WordSupperModel" "sizes" "[I") (by decide +kernel)) (fun _ h9 => h9) rfl dX5_load_22 ?_
        refine lv_iload_n hx hb dX5_load_25 rfl (lv_at hl 1 rfl) ?_
        refine x_iald hx hb hK hP 8 0 rfl rfl s1 rfl (by omega) (by decide) (SS s1) (gd_at _ (by omega)) dX5_load_26 ?_
        refine x_icmp_ge (tgt := 83) hx hb (by omega) (by omega) dX5_load_27 (by decide) (fun c_27 => ?_) (fun c_27 => ?_)
        · refine lv_iload_n hx hb dX5_load_83 rfl (lv_at hl 2 rfl) ?_
          exact kend ((((t : Nat) : Int), Tt, K, ik, SB, SS, SN, tn, TB, F), X, Y, j) hP hS rfl (by unfold m_load; rw [if_neg (by omega), Int.toNat_natCast, ← hr] <;> rfl) dX5_load_84
        · refine lv_iload_n hx hb dX5_load_30 rfl (lv_at hl 2 rfl) ?_
          refine x_bipush hx hb dX5_load_31 (by decide) ?_
          refine x_icmp_ge (tgt := 83) hx hb (by omega) (by decide) dX5_load_33 (by decide) (fun c_33 => ?_) (fun c_33 => ?_)
          · refine lv_iload_n hx hb dX5_load_83 rfl (lv_at hl 2 rfl) ?_
            exact kend ((((t : Nat) : Int), Tt, K, ik, SB, SS, SN, tn, TB, F), X, Y, j) hP hS rfl (by unfold m_load; rw [if_neg (by omega), Int.toNat_natCast, ← hr] <;> rfl) dX5_load_84
          · exfalso; omega
      | succ k ih =>
        intro t Tt H locs ls hkt hr hP hD hS hl
        refine lv_iload_n hx hb dX5_load_20 rfl (lv_at hl 2 rfl) ?_
        refine lv_aload_n hx hb dX5_load_21 rfl (lv_at hl 0 rfl) ?_
        refine va_get (D := D) (ci := 4) (v := .ref (r 8)) (C := RX5) (T := TX5) (N := 18) hx hb hts (iT_X5_load_X5) hown hK hP 0 rfl rfl 9 (by decide) (hts (.fieldLink RX5 31 "WordSupperModel" "sizes" "[I") (by decide +kernel)) (fun _ h9 => h9) rfl dX5_load_22 ?_
        refine lv_iload_n hx hb dX5_load_25 rfl (lv_at hl 1 rfl) ?_
        refine x_iald hx hb hK hP 8 0 rfl rfl s1 rfl (by omega) (by decide) (SS s1) (gd_at _ (by omega)) dX5_load_26 ?_
        refine x_icmp_ge (tgt := 83) hx hb (by omega) (by omega) dX5_load_27 (by decide) (fun c_27 => ?_) (fun c_27 => ?_)
        · exfalso; omega
        · refine lv_iload_n hx hb dX5_load_30 rfl (lv_at hl 2 rfl) ?_
          refine x_bipush hx hb dX5_load_31 (by decide) ?_
          refine x_icmp_ge (tgt := 83) hx hb (by omega) (by decide) dX5_load_33 (by decide) (fun c_33 => ?_) (fun c_33 => ?_)
          · exfalso; omega
          · refine lv_aload_n hx hb dX5_load_36 rfl (lv_at hl 0 rfl) ?_
            refine va_get (D := D) (ci := 4) (v := .ref (r 9)) (C := RX5) (T := TX5) (N := 18) hx hb hts (iT_X5_load_X5) hown hK hP 0 rfl rfl 10 (by decide) (hts (.fieldLink RX5 34 "WordSupperModel" "numbers" "[I") (by decide +kernel)) (fun _ h9 => h9) rfl dX5_load_37 ?_
            refine x_bipush hx hb dX5_load_40 (by decide) ?_
            refine lv_iload_n hx hb dX5_load_42 rfl (lv_at hl 1 rfl) ?_
            refine x_imul hx hb dX5_load_43 ?_
            refine x_topi ((40 * s1 : Nat) : Int) (by omega) ?_
            refine lv_iload_n hx hb dX5_load_44 rfl (lv_at hl 2 rfl) ?_
            refine x_iadd hx hb dX5_load_45 ?_
            refine x_topi (((40 * s1) + t : Nat) : Int) (by omega) ?_
            refine x_iald hx hb hK hP 9 0 rfl rfl ((40 * s1) + t) rfl (by omega) (by decide) (SN ((40 * s1) + t)) (gd_at _ (by omega)) dX5_load_46 ?_
            have hq1 := hSN (40 * s1 + t) (by omega)
            refine x_i2l hx hb (by omega) dX5_load_47 ?_
            refine x_lconst hx hb 0 rfl dX5_load_48 ?_
            refine x_ldc2 hx hb 20 rfl hown (hts (.constantLong RX5 57 (20)) (by decide +kernel)) dX5_load_49 ?_
            refine x_callS (As := [.long (lI (SN ((40 * s1) + t))), .long (lI 0), .long (lI 20)]) (rest := []) ⟨hx, hb, hml, hown, hts⟩ (kX5_isIn (SN ((40 * s1) + t)) 0 20 (by omega) (by omega) (by omega)) (va_cwS 3 hts gX5_load_X5_isIn rfl rfl rfl ykSX5_isIn ⟨Nat.le_of_ble_eq_true rfl, Nat.le_of_ble_eq_true rfl⟩) hP hK hD hS [] rfl (by decide) (fun _ => rfl) (fun _ => wRo r ik tn j ++ (wA cI (r 1) 100 Tt ++ (wA cI (r 2) 100 K ++ (wA cI (r 3) 100 X ++ (wA cI (r 4) 100 Y ++ (wA cI (r 5) 8 (fR F) ++ (wA cI (r 6) 120 TB ++ (wA cI (r 7) 4 (bR SB) ++ (wA cI (r 8) 4 SS ++ (wA cI (r 9) 160 SN)))))))))) (fun _ => rfl) rfl hl.1 rfl (Nat.le_of_ble_eq_true rfl) dX5_load_52 ⟨Nat.le_of_ble_eq_true rfl, Nat.le_of_ble_eq_true rfl⟩ (fun _ H locs _ hP hD hS => ?_)
            refine W.eq (g2 := F0 m 55 ls [.int (iI (b2 (decide (0 ≤ (SN ((40 * s1) + t)) ∧ (SN ((40 * s1) + t)) ≤ 20))))]) rfl ?_
            refine x_ifb_eq (tgt := 83) hx hb dX5_load_55 (by decide) (fun c_55 => ?_) (fun c_55 => ?_)
            · refine lv_iload_n hx hb dX5_load_83 rfl (lv_at hl 2 rfl) ?_
              exact kend ((((t : Nat) : Int), Tt, K, ik, SB, SS, SN, tn, TB, F), X, Y, j) hP hS rfl (by unfold m_load; rw [if_neg (by omega), Int.toNat_natCast, ← hr, ldF, if_neg (by omega)] <;> rfl) dX5_load_84
            · refine lv_aload_n hx hb dX5_load_58 rfl (lv_at hl 0 rfl) ?_
              refine va_get (D := D) (ci := 4) (v := .ref (r 1)) (C := RX5) (T := TX5) (N := 18) hx hb hts (iT_X5_load_X5) hown hK hP 0 rfl rfl 0 (by decide) (hts (.fieldLink RX5 7 "WordSupperModel" "s" "[I") (by decide +kernel)) (fun _ h9 => h9) rfl dX5_load_59 ?_
              refine x_iconst hx hb dX5_load_62 ?_
              refine lv_iload_n hx hb dX5_load_63 rfl (lv_at hl 2 rfl) ?_
              refine x_iadd hx hb dX5_load_64 ?_
              refine x_topi ((4 + t : Nat) : Int) (by omega) ?_
              refine lv_aload_n hx hb dX5_load_65 rfl (lv_at hl 0 rfl) ?_
              refine va_get (D := D) (ci := 4) (v := .ref (r 9)) (C := RX5) (T := TX5) (N := 18) hx hb hts (iT_X5_load_X5) hown hK hP 0 rfl rfl 10 (by decide) (hts (.fieldLink RX5 34 "WordSupperModel" "numbers" "[I") (by decide +kernel)) (fun _ h9 => h9) rfl dX5_load_66 ?_
              refine x_bipush hx hb dX5_load_69 (by decide) ?_
              refine lv_iload_n hx hb dX5_load_71 rfl (lv_at hl 1 rfl) ?_
              refine x_imul hx hb dX5_load_72 ?_
              refine x_topi ((40 * s1 : Nat) : Int) (by omega) ?_
              refine lv_iload_n hx hb dX5_load_73 rfl (lv_at hl 2 rfl) ?_
              refine x_iadd hx hb dX5_load_74 ?_
              refine x_topi (((40 * s1) + t : Nat) : Int) (by omega) ?_
              refine x_iald hx hb hK hP 9 0 rfl rfl ((40 * s1) + t) rfl (by omega) (by decide) (SN ((40 * s1) + t)) (gd_at _ (by omega)) dX5_load_75 ?_
              refine x_iast hx hb hK hP hD hS 1 0 rfl rfl (4 + t) rfl (by omega) (by decide) (wRo r ik tn j ++ (wA cI (r 1) 100 (va_up Tt (4 + t) (SN ((40 * s1) + t))) ++ (wA cI (r 2) 100 K ++ (wA cI (r 3) 100 X ++ (wA cI (r 4) 100 Y ++ (wA cI (r 5) 8 (fR F) ++ (wA cI (r 6) 120 TB ++ (wA cI (r 7) 4 (bR SB) ++ (wA cI (r 8) 4 SS ++ (wA cI (r 9) 160 SN)))))))))) (by rw [← wA_up cI (r 1) 100 Tt (SN ((40 * s1) + t)) (4 + t) (by omega)]; rfl) dX5_load_76 (fun H locs hP hD hS => ?_)
              refine x_iinc hx hb 2 ((t + 1 : Nat) : Int) (by omega) [(2, .int (iI ((t + 1 : Nat) : Int))), (0, .ref (r 0)), (1, .int (iI ((s1 : Nat) : Int)))] dX5_load_77 hl rfl (by decide) rfl (fun ls hl => ?_)
              refine lv_goto (tgt := 20) hx hb dX5_load_80 (by decide) ?_
              exact ih (t + 1) (va_up Tt (4 + t) (SN ((40 * s1) + t))) _ _ _ (by omega) (by rw [← hr, ldF, if_pos (by omega)]) hP hD hS (lv_sub hl [1, 2, 0] rfl)
    exact L20 (min 6 (SS s1)).toNat 0 T _ _ _ (by omega) rfl hP hD hS (lv_sub hl [1, 2, 0] rfl)
  · obtain ⟨kw, hkw⟩ : ∃ k9 : Nat, k9 = (-1000001 - waF SB s0).toNat := ⟨_, rfl⟩
    refine lv_aload_n hx hb dX5_load_8 rfl (lv_at hl 0 rfl) ?_
    refine lv_aload_n hx hb dX5_load_9 rfl (lv_at hl 0 rfl) ?_
    refine lv_iload_n hx hb dX5_load_10 rfl (lv_at hl 1 rfl) ?_
    refine x_callV (As := [.int (iI s0)]) (rest := [.ref (r 0)]) ⟨hx, hb, hml, hown, hts⟩ (kX5_wants r ik tn j SB s0 (by omega) hSB) (cwV 1 hts gX5_load_X5_wants rfl rfl rfl ykVX5_wants ⟨Nat.le_of_ble_eq_true rfl, Nat.le_of_ble_eq_true rfl⟩) hP hK hD hS 0 4 rfl rfl rfl [0, 7] rfl (by decide) (fun _ => rfl) (fun _ => wRo r ik tn j ++ (wA cI (r 1) 100 T ++ (wA cI (r 2) 100 K ++ (wA cI (r 3) 100 X ++ (wA cI (r 4) 100 Y ++ (wA cI (r 5) 8 (fR F) ++ (wA cI (r 6) 120 TB ++ (wA cI (r 7) 4 (bR SB) ++ (wA cI (r 8) 4 SS ++ (wA cI (r 9) 160 SN)))))))))) (fun _ => rfl) rfl hl.1 rfl (Nat.le_of_ble_eq_true rfl) dX5_load_11 ⟨Nat.le_of_ble_eq_true rfl, Nat.le_of_ble_eq_true rfl⟩ (fun _ H locs _ hP hD hS => ?_)
    refine W.eq (g2 := F0 m 14 ls [.int (iI (waF SB s0)), .ref (r 0)]) rfl ?_
    refine x_callV (As := [.int (iI (waF SB s0))]) (rest := []) ⟨hx, hb, hml, hown, hts⟩ (kX5_finds r ik tn j F (waF SB s0) kw (by omega) (by omega)) (cwV 1 hts gX5_load_X5_finds rfl rfl rfl ykVX5_finds ⟨Nat.le_of_ble_eq_true rfl, Nat.le_of_ble_eq_true rfl⟩) hP hK hD hS 0 4 rfl rfl rfl [0, 5] rfl (by decide) (fun _ => rfl) (fun _ => wRo r ik tn j ++ (wA cI (r 1) 100 T ++ (wA cI (r 2) 100 K ++ (wA cI (r 3) 100 X ++ (wA cI (r 4) 100 Y ++ (wA cI (r 5) 8 (fR (bmp kw F)) ++ (wA cI (r 6) 120 TB ++ (wA cI (r 7) 4 (bR SB) ++ (wA cI (r 8) 4 SS ++ (wA cI (r 9) 160 SN)))))))))) (fun _ => rfl) rfl hl.1 rfl (Nat.le_of_ble_eq_true rfl) dX5_load_14 ⟨Nat.le_of_ble_eq_true rfl, Nat.le_of_ble_eq_true rfl⟩ (fun _ H locs _ hP hD hS => ?_)
    refine W.eq (g2 := F0 m 17 ls [.int (iI (waF SB s0))]) rfl ?_
    exact kend (((waF SB s0), T, K, ik, SB, SS, SN, tn, TB, (bmp kw F)), X, Y, j) hP hS rfl (by rw [hkw]; exact (if_pos (by omega)).symm) dX5_load_17
theorem ykSX5_judge : yX5_judge.cls ≠ "java/lang/invoke/MethodHandle" ∧ yX5_judge.cls ≠ "java/lang/invoke/VarHandle" ∧ (parseMethodDescriptor yX5_judge.desc).map (fun d => d.parameters.length) = some 1 := by decide +kernel
theorem ykVX5_judge : yX5_judge.cls = RX5 ∧ yX5_judge.cls ≠ "java/lang/invoke/MethodHandle" ∧ yX5_judge.cls ≠ "java/lang/invoke/VarHandle" ∧ (parseMethodDescriptor yX5_judge.desc).map (fun d => d.parameters.length) = some 1 := ⟨rfl, ykSX5_judge⟩
set_option maxRecDepth 20000 in
theorem iT_X5_judge_X5 : ∀ w ∈ u_ws RX5 TX5 18, w ∈ wsX5_judge := by decide +kernel
set_option maxHeartbeats 4000000 in
set_option maxRecDepth 100000 in
theorem kX5_judge {l : Launch} {D : va_G} {cI cB : ClassId} (r : Nat → Nat) (T K : Tb) (ik : Int) (SB SS SN : Nat → Int) (tn : Int) (TB F : Nat → Int) (X Y : Tb) (j : Nat → Int) (s0 : Int) (B : Int) (hG : GI B T K ik SB SS SN tn TB F) (hB : B ≤ 40000) (h_s0 : rI s0) : Ct l yX5_judge wsX5_judge 2 45 D [(cI, .int), (cB, .byte)] [.ref (r 0), .int (iI s0)] (wM cI r (T, K, ik, SB, SS, SN, tn, TB, F) X Y j) (S := (Int × Gs) × Tb × Tb × (Nat → Int)) (fun u => some (.int (iI u.1.1))) (fun u => u.1 = m_judge s0 T K ik SB SS SN tn TB F) (fun u => wM cI r u.1.2 u.2.1 u.2.2.1 u.2.2.2) := by
  refine CtI.of (cc := cX5_judge) (maxL := 3) (by decide +kernel) rfl (Nat.le_of_ble_eq_true rfl) ?_
  intro pg e s m args below meth c Q A hx hb hml hts hown hP hK hD hS ls hl kend
  have hown : s.vm.findClass RX5 = some m.cls := hown
  have hl : lv_has ls 3 [(0, .ref (r 0)), (1, .int (iI s0))] := hl
  obtain ⟨hI, hIK, hik, hSB, hSS, hSN, htn, hTB, hF⟩ := id hG
  have hn := Inv_n hI
  have hdy := Inv_d hI
  have hP : va_P D vwCl (wRo r ik tn j ++ (wA cI (r 1) 100 T ++ (wA cI (r 2) 100 K ++ (wA cI (r 3) 100 X ++ (wA cI (r 4) 100 Y ++ (wA cI (r 5) 8 (fR F) ++ (wA cI (r 6) 120 TB ++ (wA cI (r 7) 4 (bR SB) ++ (wA cI (r 8) 4 SS ++ (wA cI (r 9) 160 SN)))))))))) s.heap := hP
  have hD : va_D A (wRo r ik tn j ++ (wA cI (r 1) 100 T ++ (wA cI (r 2) 100 K ++ (wA cI (r 3) 100 X ++ (wA cI (r 4) 100 Y ++ (wA cI (r 5) 8 (fR F) ++ (wA cI (r 6) 120 TB ++ (wA cI (r 7) 4 (bR SB) ++ (wA cI (r 8) 4 SS ++ (wA cI (r 9) 160 SN)))))))))) := hD
  have hwa := waF_c SB s0
  refine lv_aload_n hx hb dX5_judge_0 rfl (lv_at hl 0 rfl) ?_
  refine lv_iload_n hx hb dX5_judge_1 rfl (lv_at hl 1 rfl) ?_
  refine x_callV (As := [.int (iI s0)]) (rest := []) ⟨hx, hb, hml, hown, hts⟩ (kX5_wants r ik tn j SB s0 (by omega) hSB) (cwV 1 hts gX5_judge_X5_wants rfl rfl rfl ykVX5_wants ⟨Nat.le_of_ble_eq_true rfl, Nat.le_of_ble_eq_true rfl⟩) hP hK hD hS 0 4 rfl rfl rfl [0, 7] rfl (by decide) (fun _ => rfl) (fun _ => wRo r ik tn j ++ (wA cI (r 1) 100 T ++ (wA cI (r 2) 100 K ++ (wA cI (r 3) 100 X ++ (wA cI (r 4) 100 Y ++ (wA cI (r 5) 8 (fR F) ++ (wA cI (r 6) 120 TB ++ (wA cI (r 7) 4 (bR SB) ++ (wA cI (r 8) 4 SS ++ (wA cI (r 9) 160 SN)))))))))) (fun _ => rfl) rfl hl.1 rfl (Nat.le_of_ble_eq_true rfl) dX5_judge_2 ⟨Nat.le_of_ble_eq_true rfl, Nat.le_of_ble_eq_true rfl⟩ (fun _ H locs _ hP hD hS => ?_)
  refine W.eq (g2 := F0 m 5 ls [.int (iI (waF SB s0))]) rfl ?_
  refine x_if_eq (tgt := 18) hx hb (by omega) dX5_judge_5 (by decide) (fun c_5 => ?_) (fun c_5 => ?_)
  · have hs9 := waF_0 (show waF SB s0 = 0 by omega)
    obtain ⟨s1, rfl⟩ : ∃ s1 : Nat, s0 = (s1 : Int) := ⟨s0.toNat, by omega⟩
    have hz := hSS s1 (by omega)
    refine x_iconst hx hb dX5_judge_18 ?_
    refine lv_istore_n (lv' := [(2, .int (iI 0)), (0, .ref (r 0)), (1, .int (iI ((s1 : Nat) : Int)))]) hx hb dX5_judge_19 rfl hl (by decide) rfl (fun ls hl => ?_)
    have L20 : ∀ (k t : Nat) (H : Heap) (locs : List Loc) (ls : Array Slot), t + k = (SS s1).toNat → (juF T SN (40 * s1) k t = juF T SN (40 * s1) (SS s1).toNat 0) → va_P D vwCl (wRo r ik tn j ++ (wA cI (r 1) 100 T ++ (wA cI (r 2) 100 K ++ (wA cI (r 3) 100 X ++ (wA cI (r 4) 100 Y ++ (wA cI (r 5) 8 (fR F) ++ (wA cI (r 6) 120 TB ++ (wA cI (r 7) 4 (bR SB) ++ (wA cI (r 8) 4 SS ++ (wA cI (r 9) 160 SN)))))))))) H → va_D A (wRo r ik tn j ++ (wA cI (r 1) 100 T ++ (wA cI (r 2) 100 K ++ (wA cI (r 3) 100 X ++ (wA cI (r 4) 100 Y ++ (wA cI (r 5) 8 (fR F) ++ (wA cI (r 6) 120 TB ++ (wA cI (r 7) 4 (bR SB) ++ (wA cI (r 8) 4 SS ++ (wA cI (r 9) 160 SN)))))))))) → va_S A s.heap H locs → lv_has ls 3 [(0, .ref (r 0)), (1, .int (iI ((s1 : Nat) : Int))), (2, .int (iI ((t : Nat) : Int)))] → W pg l e { frames := 2, cells := 0, slots := 0, locals := 45 } s m args below meth c H locs 0 0 Q (F0 m 20 ls []) := by
      intro k
      induction k with
      | zero =>
        intro t H locs ls hkt hr hP hD hS hl
        refine lv_iload_n hx hb dX5_judge_20 rfl (lv_at hl 2 rfl) ?_
        refine lv_aload_n hx hb dX5_judge_21 rfl (lv_at hl 0 rfl) ?_
        refine va_get (D := D) (ci := 4) (v := .ref (r 8)) (C := RX5) (T := TX5) (N := 18) hx hb hts (iT_X5_judge_X5) hown hK hP 0 rfl rfl 9 (by decide) (hts (.fieldLink RX5 31 "WordSupperModel" "sizes" "[I") (by decide +kernel)) (fun _ h9 => h9) rfl dX5_judge_22 ?_
        refine lv_iload_n hx hb dX5_judge_25 rfl (lv_at hl 1 rfl) ?_
        refine x_iald hx hb hK hP 8 0 rfl rfl s1 rfl (by omega) (by decide) (SS s1) (gd_at _ (by omega)) dX5_judge_26 ?_
        refine x_icmp_ge (tgt := 63) hx hb (by omega) (by omega) dX5_judge_27 (by decide) (fun c_27 => ?_) (fun c_27 => ?_)
        · refine lv_iload_n hx hb dX5_judge_63 rfl (lv_at hl 2 rfl) ?_
          refine lv_aload_n hx hb dX5_judge_64 rfl (lv_at hl 0 rfl) ?_
          refine va_get (D := D) (ci := 4) (v := .ref (r 8)) (C := RX5) (T := TX5) (N := 18) hx hb hts (iT_X5_judge_X5) hown hK hP 0 rfl rfl 9 (by decide) (hts (.fieldLink RX5 31 "WordSupperModel" "sizes" "[I") (by decide +kernel)) (fun _ h9 => h9) rfl dX5_judge_65 ?_
          refine lv_iload_n hx hb dX5_judge_68 rfl (lv_at hl 1 rfl) ?_
          refine x_iald hx hb hK hP 8 0 rfl rfl s1 rfl (by omega) (by decide) (SS s1) (gd_at _ (by omega)) dX5_judge_69 ?_
          refine x_icmp_ge (tgt := 79) hx hb (by omega) (by omega) dX5_judge_70 (by decide) (fun c_70 => ?_) (fun c_70 => ?_)
          · refine x_iconst hx hb dX5_judge_79 ?_
            exact kend ((0, T, K, ik, SB, SS, SN, tn, TB, F), X, Y, j) hP hS rfl (by unfold m_judge; rw [if_neg (by omega), Int.toNat_natCast, ← hr] <;> rfl) dX5_judge_80
          · exfalso; omega
        · exfalso; omega
      | succ k ih =>
        intro t H locs ls hkt hr hP hD hS hl
        refine lv_iload_n hx hb dX5_judge_20 rfl (lv_at hl 2 rfl) ?_
        refine lv_aload_n hx hb dX5_judge_21 rfl (lv_at hl 0 rfl) ?_
        refine va_get (D := D) (ci := 4) (v := .ref (r 8)) (C := RX5) (T := TX5) (N := 18) hx hb hts (iT_X5_judge_X5) hown hK hP 0 rfl rfl 9 (by decide) (hts (.fieldLink RX5 31 "WordSupperModel" "sizes" "[I") (by decide +kernel)) (fun _ h9 => h9) rfl dX5_judge_22 ?_
        refine lv_iload_n hx hb dX5_judge_25 rfl (lv_at hl 1 rfl) ?_
        refine x_iald hx hb hK hP 8 0 rfl rfl s1 rfl (by omega) (by decide) (SS s1) (gd_at _ (by omega)) dX5_judge_26 ?_
        refine x_icmp_ge (tgt := 63) hx hb (by omega) (by omega) dX5_judge_27 (by decide) (fun c_27 => ?_) (fun c_27 => ?_)
        · exfalso; omega
        · refine lv_aload_n hx hb dX5_judge_30 rfl (lv_at hl 0 rfl) ?_
          refine lv_iload_n hx hb dX5_judge_31 rfl (lv_at hl 2 rfl) ?_
          refine x_callV (As := [.int (iI ((t : Nat) : Int))]) (rest := []) ⟨hx, hb, hml, hown, hts⟩ (kX5_isOne r ik tn j T ((t : Nat) : Int) (by omega) (by omega)) (cwV 1 hts gX5_judge_X5_isOne rfl rfl rfl ykVX5_isOne ⟨Nat.le_of_ble_eq_true rfl, Nat.le_of_ble_eq_true rfl⟩) hP hK hD hS 0 4 rfl rfl rfl [0, 1] rfl (by decide) (fun _ => rfl) (fun _ => wRo r ik tn j ++ (wA cI (r 1) 100 T ++ (wA cI (r 2) 100 K ++ (wA cI (r 3) 100 X ++ (wA cI (r 4) 100 Y ++ (wA cI (r 5) 8 (fR F) ++ (wA cI (r 6) 120 TB ++ (wA cI (r 7) 4 (bR SB) ++ (wA cI (r 8) 4 SS ++ (wA cI (r 9) 160 SN)))))))))) (fun _ => rfl) rfl hl.1 rfl (Nat.le_of_ble_eq_true rfl) dX5_judge_32 ⟨Nat.le_of_ble_eq_true rfl, Nat.le_of_ble_eq_true rfl⟩ (fun _ H locs _ hP hD hS => ?_)
          refine W.eq (g2 := F0 m 35 ls [.int (iI (b2 (decide (0 ≤ ((t : Nat) : Int) ∧ ((t : Nat) : Int) < T 0))))]) rfl ?_
          refine x_ifb_eq (tgt := 63) hx hb dX5_judge_35 (by decide) (fun c_35 => ?_) (fun c_35 => ?_)
          · refine lv_iload_n hx hb dX5_judge_63 rfl (lv_at hl 2 rfl) ?_
            refine lv_aload_n hx hb dX5_judge_64 rfl (lv_at hl 0 rfl) ?_
            refine va_get (D := D) (ci := 4) (v := .ref (r 8)) (C := RX5) (T := TX5) (N := 18) hx hb hts (iT_X5_judge_X5) hown hK hP 0 rfl rfl 9 (by decide) (hts (.fieldLink RX5 31 "WordSupperModel" "sizes" "[I") (by decide +kernel)) (fun _ h9 => h9) rfl dX5_judge_65 ?_
            refine lv_iload_n hx hb dX5_judge_68 rfl (lv_at hl 1 rfl) ?_
            refine x_iald hx hb hK hP 8 0 rfl rfl s1 rfl (by omega) (by decide) (SS s1) (gd_at _ (by omega)) dX5_judge_69 ?_
            refine x_icmp_ge (tgt := 79) hx hb (by omega) (by omega) dX5_judge_70 (by decide) (fun c_70 => ?_) (fun c_70 => ?_)
            · exfalso; omega
            · refine x_iconst hx hb dX5_judge_73 ?_
              refine lv_iload_n hx hb dX5_judge_74 rfl (lv_at hl 2 rfl) ?_
              refine x_iadd hx hb dX5_judge_75 ?_
              refine x_topi ((1 + t : Nat) : Int) (by omega) ?_
              refine lv_goto (tgt := 80) hx hb dX5_judge_76 (by decide) ?_
              exact kend ((((1 + t : Nat) : Int), T, K, ik, SB, SS, SN, tn, TB, F), X, Y, j) hP hS rfl (by unfold m_judge; rw [if_neg (by omega), Int.toNat_natCast, ← hr, juF, if_neg (by omega)] <;> rfl) dX5_judge_80
          · refine lv_aload_n hx hb dX5_judge_38 rfl (lv_at hl 0 rfl) ?_
            refine va_get (D := D) (ci := 4) (v := .ref (r 9)) (C := RX5) (T := TX5) (N := 18) hx hb hts (iT_X5_judge_X5) hown hK hP 0 rfl rfl 10 (by decide) (hts (.fieldLink RX5 34 "WordSupperModel" "numbers" "[I") (by decide +kernel)) (fun _ h9 => h9) rfl dX5_judge_39 ?_
            refine x_bipush hx hb dX5_judge_42 (by decide) ?_
            refine lv_iload_n hx hb dX5_judge_44 rfl (lv_at hl 1 rfl) ?_
            refine x_imul hx hb dX5_judge_45 ?_
            refine x_topi ((40 * s1 : Nat) : Int) (by omega) ?_
            refine lv_iload_n hx hb dX5_judge_46 rfl (lv_at hl 2 rfl) ?_
            refine x_iadd hx hb dX5_judge_47 ?_
            refine x_topi (((40 * s1) + t : Nat) : Int) (by omega) ?_
            refine x_iald hx hb hK hP 9 0 rfl rfl ((40 * s1) + t) rfl (by omega) (by decide) (SN ((40 * s1) + t)) (gd_at _ (by omega)) dX5_judge_48 ?_
            refine lv_aload_n hx hb dX5_judge_49 rfl (lv_at hl 0 rfl) ?_
            refine lv_iload_n hx hb dX5_judge_50 rfl (lv_at hl 2 rfl) ?_
            refine x_callV (As := [.int (iI ((t : Nat) : Int))]) (rest := [.int (iI (SN ((40 * s1) + t)))]) ⟨hx, hb, hml, hown, hts⟩ (kX5_left r ik tn j T t (by omega)) (cwV 1 hts gX5_judge_X5_left rfl rfl rfl ykVX5_left ⟨Nat.le_of_ble_eq_true rfl, Nat.le_of_ble_eq_true rfl⟩) hP hK hD hS 0 4 rfl rfl rfl [0, 1] rfl (by decide) (fun _ => rfl) (fun _ => wRo r ik tn j ++ (wA cI (r 1) 100 T ++ (wA cI (r 2) 100 K ++ (wA cI (r 3) 100 X ++ (wA cI (r 4) 100 Y ++ (wA cI (r 5) 8 (fR F) ++ (wA cI (r 6) 120 TB ++ (wA cI (r 7) 4 (bR SB) ++ (wA cI (r 8) 4 SS ++ (wA cI (r 9) 160 SN)))))))))) (fun _ => rfl) rfl hl.1 rfl (Nat.le_of_ble_eq_true rfl) dX5_judge_51 ⟨Nat.le_of_ble_eq_true rfl, Nat.le_of_ble_eq_true rfl⟩ (fun _ H locs _ hP hD hS => ?_)
            refine W.eq (g2 := F0 m 54 ls [.int (iI (lfF T t)), .int (iI (SN ((40 * s1) + t)))]) rfl ?_
            have hq1 := hSN (40 * s1 + t) (by omega)
            have hq2 := Inv_lf (p := t) hI (by omega)
            refine x_icmp_ne (tgt := 63) hx hb (by omega) (by omega) dX5_judge_54 (by decide) (fun c_54 => ?_) (fun c_54 => ?_)
            · refine lv_iload_n hx hb dX5_judge_63 rfl (lv_at hl 2 rfl) ?_
              refine lv_aload_n hx hb dX5_judge_64 rfl (lv_at hl 0 rfl) ?_
              refine va_get (D := D) (ci := 4) (v := .ref (r 8)) (C := RX5) (T := TX5) (N := 18) hx hb hts (iT_X5_judge_X5) hown hK hP 0 rfl rfl 9 (by decide) (hts (.fieldLink RX5 31 "WordSupperModel" "sizes" "[I") (by decide +kernel)) (fun _ h9 => h9) rfl dX5_judge_65 ?_
              refine lv_iload_n hx hb dX5_judge_68 rfl (lv_at hl 1 rfl) ?_
              refine x_iald hx hb hK hP 8 0 rfl rfl s1 rfl (by omega) (by decide) (SS s1) (gd_at _ (by omega)) dX5_judge_69 ?_
              refine x_icmp_ge (tgt := 79) hx hb (by omega) (by omega) dX5_judge_70 (by decide) (fun c_70 => ?_) (fun c_70 => ?_)
              · exfalso; omega
              · refine x_iconst hx hb dX5_judge_73 ?_
                refine lv_iload_n hx hb dX5_judge_74 rfl (lv_at hl 2 rfl) ?_
                refine x_iadd hx hb dX5_judge_75 ?_
                refine x_topi ((1 + t : Nat) : Int) (by omega) ?_
                refine lv_goto (tgt := 80) hx hb dX5_judge_76 (by decide) ?_
                exact kend ((((1 + t : Nat) : Int), T, K, ik, SB, SS, SN, tn, TB, F), X, Y, j) hP hS rfl (by unfold m_judge; rw [if_neg (by omega), Int.toNat_natCast, ← hr, juF, if_neg (by omega)] <;> rfl) dX5_judge_80
            · refine x_iinc hx hb 2 ((t + 1 : Nat) : Int) (by omega) [(2, .int (iI ((t + 1 : Nat) : Int))), (0, .ref (r 0)), (1, .int (iI ((s1 : Nat) : Int)))] dX5_judge_57 hl rfl (by decide) rfl (fun ls hl => ?_)
              refine lv_goto (tgt := 20) hx hb dX5_judge_60 (by decide) ?_
              exact ih (t + 1) _ _ _ (by omega) (by rw [← hr, juF, if_pos (by omega)]) hP hD hS (lv_sub hl [1, 2, 0] rfl)
    exact L20 (SS s1).toNat 0 _ _ _ (by omega) rfl hP hD hS (lv_sub hl [1, 2, 0] rfl)
  · obtain ⟨kw, hkw⟩ : ∃ k9 : Nat, k9 = (-1000001 - waF SB s0).toNat := ⟨_, rfl⟩
    refine lv_aload_n hx hb dX5_judge_8 rfl (lv_at hl 0 rfl) ?_
    refine lv_aload_n hx hb dX5_judge_9 rfl (lv_at hl 0 rfl) ?_
    refine lv_iload_n hx hb dX5_judge_10 rfl (lv_at hl 1 rfl) ?_
    refine x_callV (As := [.int (iI s0)]) (rest := [.ref (r 0)]) ⟨hx, hb, hml, hown, hts⟩ (kX5_wants r ik tn j SB s0 (by omega) hSB) (cwV 1 hts gX5_judge_X5_wants rfl rfl rfl ykVX5_wants ⟨Nat.le_of_ble_eq_true rfl, Nat.le_of_ble_eq_true rfl⟩) hP hK hD hS 0 4 rfl rfl rfl [0, 7] rfl (by decide) (fun _ => rfl) (fun _ => wRo r ik tn j ++ (wA cI (r 1) 100 T ++ (wA cI (r 2) 100 K ++ (wA cI (r 3) 100 X ++ (wA cI (r 4) 100 Y ++ (wA cI (r 5) 8 (fR F) ++ (wA cI (r 6) 120 TB ++ (wA cI (r 7) 4 (bR SB) ++ (wA cI (r 8) 4 SS ++ (wA cI (r 9) 160 SN)))))))))) (fun _ => rfl) rfl hl.1 rfl (Nat.le_of_ble_eq_true rfl) dX5_judge_11 ⟨Nat.le_of_ble_eq_true rfl, Nat.le_of_ble_eq_true rfl⟩ (fun _ H locs _ hP hD hS => ?_)
    refine W.eq (g2 := F0 m 14 ls [.int (iI (waF SB s0)), .ref (r 0)]) rfl ?_
    refine x_callV (As := [.int (iI (waF SB s0))]) (rest := []) ⟨hx, hb, hml, hown, hts⟩ (kX5_finds r ik tn j F (waF SB s0) kw (by omega) (by omega)) (cwV 1 hts gX5_judge_X5_finds rfl rfl rfl ykVX5_finds ⟨Nat.le_of_ble_eq_true rfl, Nat.le_of_ble_eq_true rfl⟩) hP hK hD hS 0 4 rfl rfl rfl [0, 5] rfl (by decide) (fun _ => rfl) (fun _ => wRo r ik tn j ++ (wA cI (r 1) 100 T ++ (wA cI (r 2) 100 K ++ (wA cI (r 3) 100 X ++ (wA cI (r 4) 100 Y ++ (wA cI (r 5) 8 (fR (bmp kw F)) ++ (wA cI (r 6) 120 TB ++ (wA cI (r 7) 4 (bR SB) ++ (wA cI (r 8) 4 SS ++ (wA cI (r 9) 160 SN)))))))))) (fun _ => rfl) rfl hl.1 rfl (Nat.le_of_ble_eq_true rfl) dX5_judge_14 ⟨Nat.le_of_ble_eq_true rfl, Nat.le_of_ble_eq_true rfl⟩ (fun _ H locs _ hP hD hS => ?_)
    refine W.eq (g2 := F0 m 17 ls [.int (iI (waF SB s0))]) rfl ?_
    exact kend (((waF SB s0), T, K, ik, SB, SS, SN, tn, TB, (bmp kw F)), X, Y, j) hP hS rfl (by rw [hkw]; exact (if_pos (by omega)).symm) dX5_judge_17
