theorem ykSX5_talk : yX5_talk.cls ≠ "java/lang/invoke/MethodHandle" ∧ yX5_talk.cls ≠ "java/lang/invoke/VarHandle" ∧ (parseMethodDescriptor yX5_talk.desc).map (fun d => d.parameters.length) = some 1 := by decide +kernel
theorem ykVX5_talk : yX5_talk.cls = RX5 ∧ yX5_talk.cls ≠ "java/lang/invoke/MethodHandle" ∧ yX5_talk.cls ≠ "java/lang/invoke/VarHandle" ∧ (parseMethodDescriptor yX5_talk.desc).map (fun d => d.parameters.length) = some 1 := ⟨rfl, ykSX5_talk⟩
set_option maxRecDepth 20000 in
theorem iT_X5_talk_X5 : ∀ w ∈ u_ws RX5 TX5 18, w ∈ wsX5_talk := by decide +kernel
set_option maxHeartbeats 4000000 in
set_option maxRecDepth 100000 in
theorem kX5_talk {l : Launch} {D : va_G} {cI cB : ClassId} (r : Nat → Nat) (T K : Tb) (ik : Int) (SB SS SN : Nat → Int) (tn : Int) (TB F : Nat → Int) (X Y : Tb) (j : Nat → Int) (n : Int) (B : Int) (hG : GI B T K ik SB SS SN tn TB F) (hB : B ≤ 40000) (h_n : rI n) : Ct l yX5_talk wsX5_talk 5 111 D [(cI, .int), (cB, .byte)] [.ref (r 0), .int (iI n)] (wM cI r (T, K, ik, SB, SS, SN, tn, TB, F) X Y j) (S := (Int × Gs) × Tb × Tb × (Nat → Int)) (fun u => some (.int (iI u.1.1))) (fun u => u.1 = m_talk n T K ik SB SS SN tn TB F) (fun u => wM cI r u.1.2 u.2.1 u.2.2.1 u.2.2.2) := by
  refine CtI.of (cc := cX5_talk) (maxL := 4) (by decide +kernel) rfl (Nat.le_of_ble_eq_true rfl) ?_
  intro pg e s m args below meth c Q A hx hb hml hts hown hP hK hD hS ls hl kend
  have hown : s.vm.findClass RX5 = some m.cls := hown
  have hl : lv_has ls 4 [(0, .ref (r 0)), (1, .int (iI n))] := hl
  obtain ⟨hI, hIK, hik, hSB, hSS, hSN, htn, hTB, hF⟩ := id hG
  have hn := Inv_n hI
  have hdy := Inv_d hI
  have hP : va_P D vwCl (wRo r ik tn j ++ (wA cI (r 1) 100 T ++ (wA cI (r 2) 100 K ++ (wA cI (r 3) 100 X ++ (wA cI (r 4) 100 Y ++ (wA cI (r 5) 8 (fR F) ++ (wA cI (r 6) 120 TB ++ (wA cI (r 7) 4 (bR SB) ++ (wA cI (r 8) 4 SS ++ (wA cI (r 9) 160 SN)))))))))) s.heap := hP
  have hD : va_D A (wRo r ik tn j ++ (wA cI (r 1) 100 T ++ (wA cI (r 2) 100 K ++ (wA cI (r 3) 100 X ++ (wA cI (r 4) 100 Y ++ (wA cI (r 5) 8 (fR F) ++ (wA cI (r 6) 120 TB ++ (wA cI (r 7) 4 (bR SB) ++ (wA cI (r 8) 4 SS ++ (wA cI (r 9) 160 SN)))))))))) := hD
  refine lv_iload_n hx hb dX5_talk_0 rfl (lv_at hl 1 rfl) ?_
  refine x_i2l hx hb (by omega) dX5_talk_1 ?_
  refine x_lconst hx hb 1 rfl dX5_talk_2 ?_
  refine x_ldc2 hx hb 20 rfl hown (hts (.constantLong RX5 57 (20)) (by decide +kernel)) dX5_talk_3 ?_
  refine x_callS (As := [.long (lI n), .long (lI 1), .long (lI 20)]) (rest := []) ⟨hx, hb, hml, hown, hts⟩ (kX5_isIn n 1 20 (by omega) (by omega) (by omega)) (va_cwS 3 hts gX5_talk_X5_isIn rfl rfl rfl ykSX5_isIn ⟨Nat.le_of_ble_eq_true rfl, Nat.le_of_ble_eq_true rfl⟩) hP hK hD hS [] rfl (by decide) (fun _ => rfl) (fun _ => wRo r ik tn j ++ (wA cI (r 1) 100 T ++ (wA cI (r 2) 100 K ++ (wA cI (r 3) 100 X ++ (wA cI (r 4) 100 Y ++ (wA cI (r 5) 8 (fR F) ++ (wA cI (r 6) 120 TB ++ (wA cI (r 7) 4 (bR SB) ++ (wA cI (r 8) 4 SS ++ (wA cI (r 9) 160 SN)))))))))) (fun _ => rfl) rfl hl.1 rfl (Nat.le_of_ble_eq_true rfl) dX5_talk_6 ⟨Nat.le_of_ble_eq_true rfl, Nat.le_of_ble_eq_true rfl⟩ (fun _ H locs _ hP hD hS => ?_)
  refine W.eq (g2 := F0 m 9 ls [.int (iI (b2 (decide (1 ≤ n ∧ n ≤ 20))))]) rfl ?_
  refine x_ifb_ne (tgt := 19) hx hb dX5_talk_9 (by decide) (fun c_9 => ?_) (fun c_9 => ?_)
  · refine lv_aload_n hx hb dX5_talk_19 rfl (lv_at hl 0 rfl) ?_
    refine va_get (D := D) (ci := 4) (v := .ref (r 1)) (C := RX5) (T := TX5) (N := 18) hx hb hts (iT_X5_talk_X5) hown hK hP 0 rfl rfl 0 (by decide) (hts (.fieldLink RX5 7 "WordSupperModel" "s" "[I") (by decide +kernel)) (fun _ h9 => h9) rfl dX5_talk_20 ?_
    refine x_iconst hx hb dX5_talk_23 ?_
    refine x_iald hx hb hK hP 1 0 rfl rfl 1 rfl (by omega) (by decide) (T 1) (gd_at _ (by omega)) dX5_talk_24 ?_
    refine lv_iload_n hx hb dX5_talk_25 rfl (lv_at hl 1 rfl) ?_
    refine x_iadd hx hb dX5_talk_26 ?_
    refine x_ldc hx hb 99999 rfl hown (hts (.constant RX5 117 (99999)) (by decide +kernel)) dX5_talk_27 ?_
    refine x_icmp_le (tgt := 39) hx hb (by omega) (by decide) dX5_talk_29 (by decide) (fun c_29 => ?_) (fun c_29 => ?_)
    · obtain ⟨n0, rfl⟩ : ∃ n0 : Nat, n = (n0 : Int) := ⟨n.toNat, by omega⟩
      refine x_iconst hx hb dX5_talk_39 ?_
      refine lv_istore_n (lv' := [(2, .int (iI 0)), (0, .ref (r 0)), (1, .int (iI ((n0 : Nat) : Int)))]) hx hb dX5_talk_40 rfl hl (by decide) rfl (fun ls hl => ?_)
      have L41 : ∀ (k t : Nat) (Tt : Tb) (jt : Nat → Int) (H : Heap) (locs : List Loc) (ls : Array Slot), t + k = n0 → (run tlS k t Tt = run tlS n0 0 T) → (Inv (B + (t : Int)) Tt) → va_P D vwCl (wRo r ik tn jt ++ (wA cI (r 1) 100 Tt ++ (wA cI (r 2) 100 K ++ (wA cI (r 3) 100 X ++ (wA cI (r 4) 100 Y ++ (wA cI (r 5) 8 (fR F) ++ (wA cI (r 6) 120 TB ++ (wA cI (r 7) 4 (bR SB) ++ (wA cI (r 8) 4 SS ++ (wA cI (r 9) 160 SN)))))))))) H → va_D A (wRo r ik tn jt ++ (wA cI (r 1) 100 Tt ++ (wA cI (r 2) 100 K ++ (wA cI (r 3) 100 X ++ (wA cI (r 4) 100 Y ++ (wA cI (r 5) 8 (fR F) ++ (wA cI (r 6) 120 TB ++ (wA cI (r 7) 4 (bR SB) ++ (wA cI (r 8) 4 SS ++ (wA cI (r 9) 160 SN)))))))))) → va_S A s.heap H locs → lv_has ls 4 [(0, .ref (r 0)), (1, .int (iI ((n0 : Nat) : Int))), (2, .int (iI ((t : Nat) : Int)))] → W pg l e { frames := 5, cells := 0, slots := 0, locals := 111 } s m args below meth c H locs 0 0 Q (F0 m 41 ls []) := by
        intro k
        induction k with
        | zero =>
          intro t Tt jt H locs ls hkt hr hi0 hP hD hS hl
          refine lv_iload_n hx hb dX5_talk_41 rfl (lv_at hl 2 rfl) ?_
          refine lv_iload_n hx hb dX5_talk_42 rfl (lv_at hl 1 rfl) ?_
          refine x_icmp_ge (tgt := 80) hx hb (by omega) (by omega) dX5_talk_43 (by decide) (fun c_43 => ?_) (fun c_43 => ?_)
          · have hn9 := Inv_n hi0
            refine lv_aload_n hx hb dX5_talk_80 rfl (lv_at hl 0 rfl) ?_
            refine x_callV (As := []) (rest := []) ⟨hx, hb, hml, hown, hts⟩ (kX5_leftAll r ik tn jt Tt hn9) (cwV 0 hts gX5_talk_X5_leftAll rfl rfl rfl ykVX5_leftAll ⟨Nat.le_of_ble_eq_true rfl, Nat.le_of_ble_eq_true rfl⟩) hP hK hD hS 0 4 rfl rfl rfl [0, 1] rfl (by decide) (fun _ => rfl) (fun _ => wRo r ik tn jt ++ (wA cI (r 1) 100 Tt ++ (wA cI (r 2) 100 K ++ (wA cI (r 3) 100 X ++ (wA cI (r 4) 100 Y ++ (wA cI (r 5) 8 (fR F) ++ (wA cI (r 6) 120 TB ++ (wA cI (r 7) 4 (bR SB) ++ (wA cI (r 8) 4 SS ++ (wA cI (r 9) 160 SN)))))))))) (fun _ => rfl) rfl hl.1 rfl (Nat.le_of_ble_eq_true rfl) dX5_talk_81 ⟨Nat.le_of_ble_eq_true rfl, Nat.le_of_ble_eq_true rfl⟩ (fun _ H locs _ hP hD hS => ?_)
            refine W.eq (g2 := F0 m 84 ls [.int (iI (alF Tt))]) rfl ?_
            exact kend ((alF Tt, Tt, K, ik, SB, SS, SN, tn, TB, F), X, Y, jt) hP hS rfl (by unfold m_talk; rw [if_pos (by omega)]; simp only [Int.toNat_natCast]; rw [← hr] <;> rfl) dX5_talk_84
          · exfalso; omega
        | succ k ih =>
          intro t Tt jt H locs ls hkt hr hi0 hP hD hS hl
          refine lv_iload_n hx hb dX5_talk_41 rfl (lv_at hl 2 rfl) ?_
          refine lv_iload_n hx hb dX5_talk_42 rfl (lv_at hl 1 rfl) ?_
          refine x_icmp_ge (tgt := 80) hx hb (by omega) (by omega) dX5_talk_43 (by decide) (fun c_43 => ?_) (fun c_43 => ?_)
          · exfalso; omega
          · refine lv_aload_n hx hb dX5_talk_46 rfl (lv_at hl 0 rfl) ?_
            refine x_callV (As := []) (rest := []) ⟨hx, hb, hml, hown, hts⟩ (kX5_draw r ik tn jt Tt ) (cwV 0 hts gX5_talk_X5_draw rfl rfl rfl ykVX5_draw ⟨Nat.le_of_ble_eq_true rfl, Nat.le_of_ble_eq_true rfl⟩) hP hK hD hS 0 4 rfl rfl rfl [0, 1] rfl (by decide) (fun _ => rfl) (fun _ => wRo r ik tn jt ++ (wA cI (r 1) 100 (drF Tt) ++ (wA cI (r 2) 100 K ++ (wA cI (r 3) 100 X ++ (wA cI (r 4) 100 Y ++ (wA cI (r 5) 8 (fR F) ++ (wA cI (r 6) 120 TB ++ (wA cI (r 7) 4 (bR SB) ++ (wA cI (r 8) 4 SS ++ (wA cI (r 9) 160 SN)))))))))) (fun _ => rfl) rfl hl.1 rfl (Nat.le_of_ble_eq_true rfl) dX5_talk_47 ⟨Nat.le_of_ble_eq_true rfl, Nat.le_of_ble_eq_true rfl⟩ (fun _ H locs _ hP hD hS => ?_)
            refine W.eq (g2 := F0 m 50 ls [.int (iI (ushrI (drF Tt 2) 8))]) rfl ?_
            have hu1 := ushr8_b (drF Tt 2)
            refine x_bipush hx hb dX5_talk_50 (by decide) ?_
            refine x_irem hx hb (by omega) (by omega) (by decide) (by decide) dX5_talk_52 ?_
            refine x_topi ((((ushrI (drF Tt 2) 8) % 6).toNat : Nat) : Int) (by omega) ?_
            refine lv_istore_n (lv' := [(3, .int (iI ((((ushrI (drF Tt 2) 8) % 6).toNat : Nat) : Int))), (0, .ref (r 0)), (1, .int (iI ((n0 : Nat) : Int))), (2, .int (iI ((t : Nat) : Int)))]) hx hb dX5_talk_53 rfl hl (by decide) rfl (fun ls hl => ?_)
            refine lv_aload_n hx hb dX5_talk_54 rfl (lv_at hl 1 rfl) ?_
            refine va_get (D := D) (ci := 4) (v := .ref (r 1)) (C := RX5) (T := TX5) (N := 18) hx hb hts (iT_X5_talk_X5) hown hK hP 0 rfl rfl 0 (by decide) (hts (.fieldLink RX5 7 "WordSupperModel" "s" "[I") (by decide +kernel)) (fun _ h9 => h9) rfl dX5_talk_55 ?_
            refine x_iconst hx hb dX5_talk_58 ?_
            refine lv_iload_n hx hb dX5_talk_59 rfl (lv_at hl 0 rfl) ?_
            refine x_iadd hx hb dX5_talk_60 ?_
            refine x_topi ((4 + (((ushrI (drF Tt 2) 8) % 6).toNat) : Nat) : Int) (by omega) ?_
            refine lv_aload_n hx hb dX5_talk_61 rfl (lv_at hl 1 rfl) ?_
            refine x_callV (As := []) (rest := [.int (iI ((4 + (((ushrI (drF Tt 2) 8) % 6).toNat) : Nat) : Int)), .ref (r 1)]) ⟨hx, hb, hml, hown, hts⟩ (kX5_draw r ik tn jt (drF Tt) ) (cwV 0 hts gX5_talk_X5_draw rfl rfl rfl ykVX5_draw ⟨Nat.le_of_ble_eq_true rfl, Nat.le_of_ble_eq_true rfl⟩) hP hK hD hS 0 4 rfl rfl rfl [0, 1] rfl (by decide) (fun _ => rfl) (fun _ => wRo r ik tn jt ++ (wA cI (r 1) 100 (drF (drF Tt)) ++ (wA cI (r 2) 100 K ++ (wA cI (r 3) 100 X ++ (wA cI (r 4) 100 Y ++ (wA cI (r 5) 8 (fR F) ++ (wA cI (r 6) 120 TB ++ (wA cI (r 7) 4 (bR SB) ++ (wA cI (r 8) 4 SS ++ (wA cI (r 9) 160 SN)))))))))) (fun _ => rfl) rfl hl.1 rfl (Nat.le_of_ble_eq_true rfl) dX5_talk_62 ⟨Nat.le_of_ble_eq_true rfl, Nat.le_of_ble_eq_true rfl⟩ (fun _ H locs _ hP hD hS => ?_)
            refine W.eq (g2 := F0 m 65 ls [.int (iI (ushrI (drF (drF Tt) 2) 8)), .int (iI ((4 + (((ushrI (drF Tt 2) 8) % 6).toNat) : Nat) : Int)), .ref (r 1)]) rfl ?_
            have hu2 := ushr8_b (drF (drF Tt) 2)
            refine x_bipush hx hb dX5_talk_65 (by decide) ?_
            refine x_irem hx hb (by omega) (by omega) (by decide) (by decide) dX5_talk_67 ?_
            refine x_iast hx hb hK hP hD hS 1 0 rfl rfl (4 + (((ushrI (drF Tt 2) 8) % 6).toNat)) rfl (by omega) (by decide) (wRo r ik tn jt ++ (wA cI (r 1) 100 (va_up (drF (drF Tt)) (4 + (((ushrI (drF Tt 2) 8) % 6).toNat)) ((ushrI (drF (drF Tt) 2) 8) % 21)) ++ (wA cI (r 2) 100 K ++ (wA cI (r 3) 100 X ++ (wA cI (r 4) 100 Y ++ (wA cI (r 5) 8 (fR F) ++ (wA cI (r 6) 120 TB ++ (wA cI (r 7) 4 (bR SB) ++ (wA cI (r 8) 4 SS ++ (wA cI (r 9) 160 SN)))))))))) (by rw [← wA_up cI (r 1) 100 (drF (drF Tt)) ((ushrI (drF (drF Tt) 2) 8) % 21) (4 + (((ushrI (drF Tt 2) 8) % 6).toNat)) (by omega)]; rfl) dX5_talk_68 (fun H locs hP hD hS => ?_)
            have hi9 := Inv_li (t := ((ushrI (drF Tt 2) 8) % 6).toNat) (v := (ushrI (drF (drF Tt) 2) 8) % 21) (Inv_dr (Inv_dr hi0)) (by omega) (by omega)
            refine lv_aload_n hx hb dX5_talk_69 rfl (lv_at hl 1 rfl) ?_
            refine x_iconst hx hb dX5_talk_70 ?_
            refine x_callV (As := [.int (iI 0)]) (rest := []) ⟨hx, hb, hml, hown, hts⟩ (kX5_dayBut r ik tn jt (va_up (drF (drF Tt)) (4 + (((ushrI (drF Tt 2) 8) % 6).toNat)) ((ushrI (drF (drF Tt) 2) 8) % 21)) 0 (B + (t : Int)) hi9 (by omega) (by decide)) (cwV 1 hts gX5_talk_X5_dayBut rfl rfl rfl ykVX5_dayBut ⟨Nat.le_of_ble_eq_true rfl, Nat.le_of_ble_eq_true rfl⟩) hP hK hD hS 0 4 rfl rfl rfl [0, 1] rfl (by decide) (fun _ => rfl) (fun u => wRo r ik tn u.2 ++ (wA cI (r 1) 100 u.1 ++ (wA cI (r 2) 100 K ++ (wA cI (r 3) 100 X ++ (wA cI (r 4) 100 Y ++ (wA cI (r 5) 8 (fR F) ++ (wA cI (r 6) 120 TB ++ (wA cI (r 7) 4 (bR SB) ++ (wA cI (r 8) 4 SS ++ (wA cI (r 9) 160 SN)))))))))) (fun _ => rfl) rfl hl.1 rfl (Nat.le_of_ble_eq_true rfl) dX5_talk_71 ⟨Nat.le_of_ble_eq_true rfl, Nat.le_of_ble_eq_true rfl⟩ (fun u3 H locs hp4 hP hD hS => ?_)
            obtain ⟨T11, j12⟩ := u3
            replace hp4 : T11 = dyF 0 (va_up (drF (drF Tt)) (4 + (((ushrI (drF Tt 2) 8) % 6).toNat)) ((ushrI (drF (drF Tt) 2) 8) % 21)) := hp4
            have hP : va_P D vwCl (wRo r ik tn j12 ++ (wA cI (r 1) 100 T11 ++ (wA cI (r 2) 100 K ++ (wA cI (r 3) 100 X ++ (wA cI (r 4) 100 Y ++ (wA cI (r 5) 8 (fR F) ++ (wA cI (r 6) 120 TB ++ (wA cI (r 7) 4 (bR SB) ++ (wA cI (r 8) 4 SS ++ (wA cI (r 9) 160 SN)))))))))) H := hP
            have hD : va_D A (wRo r ik tn j12 ++ (wA cI (r 1) 100 T11 ++ (wA cI (r 2) 100 K ++ (wA cI (r 3) 100 X ++ (wA cI (r 4) 100 Y ++ (wA cI (r 5) 8 (fR F) ++ (wA cI (r 6) 120 TB ++ (wA cI (r 7) 4 (bR SB) ++ (wA cI (r 8) 4 SS ++ (wA cI (r 9) 160 SN)))))))))) := hD
            refine W.eq (g2 := F0 m 74 ls []) rfl ?_
            refine x_iinc hx hb 3 ((t + 1 : Nat) : Int) (by omega) [(2, .int (iI ((t + 1 : Nat) : Int))), (3, .int (iI ((((ushrI (drF Tt 2) 8) % 6).toNat : Nat) : Int))), (0, .ref (r 0)), (1, .int (iI ((n0 : Nat) : Int)))] dX5_talk_74 hl rfl (by decide) rfl (fun ls hl => ?_)
            refine lv_goto (tgt := 41) hx hb dX5_talk_77 (by decide) ?_
            exact ih (t + 1) T11 j12 _ _ _ (by omega) (run_step hr hp4.symm) (by rw [hp4, show B + ((t + 1 : Nat) : Int) = B + (t : Int) + 1 by omega]; exact (dyF_I hi9).1) hP hD hS (lv_sub hl [2, 3, 0] rfl)
      exact L41 n0 0 T j _ _ _ (by omega) rfl (by simpa using hI) hP hD hS (lv_sub hl [1, 2, 0] rfl)
    · exfalso; omega
  · refine lv_aload_n hx hb dX5_talk_12 rfl (lv_at hl 0 rfl) ?_
    refine x_ldc hx hb (-1000001) rfl hown (hts (.constant RX5 37 (-1000001)) (by decide +kernel)) dX5_talk_13 ?_
    refine x_callV (As := [.int (iI (-1000001))]) (rest := []) ⟨hx, hb, hml, hown, hts⟩ (kX5_finds r ik tn j F (-1000001) 0 (by omega) (by omega)) (cwV 1 hts gX5_talk_X5_finds rfl rfl rfl ykVX5_finds ⟨Nat.le_of_ble_eq_true rfl, Nat.le_of_ble_eq_true rfl⟩) hP hK hD hS 0 4 rfl rfl rfl [0, 5] rfl (by decide) (fun _ => rfl) (fun _ => wRo r ik tn j ++ (wA cI (r 1) 100 T ++ (wA cI (r 2) 100 K ++ (wA cI (r 3) 100 X ++ (wA cI (r 4) 100 Y ++ (wA cI (r 5) 8 (fR (bmp 0 F)) ++ (wA cI (r 6) 120 TB ++ (wA cI (r 7) 4 (bR SB) ++ (wA cI (r 8) 4 SS ++ (wA cI (r 9) 160 SN)))))))))) (fun _ => rfl) rfl hl.1 rfl (Nat.le_of_ble_eq_true rfl) dX5_talk_15 ⟨Nat.le_of_ble_eq_true rfl, Nat.le_of_ble_eq_true rfl⟩ (fun _ H locs _ hP hD hS => ?_)
    refine W.eq (g2 := F0 m 18 ls [.int (iI (-1000001))]) rfl ?_
    exact kend (((-1000001), T, K, ik, SB, SS, SN, tn, TB, (bmp 0 F)), X, Y, j) hP hS rfl (if_neg (by omega)).symm dX5_talk_18
