theorem ykSX5_fits : yX5_fits.cls ≠ "java/lang/invoke/MethodHandle" ∧ yX5_fits.cls ≠ "java/lang/invoke/VarHandle" ∧ (parseMethodDescriptor yX5_fits.desc).map (fun d => d.parameters.length) = some 2 := by decide +kernel
theorem ykVX5_fits : yX5_fits.cls = RX5 ∧ yX5_fits.cls ≠ "java/lang/invoke/MethodHandle" ∧ yX5_fits.cls ≠ "java/lang/invoke/VarHandle" ∧ (parseMethodDescriptor yX5_fits.desc).map (fun d => d.parameters.length) = some 2 := ⟨rfl, ykSX5_fits⟩
set_option maxRecDepth 20000 in
theorem iT_X5_fits_X5 : ∀ w ∈ u_ws RX5 TX5 18, w ∈ wsX5_fits := by decide +kernel
set_option maxHeartbeats 4000000 in
set_option maxRecDepth 100000 in
theorem kX5_fits {l : Launch} {D : va_G} {cI cB : ClassId} (r : Nat → Nat) (T K : Tb) (ik : Int) (SB SS SN : Nat → Int) (tn : Int) (TB F : Nat → Int) (X Y : Tb) (j : Nat → Int) (s0 sp : Int) (B : Int) (hG : GI B T K ik SB SS SN tn TB F) (hB : B ≤ 40000) (h_s0 : rI s0) (h_sp : rI sp) : Ct l yX5_fits wsX5_fits 6 136 D [(cI, .int), (cB, .byte)] [.ref (r 0), .int (iI s0), .int (iI sp)] (wM cI r (T, K, ik, SB, SS, SN, tn, TB, F) X Y j) (S := (Int × Gs) × Tb × Tb × (Nat → Int)) (fun u => some (.int (iI u.1.1))) (fun u => u.1 = m_fits s0 sp T K ik SB SS SN tn TB F) (fun u => wM cI r u.1.2 u.2.1 u.2.2.1 u.2.2.2) := by
  refine CtI.of (cc := cX5_fits) (maxL := 7) (by decide +kernel) rfl (Nat.le_of_ble_eq_true rfl) ?_
  intro pg e s m args below meth c Q A hx hb hml hts hown hP hK hD hS ls hl kend
  have hown : s.vm.findClass RX5 = some m.cls := hown
  have hl : lv_has ls 7 [(0, .ref (r 0)), (1, .int (iI s0)), (2, .int (iI sp))] := hl
  obtain ⟨hI, hIK, hik, hSB, hSS, hSN, htn, hTB, hF⟩ := id hG
  have hn := Inv_n hI
  have hdy := Inv_d hI
  have hP : va_P D vwCl (wRo r ik tn j ++ (wA cI (r 1) 100 T ++ (wA cI (r 2) 100 K ++ (wA cI (r 3) 100 X ++ (wA cI (r 4) 100 Y ++ (wA cI (r 5) 8 (fR F) ++ (wA cI (r 6) 120 TB ++ (wA cI (r 7) 4 (bR SB) ++ (wA cI (r 8) 4 SS ++ (wA cI (r 9) 160 SN)))))))))) s.heap := hP
  have hD : va_D A (wRo r ik tn j ++ (wA cI (r 1) 100 T ++ (wA cI (r 2) 100 K ++ (wA cI (r 3) 100 X ++ (wA cI (r 4) 100 Y ++ (wA cI (r 5) 8 (fR F) ++ (wA cI (r 6) 120 TB ++ (wA cI (r 7) 4 (bR SB) ++ (wA cI (r 8) 4 SS ++ (wA cI (r 9) 160 SN)))))))))) := hD
  have hwt := wtF_c SB (T 0) s0 sp
  refine lv_aload_n hx hb dX5_fits_0 rfl (lv_at hl 0 rfl) ?_
  refine lv_iload_n hx hb dX5_fits_1 rfl (lv_at hl 1 rfl) ?_
  refine lv_iload_n hx hb dX5_fits_2 rfl (lv_at hl 2 rfl) ?_
  refine x_callV (As := [.int (iI s0), .int (iI sp)]) (rest := []) ⟨hx, hb, hml, hown, hts⟩ (kX5_wantsFor r ik tn j T SB s0 sp (by omega) (by omega) (by omega) hSB) (cwV 2 hts gX5_fits_X5_wantsFor rfl rfl rfl ykVX5_wantsFor ⟨Nat.le_of_ble_eq_true rfl, Nat.le_of_ble_eq_true rfl⟩) hP hK hD hS 0 4 rfl rfl rfl [0, 1, 7] rfl (by decide) (fun _ => rfl) (fun _ => wRo r ik tn j ++ (wA cI (r 1) 100 T ++ (wA cI (r 2) 100 K ++ (wA cI (r 3) 100 X ++ (wA cI (r 4) 100 Y ++ (wA cI (r 5) 8 (fR F) ++ (wA cI (r 6) 120 TB ++ (wA cI (r 7) 4 (bR SB) ++ (wA cI (r 8) 4 SS ++ (wA cI (r 9) 160 SN)))))))))) (fun _ => rfl) rfl hl.1 rfl (Nat.le_of_ble_eq_true rfl) dX5_fits_3 ⟨Nat.le_of_ble_eq_true rfl, Nat.le_of_ble_eq_true rfl⟩ (fun _ H locs _ hP hD hS => ?_)
  refine W.eq (g2 := F0 m 6 ls [.int (iI (wtF SB (T 0) s0 sp))]) rfl ?_
  refine lv_istore_n (lv' := [(3, .int (iI (wtF SB (T 0) s0 sp))), (0, .ref (r 0)), (1, .int (iI s0)), (2, .int (iI sp))]) hx hb dX5_fits_6 rfl hl (by decide) rfl (fun ls hl => ?_)
  refine lv_iload_n hx hb dX5_fits_7 rfl (lv_at hl 0 rfl) ?_
  refine x_if_eq (tgt := 17) hx hb (by omega) dX5_fits_8 (by decide) (fun c_8 => ?_) (fun c_8 => ?_)
  · have hs9 := wtF_0 (show wtF SB (T 0) s0 sp = 0 by omega)
    obtain ⟨s1, rfl⟩ : ∃ s1 : Nat, s0 = (s1 : Int) := ⟨s0.toNat, by omega⟩
    obtain ⟨p0, rfl⟩ : ∃ p0 : Nat, sp = (p0 : Int) := ⟨sp.toNat, by omega⟩
    refine x_iconst hx hb dX5_fits_17 ?_
    refine lv_istore (lv' := [(4, .int (iI 0)), (3, .int (iI (wtF SB (T 0) ((s1 : Nat) : Int) ((p0 : Nat) : Int)))), (0, .ref (r 0)), (1, .int (iI ((s1 : Nat) : Int))), (2, .int (iI ((p0 : Nat) : Int)))]) hx hb dX5_fits_18 hl (by decide) rfl (fun ls hl => ?_)
    refine x_iconst hx hb dX5_fits_20 ?_
    refine lv_istore (lv' := [(5, .int (iI 0)), (4, .int (iI 0)), (3, .int (iI (wtF SB (T 0) ((s1 : Nat) : Int) ((p0 : Nat) : Int)))), (0, .ref (r 0)), (1, .int (iI ((s1 : Nat) : Int))), (2, .int (iI ((p0 : Nat) : Int)))]) hx hb dX5_fits_21 hl (by decide) rfl (fun ls hl => ?_)
    have L23 : ∀ (k t : Nat) (Y1 : Tb) (jt : Nat → Int) (sv : Int) (H : Heap) (locs : List Loc) (ls : Array Slot), t + k = 6 → (run (seS (fun (t : Nat) => toF SN (40 * s1) p0 (SS s1).toNat 0 (va_up T (cx p0 (4 + t)) (min 999 (T (cx p0 (4 + t)) + 1))))) k t sv = seF (fun (t : Nat) => toF SN (40 * s1) p0 (SS s1).toNat 0 (va_up T (cx p0 (4 + t)) (min 999 (T (cx p0 (4 + t)) + 1)))) 6) → (rI sv) → va_P D vwCl (wRo r ik tn jt ++ (wA cI (r 1) 100 T ++ (wA cI (r 2) 100 K ++ (wA cI (r 3) 100 X ++ (wA cI (r 4) 100 Y1 ++ (wA cI (r 5) 8 (fR F) ++ (wA cI (r 6) 120 TB ++ (wA cI (r 7) 4 (bR SB) ++ (wA cI (r 8) 4 SS ++ (wA cI (r 9) 160 SN)))))))))) H → va_D A (wRo r ik tn jt ++ (wA cI (r 1) 100 T ++ (wA cI (r 2) 100 K ++ (wA cI (r 3) 100 X ++ (wA cI (r 4) 100 Y1 ++ (wA cI (r 5) 8 (fR F) ++ (wA cI (r 6) 120 TB ++ (wA cI (r 7) 4 (bR SB) ++ (wA cI (r 8) 4 SS ++ (wA cI (r 9) 160 SN)))))))))) → va_S A s.heap H locs → lv_has ls 7 [(0, .ref (r 0)), (1, .int (iI ((s1 : Nat) : Int))), (2, .int (iI ((p0 : Nat) : Int))), (3, .int (iI (wtF SB (T 0) ((s1 : Nat) : Int) ((p0 : Nat) : Int)))), (4, .int (iI sv)), (5, .int (iI ((t : Nat) : Int)))] → W pg l e { frames := 6, cells := 0, slots := 0, locals := 136 } s m args below meth c H locs 0 0 Q (F0 m 23 ls []) := by
      intro k
      induction k with
      | zero =>
        intro t Y1 jt sv H locs ls hkt hr hq hP hD hS hl
        refine lv_iload hx hb dX5_fits_23 (lv_at hl 5 rfl) ?_
        refine x_bipush hx hb dX5_fits_25 (by decide) ?_
        refine x_icmp_ge (tgt := 107) hx hb (by omega) (by decide) dX5_fits_27 (by decide) (fun c_27 => ?_) (fun c_27 => ?_)
        · refine lv_iload hx hb dX5_fits_107 (lv_at hl 4 rfl) ?_
          exact kend ((sv, T, K, ik, SB, SS, SN, tn, TB, F), X, Y1, jt) hP hS rfl (by unfold m_fits; rw [if_neg (by omega)]; simp only [Int.toNat_natCast]; rw [← hr] <;> rfl) dX5_fits_109
        · exfalso; omega
      | succ k ih =>
        intro t Y1 jt sv H locs ls hkt hr hq hP hD hS hl
        refine lv_iload hx hb dX5_fits_23 (lv_at hl 5 rfl) ?_
        refine x_bipush hx hb dX5_fits_25 (by decide) ?_
        refine x_icmp_ge (tgt := 107) hx hb (by omega) (by decide) dX5_fits_27 (by decide) (fun c_27 => ?_) (fun c_27 => ?_)
        · exfalso; omega
        · have hq1 := Inv_pl (p := p0) hI (by omega) (show t < 6 by omega)
          refine lv_aload_n hx hb dX5_fits_30 rfl (lv_at hl 0 rfl) ?_
          refine lv_iload_n hx hb dX5_fits_31 rfl (lv_at hl 2 rfl) ?_
          refine x_iconst hx hb dX5_fits_32 ?_
          refine lv_iload hx hb dX5_fits_33 (lv_at hl 5 rfl) ?_
          refine x_iadd hx hb dX5_fits_35 ?_
          refine x_topi ((4 + t : Nat) : Int) (by omega) ?_
          refine x_callV (As := [.int (iI ((p0 : Nat) : Int)), .int (iI ((4 + t : Nat) : Int))]) (rest := []) ⟨hx, hb, hml, hown, hts⟩ (kX5_its r ik tn jt T p0 (4 + t) (by omega) (by omega)) (cwV 2 hts gX5_fits_X5_its rfl rfl rfl ykVX5_its ⟨Nat.le_of_ble_eq_true rfl, Nat.le_of_ble_eq_true rfl⟩) hP hK hD hS 0 4 rfl rfl rfl [0, 1] rfl (by decide) (fun _ => rfl) (fun _ => wRo r ik tn jt ++ (wA cI (r 1) 100 T ++ (wA cI (r 2) 100 K ++ (wA cI (r 3) 100 X ++ (wA cI (r 4) 100 Y1 ++ (wA cI (r 5) 8 (fR F) ++ (wA cI (r 6) 120 TB ++ (wA cI (r 7) 4 (bR SB) ++ (wA cI (r 8) 4 SS ++ (wA cI (r 9) 160 SN)))))))))) (fun _ => rfl) rfl hl.1 rfl (Nat.le_of_ble_eq_true rfl) dX5_fits_36 ⟨Nat.le_of_ble_eq_true rfl, Nat.le_of_ble_eq_true rfl⟩ (fun _ H locs _ hP hD hS => ?_)
          refine W.eq (g2 := F0 m 39 ls [.int (iI (T (cx p0 (4 + t))))]) rfl ?_
          refine lv_istore (lv' := [(6, .int (iI (T (cx p0 (4 + t))))), (0, .ref (r 0)), (1, .int (iI ((s1 : Nat) : Int))), (2, .int (iI ((p0 : Nat) : Int))), (3, .int (iI (wtF SB (T 0) ((s1 : Nat) : Int) ((p0 : Nat) : Int)))), (4, .int (iI sv)), (5, .int (iI ((t : Nat) : Int)))]) hx hb dX5_fits_39 hl (by decide) rfl (fun ls hl => ?_)
          refine lv_aload_n hx hb dX5_fits_41 rfl (lv_at hl 1 rfl) ?_
          refine va_get (D := D) (ci := 4) (v := .ref (r 1)) (C := RX5) (T := TX5) (N := 18) hx hb hts (iT_X5_fits_X5) hown hK hP 0 rfl rfl 0 (by decide) (hts (.fieldLink RX5 7 "WordSupperModel" "s" "[I") (by decide +kernel)) (fun _ h9 => h9) rfl dX5_fits_42 ?_
          refine lv_iload_n hx hb dX5_fits_45 rfl (lv_at hl 3 rfl) ?_
          refine x_iconst hx hb dX5_fits_46 ?_
          refine lv_iload hx hb dX5_fits_47 (lv_at hl 6 rfl) ?_
          refine x_iadd hx hb dX5_fits_49 ?_
          refine x_topi ((4 + t : Nat) : Int) (by omega) ?_
          refine x_callS (As := [.int (iI ((p0 : Nat) : Int)), .int (iI ((4 + t : Nat) : Int))]) (rest := [.ref (r 1)]) ⟨hx, hb, hml, hown, hts⟩ (kX5_at p0 (4 + t) ) (va_cwS 2 hts gX5_fits_X5_at rfl rfl rfl ykSX5_at ⟨Nat.le_of_ble_eq_true rfl, Nat.le_of_ble_eq_true rfl⟩) hP hK hD hS [] rfl (by decide) (fun _ => rfl) (fun _ => wRo r ik tn jt ++ (wA cI (r 1) 100 T ++ (wA cI (r 2) 100 K ++ (wA cI (r 3) 100 X ++ (wA cI (r 4) 100 Y1 ++ (wA cI (r 5) 8 (fR F) ++ (wA cI (r 6) 120 TB ++ (wA cI (r 7) 4 (bR SB) ++ (wA cI (r 8) 4 SS ++ (wA cI (r 9) 160 SN)))))))))) (fun _ => rfl) rfl hl.1 rfl (Nat.le_of_ble_eq_true rfl) dX5_fits_50 ⟨Nat.le_of_ble_eq_true rfl, Nat.le_of_ble_eq_true rfl⟩ (fun _ H locs _ hP hD hS => ?_)
          refine W.eq (g2 := F0 m 53 ls [.int (iI ((cx p0 (4 + t) : Nat) : Int)), .ref (r 1)]) rfl ?_
          refine x_sipush hx hb dX5_fits_53 (by decide) ?_
          refine lv_iload hx hb dX5_fits_56 (lv_at hl 0 rfl) ?_
          refine x_iconst hx hb dX5_fits_58 ?_
          refine x_iadd hx hb dX5_fits_59 ?_
          refine x_callS (As := [.int (iI 999), .int (iI ((T (cx p0 (4 + t))) + 1))]) (rest := [.int (iI ((cx p0 (4 + t) : Nat) : Int)), .ref (r 1)]) ⟨hx, hb, hml, hown, hts⟩ (kX5_least 999 ((T (cx p0 (4 + t))) + 1) (by omega) (by omega)) (va_cwS 2 hts gX5_fits_X5_least rfl rfl rfl ykSX5_least ⟨Nat.le_of_ble_eq_true rfl, Nat.le_of_ble_eq_true rfl⟩) hP hK hD hS [] rfl (by decide) (fun _ => rfl) (fun _ => wRo r ik tn jt ++ (wA cI (r 1) 100 T ++ (wA cI (r 2) 100 K ++ (wA cI (r 3) 100 X ++ (wA cI (r 4) 100 Y1 ++ (wA cI (r 5) 8 (fR F) ++ (wA cI (r 6) 120 TB ++ (wA cI (r 7) 4 (bR SB) ++ (wA cI (r 8) 4 SS ++ (wA cI (r 9) 160 SN)))))))))) (fun _ => rfl) rfl hl.1 rfl (Nat.le_of_ble_eq_true rfl) dX5_fits_60 ⟨Nat.le_of_ble_eq_true rfl, Nat.le_of_ble_eq_true rfl⟩ (fun _ H locs _ hP hD hS => ?_)
          refine W.eq (g2 := F0 m 63 ls [.int (iI (min 999 ((T (cx p0 (4 + t))) + 1))), .int (iI ((cx p0 (4 + t) : Nat) : Int)), .ref (r 1)]) rfl ?_
          refine x_iast hx hb hK hP hD hS 1 0 rfl rfl (cx p0 (4 + t)) rfl (cx_lt1 (by omega) (by omega)) (by decide) (wRo r ik tn jt ++ (wA cI (r 1) 100 (va_up T (cx p0 (4 + t)) (min 999 ((T (cx p0 (4 + t))) + 1))) ++ (wA cI (r 2) 100 K ++ (wA cI (r 3) 100 X ++ (wA cI (r 4) 100 Y1 ++ (wA cI (r 5) 8 (fR F) ++ (wA cI (r 6) 120 TB ++ (wA cI (r 7) 4 (bR SB) ++ (wA cI (r 8) 4 SS ++ (wA cI (r 9) 160 SN)))))))))) (by rw [← wA_up cI (r 1) 100 T (min 999 ((T (cx p0 (4 + t))) + 1)) (cx p0 (4 + t)) (cx_lt1 (by omega) (by omega))]; rfl) dX5_fits_63 (fun H locs hP hD hS => ?_)
          have iS : Inv B ((va_up T (cx p0 (4 + t)) (min 999 ((T (cx p0 (4 + t))) + 1)))) := Inv_cx hI (by omega) (by omega) (fun _ => pkd_pl (by omega))
          have nS : ((va_up T (cx p0 (4 + t)) (min 999 ((T (cx p0 (4 + t))) + 1)))) 0 = T 0 := up_lo _ _ (by omega)
          refine lv_iload hx hb dX5_fits_64 (lv_at hl 5 rfl) ?_
          refine lv_aload_n hx hb dX5_fits_66 rfl (lv_at hl 1 rfl) ?_
          refine lv_iload_n hx hb dX5_fits_67 rfl (lv_at hl 2 rfl) ?_
          refine lv_iload_n hx hb dX5_fits_68 rfl (lv_at hl 3 rfl) ?_
          refine x_callV (As := [.int (iI ((s1 : Nat) : Int)), .int (iI ((p0 : Nat) : Int))]) (rest := [.int (iI sv)]) ⟨hx, hb, hml, hown, hts⟩ (kX5_isTold r ik tn jt (va_up T (cx p0 (4 + t)) (min 999 ((T (cx p0 (4 + t))) + 1))) Y1 SS SN s1 p0 B iS (by omega) (by rw [nS]; omega) (by omega) hSS hSN) (cwV 2 hts gX5_fits_X5_isTold rfl rfl rfl ykVX5_isTold ⟨Nat.le_of_ble_eq_true rfl, Nat.le_of_ble_eq_true rfl⟩) hP hK hD hS 0 4 rfl rfl rfl [0, 1, 4, 8, 9] rfl (by decide) (fun _ => rfl) (fun u => wRo r ik tn u ++ (wA cI (r 1) 100 (va_up T (cx p0 (4 + t)) (min 999 ((T (cx p0 (4 + t))) + 1))) ++ (wA cI (r 2) 100 K ++ (wA cI (r 3) 100 X ++ (wA cI (r 4) 100 (va_up T (cx p0 (4 + t)) (min 999 ((T (cx p0 (4 + t))) + 1))) ++ (wA cI (r 5) 8 (fR F) ++ (wA cI (r 6) 120 TB ++ (wA cI (r 7) 4 (bR SB) ++ (wA cI (r 8) 4 SS ++ (wA cI (r 9) 160 SN)))))))))) (fun _ => rfl) rfl hl.1 rfl (Nat.le_of_ble_eq_true rfl) dX5_fits_69 ⟨Nat.le_of_ble_eq_true rfl, Nat.le_of_ble_eq_true rfl⟩ (fun u2 H locs hp3 hP hD hS => ?_)
          obtain ⟨j11, rfl⟩ : ∃ z, z = u2 := ⟨_, rfl⟩
          have hP : va_P D vwCl (wRo r ik tn j11 ++ (wA cI (r 1) 100 (va_up T (cx p0 (4 + t)) (min 999 ((T (cx p0 (4 + t))) + 1))) ++ (wA cI (r 2) 100 K ++ (wA cI (r 3) 100 X ++ (wA cI (r 4) 100 (va_up T (cx p0 (4 + t)) (min 999 ((T (cx p0 (4 + t))) + 1))) ++ (wA cI (r 5) 8 (fR F) ++ (wA cI (r 6) 120 TB ++ (wA cI (r 7) 4 (bR SB) ++ (wA cI (r 8) 4 SS ++ (wA cI (r 9) 160 SN)))))))))) H := hP
          have hD : va_D A (wRo r ik tn j11 ++ (wA cI (r 1) 100 (va_up T (cx p0 (4 + t)) (min 999 ((T (cx p0 (4 + t))) + 1))) ++ (wA cI (r 2) 100 K ++ (wA cI (r 3) 100 X ++ (wA cI (r 4) 100 (va_up T (cx p0 (4 + t)) (min 999 ((T (cx p0 (4 + t))) + 1))) ++ (wA cI (r 5) 8 (fR F) ++ (wA cI (r 6) 120 TB ++ (wA cI (r 7) 4 (bR SB) ++ (wA cI (r 8) 4 SS ++ (wA cI (r 9) 160 SN)))))))))) := hD
          refine W.eq (g2 := F0 m 72 ls [.int (iI (b2 (decide (toF SN (40 * s1) p0 (SS s1).toNat 0 (va_up T (cx p0 (4 + t)) (min 999 ((T (cx p0 (4 + t))) + 1))) = true)))), .int (iI sv)]) rfl ?_
          refine x_ifb_eq (tgt := 82) hx hb dX5_fits_72 (by decide) (fun c_72 => ?_) (fun c_72 => ?_)
          · refine x_iconst hx hb dX5_fits_82 ?_
            refine x_ior hx hb dX5_fits_83 ?_
            refine lv_istore (lv' := [(4, .int (iI (orI sv 0))), (6, .int (iI (T (cx p0 (4 + t))))), (0, .ref (r 0)), (1, .int (iI ((s1 : Nat) : Int))), (2, .int (iI ((p0 : Nat) : Int))), (3, .int (iI (wtF SB (T 0) ((s1 : Nat) : Int) ((p0 : Nat) : Int)))), (5, .int (iI ((t : Nat) : Int)))]) hx hb dX5_fits_84 hl (by decide) rfl (fun ls hl => ?_)
            refine lv_aload_n hx hb dX5_fits_86 rfl (lv_at hl 2 rfl) ?_
            refine va_get (D := D) (ci := 4) (v := .ref (r 1)) (C := RX5) (T := TX5) (N := 18) hx hb hts (iT_X5_fits_X5) hown hK hP 0 rfl rfl 0 (by decide) (hts (.fieldLink RX5 7 "WordSupperModel" "s" "[I") (by decide +kernel)) (fun _ h9 => h9) rfl dX5_fits_87 ?_
            refine lv_iload_n hx hb dX5_fits_90 rfl (lv_at hl 4 rfl) ?_
            refine x_iconst hx hb dX5_fits_91 ?_
            refine lv_iload hx hb dX5_fits_92 (lv_at hl 6 rfl) ?_
            refine x_iadd hx hb dX5_fits_94 ?_
            refine x_topi ((4 + t : Nat) : Int) (by omega) ?_
            refine x_callS (As := [.int (iI ((p0 : Nat) : Int)), .int (iI ((4 + t : Nat) : Int))]) (rest := [.ref (r 1)]) ⟨hx, hb, hml, hown, hts⟩ (kX5_at p0 (4 + t) ) (va_cwS 2 hts gX5_fits_X5_at rfl rfl rfl ykSX5_at ⟨Nat.le_of_ble_eq_true rfl, Nat.le_of_ble_eq_true rfl⟩) hP hK hD hS [] rfl (by decide) (fun _ => rfl) (fun _ => wRo r ik tn j11 ++ (wA cI (r 1) 100 (va_up T (cx p0 (4 + t)) (min 999 ((T (cx p0 (4 + t))) + 1))) ++ (wA cI (r 2) 100 K ++ (wA cI (r 3) 100 X ++ (wA cI (r 4) 100 (va_up T (cx p0 (4 + t)) (min 999 ((T (cx p0 (4 + t))) + 1))) ++ (wA cI (r 5) 8 (fR F) ++ (wA cI (r 6) 120 TB ++ (wA cI (r 7) 4 (bR SB) ++ (wA cI (r 8) 4 SS ++ (wA cI (r 9) 160 SN)))))))))) (fun _ => rfl) rfl hl.1 rfl (Nat.le_of_ble_eq_true rfl) dX5_fits_95 ⟨Nat.le_of_ble_eq_true rfl, Nat.le_of_ble_eq_true rfl⟩ (fun _ H locs _ hP hD hS => ?_)
            refine W.eq (g2 := F0 m 98 ls [.int (iI ((cx p0 (4 + t) : Nat) : Int)), .ref (r 1)]) rfl ?_
            refine lv_iload hx hb dX5_fits_98 (lv_at hl 1 rfl) ?_
            refine x_iast hx hb hK hP hD hS 1 0 rfl rfl (cx p0 (4 + t)) rfl (cx_lt1 (by omega) (by omega)) (by decide) (wRo r ik tn j11 ++ (wA cI (r 1) 100 (va_up (va_up T (cx p0 (4 + t)) (min 999 ((T (cx p0 (4 + t))) + 1))) (cx p0 (4 + t)) (T (cx p0 (4 + t)))) ++ (wA cI (r 2) 100 K ++ (wA cI (r 3) 100 X ++ (wA cI (r 4) 100 (va_up T (cx p0 (4 + t)) (min 999 ((T (cx p0 (4 + t))) + 1))) ++ (wA cI (r 5) 8 (fR F) ++ (wA cI (r 6) 120 TB ++ (wA cI (r 7) 4 (bR SB) ++ (wA cI (r 8) 4 SS ++ (wA cI (r 9) 160 SN)))))))))) (by rw [← wA_up cI (r 1) 100 (va_up T (cx p0 (4 + t)) (min 999 ((T (cx p0 (4 + t))) + 1))) (T (cx p0 (4 + t))) (cx p0 (4 + t)) (cx_lt1 (by omega) (by omega))]; rfl) dX5_fits_100 (fun H locs hP hD hS => ?_)
            rw [up_back] at hP hD
            refine x_iinc hx hb 6 ((t + 1 : Nat) : Int) (by omega) [(5, .int (iI ((t + 1 : Nat) : Int))), (4, .int (iI (orI sv 0))), (6, .int (iI (T (cx p0 (4 + t))))), (0, .ref (r 0)), (1, .int (iI ((s1 : Nat) : Int))), (2, .int (iI ((p0 : Nat) : Int))), (3, .int (iI (wtF SB (T 0) ((s1 : Nat) : Int) ((p0 : Nat) : Int))))] dX5_fits_101 hl rfl (by decide) rfl (fun ls hl => ?_)
            refine lv_goto (tgt := 23) hx hb dX5_fits_104 (by decide) ?_
            exact ih (t + 1) (va_up T (cx p0 (4 + t)) (min 999 ((T (cx p0 (4 + t))) + 1))) j11 (orI sv 0) _ _ _ (by omega) (run_step hr ((if_neg c_72).trans (orI_0 hq).symm)) (orI_r _ _) hP hD hS (lv_sub hl [3, 4, 5, 6, 1, 0] rfl)
          · refine x_iconst hx hb dX5_fits_75 ?_
            refine lv_iload hx hb dX5_fits_76 (lv_at hl 6 rfl) ?_
            refine x_ishl hx hb dX5_fits_78 ?_
            refine lv_goto (tgt := 83) hx hb dX5_fits_79 (by decide) ?_
            refine x_ior hx hb dX5_fits_83 ?_
            refine lv_istore (lv' := [(4, .int (iI (orI sv (shlI 1 ((t : Nat) : Int))))), (6, .int (iI (T (cx p0 (4 + t))))), (0, .ref (r 0)), (1, .int (iI ((s1 : Nat) : Int))), (2, .int (iI ((p0 : Nat) : Int))), (3, .int (iI (wtF SB (T 0) ((s1 : Nat) : Int) ((p0 : Nat) : Int)))), (5, .int (iI ((t : Nat) : Int)))]) hx hb dX5_fits_84 hl (by decide) rfl (fun ls hl => ?_)
            refine lv_aload_n hx hb dX5_fits_86 rfl (lv_at hl 2 rfl) ?_
            refine va_get (D := D) (ci := 4) (v := .ref (r 1)) (C := RX5) (T := TX5) (N := 18) hx hb hts (iT_X5_fits_X5) hown hK hP 0 rfl rfl 0 (by decide) (hts (.fieldLink RX5 7 "WordSupperModel" "s" "[I") (by decide +kernel)) (fun _ h9 => h9) rfl dX5_fits_87 ?_
            refine lv_iload_n hx hb dX5_fits_90 rfl (lv_at hl 4 rfl) ?_
            refine x_iconst hx hb dX5_fits_91 ?_
            refine lv_iload hx hb dX5_fits_92 (lv_at hl 6 rfl) ?_
            refine x_iadd hx hb dX5_fits_94 ?_
            refine x_topi ((4 + t : Nat) : Int) (by omega) ?_
            refine x_callS (As := [.int (iI ((p0 : Nat) : Int)), .int (iI ((4 + t : Nat) : Int))]) (rest := [.ref (r 1)]) ⟨hx, hb, hml, hown, hts⟩ (kX5_at p0 (4 + t) ) (va_cwS 2 hts gX5_fits_X5_at rfl rfl rfl ykSX5_at ⟨Nat.le_of_ble_eq_true rfl, Nat.le_of_ble_eq_true rfl⟩) hP hK hD hS [] rfl (by decide) (fun _ => rfl) (fun _ => wRo r ik tn j11 ++ (wA cI (r 1) 100 (va_up T (cx p0 (4 + t)) (min 999 ((T (cx p0 (4 + t))) + 1))) ++ (wA cI (r 2) 100 K ++ (wA cI (r 3) 100 X ++ (wA cI (r 4) 100 (va_up T (cx p0 (4 + t)) (min 999 ((T (cx p0 (4 + t))) + 1))) ++ (wA cI (r 5) 8 (fR F) ++ (wA cI (r 6) 120 TB ++ (wA cI (r 7) 4 (bR SB) ++ (wA cI (r 8) 4 SS ++ (wA cI (r 9) 160 SN)))))))))) (fun _ => rfl) rfl hl.1 rfl (Nat.le_of_ble_eq_true rfl) dX5_fits_95 ⟨Nat.le_of_ble_eq_true rfl, Nat.le_of_ble_eq_true rfl⟩ (fun _ H locs _ hP hD hS => ?_)
            refine W.eq (g2 := F0 m 98 ls [.int (iI ((cx p0 (4 + t) : Nat) : Int)), .ref (r 1)]) rfl ?_
            refine lv_iload hx hb dX5_fits_98 (lv_at hl 1 rfl) ?_
            refine x_iast hx hb hK hP hD hS 1 0 rfl rfl (cx p0 (4 + t)) rfl (cx_lt1 (by omega) (by omega)) (by decide) (wRo r ik tn j11 ++ (wA cI (r 1) 100 (va_up (va_up T (cx p0 (4 + t)) (min 999 ((T (cx p0 (4 + t))) + 1))) (cx p0 (4 + t)) (T (cx p0 (4 + t)))) ++ (wA cI (r 2) 100 K ++ (wA cI (r 3) 100 X ++ (wA cI (r 4) 100 (va_up T (cx p0 (4 + t)) (min 999 ((T (cx p0 (4 + t))) + 1))) ++ (wA cI (r 5) 8 (fR F) ++ (wA cI (r 6) 120 TB ++ (wA cI (r 7) 4 (bR SB) ++ (wA cI (r 8) 4 SS ++ (wA cI (r 9) 160 SN)))))))))) (by rw [← wA_up cI (r 1) 100 (va_up T (cx p0 (4 + t)) (min 999 ((T (cx p0 (4 + t))) + 1))) (T (cx p0 (4 + t))) (cx p0 (4 + t)) (cx_lt1 (by omega) (by omega))]; rfl) dX5_fits_100 (fun H locs hP hD hS => ?_)
            rw [up_back] at hP hD
            refine x_iinc hx hb 6 ((t + 1 : Nat) : Int) (by omega) [(5, .int (iI ((t + 1 : Nat) : Int))), (4, .int (iI (orI sv (shlI 1 ((t : Nat) : Int))))), (6, .int (iI (T (cx p0 (4 + t))))), (0, .ref (r 0)), (1, .int (iI ((s1 : Nat) : Int))), (2, .int (iI ((p0 : Nat) : Int))), (3, .int (iI (wtF SB (T 0) ((s1 : Nat) : Int) ((p0 : Nat) : Int))))] dX5_fits_101 hl rfl (by decide) rfl (fun ls hl => ?_)
            refine lv_goto (tgt := 23) hx hb dX5_fits_104 (by decide) ?_
            exact ih (t + 1) (va_up T (cx p0 (4 + t)) (min 999 ((T (cx p0 (4 + t))) + 1))) j11 (orI sv (shlI 1 ((t : Nat) : Int))) _ _ _ (by omega) (run_step hr (if_pos c_72)) (orI_r _ _) hP hD hS (lv_sub hl [3, 4, 5, 6, 1, 0] rfl)
    exact L23 6 0 Y j 0 _ _ _ (by omega) rfl (by decide) hP hD hS (lv_sub hl [3, 4, 5, 2, 1, 0] rfl)
  · obtain ⟨kw, hkw⟩ : ∃ k9 : Nat, k9 = (-1000001 - wtF SB (T 0) s0 sp).toNat := ⟨_, rfl⟩
    refine lv_aload_n hx hb dX5_fits_11 rfl (lv_at hl 1 rfl) ?_
    refine lv_iload_n hx hb dX5_fits_12 rfl (lv_at hl 0 rfl) ?_
    refine x_callV (As := [.int (iI (wtF SB (T 0) s0 sp))]) (rest := []) ⟨hx, hb, hml, hown, hts⟩ (kX5_finds r ik tn j F (wtF SB (T 0) s0 sp) kw (by omega) (by omega)) (cwV 1 hts gX5_fits_X5_finds rfl rfl rfl ykVX5_finds ⟨Nat.le_of_ble_eq_true rfl, Nat.le_of_ble_eq_true rfl⟩) hP hK hD hS 0 4 rfl rfl rfl [0, 5] rfl (by decide) (fun _ => rfl) (fun _ => wRo r ik tn j ++ (wA cI (r 1) 100 T ++ (wA cI (r 2) 100 K ++ (wA cI (r 3) 100 X ++ (wA cI (r 4) 100 Y ++ (wA cI (r 5) 8 (fR (bmp kw F)) ++ (wA cI (r 6) 120 TB ++ (wA cI (r 7) 4 (bR SB) ++ (wA cI (r 8) 4 SS ++ (wA cI (r 9) 160 SN)))))))))) (fun _ => rfl) rfl hl.1 rfl (Nat.le_of_ble_eq_true rfl) dX5_fits_13 ⟨Nat.le_of_ble_eq_true rfl, Nat.le_of_ble_eq_true rfl⟩ (fun _ H locs _ hP hD hS => ?_)
    refine W.eq (g2 := F0 m 16 ls [.int (iI (wtF SB (T 0) s0 sp))]) rfl ?_
    exact kend (((wtF SB (T 0) s0 sp), T, K, ik, SB, SS, SN, tn, TB, (bmp kw F)), X, Y, j) hP hS rfl (by rw [hkw]; exact (if_pos (by omega)).symm) dX5_fits_16
theorem ykSX5_kinds : yX5_kinds.cls ≠ "java/lang/invoke/MethodHandle" ∧ yX5_kinds.cls ≠ "java/lang/invoke/VarHandle" ∧ (parseMethodDescriptor yX5_kinds.desc).map (fun d => d.parameters.length) = some 2 := by decide +kernel
theorem ykVX5_kinds : yX5_kinds.cls = RX5 ∧ yX5_kinds.cls ≠ "java/lang/invoke/MethodHandle" ∧ yX5_kinds.cls ≠ "java/lang/invoke/VarHandle" ∧ (parseMethodDescriptor yX5_kinds.desc).map (fun d => d.parameters.length) = some 2 := ⟨rfl, ykSX5_kinds⟩
set_option maxRecDepth 20000 in
theorem iT_X5_kinds_X5 : ∀ w ∈ u_ws RX5 TX5 18, w ∈ wsX5_kinds := by decide +kernel
set_option maxHeartbeats 4000000 in
set_option maxRecDepth 100000 in
theorem kX5_kinds {l : Launch} {D : va_G} {cI cB : ClassId} (r : Nat → Nat) (T K : Tb) (ik : Int) (SB SS SN : Nat → Int) (tn : Int) (TB F : Nat → Int) (X Y : Tb) (j : Nat → Int) (s0 sp : Int) (B : Int) (hG : GI B T K ik SB SS SN tn TB F) (hB : B ≤ 40000) (h_s0 : rI s0) (h_sp : rI sp) : Ct l yX5_kinds wsX5_kinds 6 136 D [(cI, .int), (cB, .byte)] [.ref (r 0), .int (iI s0), .int (iI sp)] (wM cI r (T, K, ik, SB, SS, SN, tn, TB, F) X Y j) (S := (Int × Gs) × Tb × Tb × (Nat → Int)) (fun u => some (.int (iI u.1.1))) (fun u => u.1 = m_kinds s0 sp T K ik SB SS SN tn TB F) (fun u => wM cI r u.1.2 u.2.1 u.2.2.1 u.2.2.2) := by
  refine CtI.of (cc := cX5_kinds) (maxL := 7) (by decide +kernel) rfl (Nat.le_of_ble_eq_true rfl) ?_
  intro pg e s m args below meth c Q A hx hb hml hts hown hP hK hD hS ls hl kend
  have hown : s.vm.findClass RX5 = some m.cls := hown
  have hl : lv_has ls 7 [(0, .ref (r 0)), (1, .int (iI s0)), (2, .int (iI sp))] := hl
  obtain ⟨hI, hIK, hik, hSB, hSS, hSN, htn, hTB, hF⟩ := id hG
  have hn := Inv_n hI
  have hdy := Inv_d hI
  have hP : va_P D vwCl (wRo r ik tn j ++ (wA cI (r 1) 100 T ++ (wA cI (r 2) 100 K ++ (wA cI (r 3) 100 X ++ (wA cI (r 4) 100 Y ++ (wA cI (r 5) 8 (fR F) ++ (wA cI (r 6) 120 TB ++ (wA cI (r 7) 4 (bR SB) ++ (wA cI (r 8) 4 SS ++ (wA cI (r 9) 160 SN)))))))))) s.heap := hP
  have hD : va_D A (wRo r ik tn j ++ (wA cI (r 1) 100 T ++ (wA cI (r 2) 100 K ++ (wA cI (r 3) 100 X ++ (wA cI (r 4) 100 Y ++ (wA cI (r 5) 8 (fR F) ++ (wA cI (r 6) 120 TB ++ (wA cI (r 7) 4 (bR SB) ++ (wA cI (r 8) 4 SS ++ (wA cI (r 9) 160 SN)))))))))) := hD
  have hwt := wtF_c SB (T 0) s0 sp
  refine lv_aload_n hx hb dX5_kinds_0 rfl (lv_at hl 0 rfl) ?_
  refine lv_iload_n hx hb dX5_kinds_1 rfl (lv_at hl 1 rfl) ?_
  refine lv_iload_n hx hb dX5_kinds_2 rfl (lv_at hl 2 rfl) ?_
  refine x_callV (As := [.int (iI s0), .int (iI sp)]) (rest := []) ⟨hx, hb, hml, hown, hts⟩ (kX5_wantsFor r ik tn j T SB s0 sp (by omega) (by omega) (by omega) hSB) (cwV 2 hts gX5_kinds_X5_wantsFor rfl rfl rfl ykVX5_wantsFor ⟨Nat.le_of_ble_eq_true rfl, Nat.le_of_ble_eq_true rfl⟩) hP hK hD hS 0 4 rfl rfl rfl [0, 1, 7] rfl (by decide) (fun _ => rfl) (fun _ => wRo r ik tn j ++ (wA cI (r 1) 100 T ++ (wA cI (r 2) 100 K ++ (wA cI (r 3) 100 X ++ (wA cI (r 4) 100 Y ++ (wA cI (r 5) 8 (fR F) ++ (wA cI (r 6) 120 TB ++ (wA cI (r 7) 4 (bR SB) ++ (wA cI (r 8) 4 SS ++ (wA cI (r 9) 160 SN)))))))))) (fun _ => rfl) rfl hl.1 rfl (Nat.le_of_ble_eq_true rfl) dX5_kinds_3 ⟨Nat.le_of_ble_eq_true rfl, Nat.le_of_ble_eq_true rfl⟩ (fun _ H locs _ hP hD hS => ?_)
  refine W.eq (g2 := F0 m 6 ls [.int (iI (wtF SB (T 0) s0 sp))]) rfl ?_
  refine lv_istore_n (lv' := [(3, .int (iI (wtF SB (T 0) s0 sp))), (0, .ref (r 0)), (1, .int (iI s0)), (2, .int (iI sp))]) hx hb dX5_kinds_6 rfl hl (by decide) rfl (fun ls hl => ?_)
  refine lv_iload_n hx hb dX5_kinds_7 rfl (lv_at hl 0 rfl) ?_
  refine x_if_eq (tgt := 17) hx hb (by omega) dX5_kinds_8 (by decide) (fun c_8 => ?_) (fun c_8 => ?_)
  · have hs9 := wtF_0 (show wtF SB (T 0) s0 sp = 0 by omega)
    obtain ⟨s1, rfl⟩ : ∃ s1 : Nat, s0 = (s1 : Int) := ⟨s0.toNat, by omega⟩
    obtain ⟨p0, rfl⟩ : ∃ p0 : Nat, sp = (p0 : Int) := ⟨sp.toNat, by omega⟩
    refine lv_aload_n hx hb dX5_kinds_17 rfl (lv_at hl 1 rfl) ?_
    refine lv_iload_n hx hb dX5_kinds_18 rfl (lv_at hl 3 rfl) ?_
    refine x_iconst hx hb dX5_kinds_19 ?_
    refine x_callV (As := [.int (iI ((p0 : Nat) : Int)), .int (iI 0)]) (rest := []) ⟨hx, hb, hml, hown, hts⟩ (kX5_its r ik tn j T p0 0 (by omega) (by omega)) (cwV 2 hts gX5_kinds_X5_its rfl rfl rfl ykVX5_its ⟨Nat.le_of_ble_eq_true rfl, Nat.le_of_ble_eq_true rfl⟩) hP hK hD hS 0 4 rfl rfl rfl [0, 1] rfl (by decide) (fun _ => rfl) (fun _ => wRo r ik tn j ++ (wA cI (r 1) 100 T ++ (wA cI (r 2) 100 K ++ (wA cI (r 3) 100 X ++ (wA cI (r 4) 100 Y ++ (wA cI (r 5) 8 (fR F) ++ (wA cI (r 6) 120 TB ++ (wA cI (r 7) 4 (bR SB) ++ (wA cI (r 8) 4 SS ++ (wA cI (r 9) 160 SN)))))))))) (fun _ => rfl) rfl hl.1 rfl (Nat.le_of_ble_eq_true rfl) dX5_kinds_20 ⟨Nat.le_of_ble_eq_true rfl, Nat.le_of_ble_eq_true rfl⟩ (fun _ H locs _ hP hD hS => ?_)
    refine W.eq (g2 := F0 m 23 ls [.int (iI (T (cx p0 0)))]) rfl ?_
    refine lv_istore (lv' := [(4, .int (iI (T (cx p0 0)))), (3, .int (iI (wtF SB (T 0) ((s1 : Nat) : Int) ((p0 : Nat) : Int)))), (0, .ref (r 0)), (1, .int (iI ((s1 : Nat) : Int))), (2, .int (iI ((p0 : Nat) : Int)))]) hx hb dX5_kinds_23 hl (by decide) rfl (fun ls hl => ?_)
    refine x_iconst hx hb dX5_kinds_25 ?_
    refine lv_istore (lv' := [(5, .int (iI 0)), (4, .int (iI (T (cx p0 0)))), (3, .int (iI (wtF SB (T 0) ((s1 : Nat) : Int) ((p0 : Nat) : Int)))), (0, .ref (r 0)), (1, .int (iI ((s1 : Nat) : Int))), (2, .int (iI ((p0 : Nat) : Int)))]) hx hb dX5_kinds_26 hl (by decide) rfl (fun ls hl => ?_)
    refine x_iconst hx hb dX5_kinds_28 ?_
    refine lv_istore (lv' := [(6, .int (iI 0)), (5, .int (iI 0)), (4, .int (iI (T (cx p0 0)))), (3, .int (iI (wtF SB (T 0) ((s1 : Nat) : Int) ((p0 : Nat) : Int)))), (0, .ref (r 0)), (1, .int (iI ((s1 : Nat) : Int))), (2, .int (iI ((p0 : Nat) : Int)))]) hx hb dX5_kinds_29 hl (by decide) rfl (fun ls hl => ?_)
    have L31 : ∀ (k t : Nat) (Tt : Tb) (Y1 : Tb) (jt : Nat → Int) (sv : Int) (H : Heap) (locs : List Loc) (ls : Array Slot), t + k = 7 → (∀ v : Int, va_up Tt (cx p0 0) v = va_up T (cx p0 0) v) → (Tt 0 = T 0) → (run (seS (fun (t : Nat) => toF SN (40 * s1) p0 (SS s1).toNat 0 (va_up T (cx p0 0) (t : Int)))) k t sv = seF (fun (t : Nat) => toF SN (40 * s1) p0 (SS s1).toNat 0 (va_up T (cx p0 0) (t : Int))) 7) → (rI sv) → va_P D vwCl (wRo r ik tn jt ++ (wA cI (r 1) 100 Tt ++ (wA cI (r 2) 100 K ++ (wA cI (r 3) 100 X ++ (wA cI (r 4) 100 Y1 ++ (wA cI (r 5) 8 (fR F) ++ (wA cI (r 6) 120 TB ++ (wA cI (r 7) 4 (bR SB) ++ (wA cI (r 8) 4 SS ++ (wA cI (r 9) 160 SN)))))))))) H → va_D A (wRo r ik tn jt ++ (wA cI (r 1) 100 Tt ++ (wA cI (r 2) 100 K ++ (wA cI (r 3) 100 X ++ (wA cI (r 4) 100 Y1 ++ (wA cI (r 5) 8 (fR F) ++ (wA cI (r 6) 120 TB ++ (wA cI (r 7) 4 (bR SB) ++ (wA cI (r 8) 4 SS ++ (wA cI (r 9) 160 SN)))))))))) → va_S A s.heap H locs → lv_has ls 7 [(0, .ref (r 0)), (1, .int (iI ((s1 : Nat) : Int))), (2, .int (iI ((p0 : Nat) : Int))), (3, .int (iI (wtF SB (T 0) ((s1 : Nat) : Int) ((p0 : Nat) : Int)))), (4, .int (iI (T (cx p0 0)))), (5, .int (iI sv)), (6, .int (iI ((t : Nat) : Int)))] → W pg l e { frames := 6, cells := 0, slots := 0, locals := 136 } s m args below meth c H locs 0 0 Q (F0 m 31 ls []) := by
      intro k
      induction k with
      | zero =>
        intro t Tt Y1 jt sv H locs ls hkt hT h0 hr hq hP hD hS hl
        refine lv_iload hx hb dX5_kinds_31 (lv_at hl 6 rfl) ?_
        refine x_bipush hx hb dX5_kinds_33 (by decide) ?_
        refine x_icmp_gt (tgt := 78) hx hb (by omega) (by decide) dX5_kinds_35 (by decide) (fun c_35 => ?_) (fun c_35 => ?_)
        · refine lv_aload_n hx hb dX5_kinds_78 rfl (lv_at hl 0 rfl) ?_
          refine va_get (D := D) (ci := 4) (v := .ref (r 1)) (C := RX5) (T := TX5) (N := 18) hx hb hts (iT_X5_kinds_X5) hown hK hP 0 rfl rfl 0 (by decide) (hts (.fieldLink RX5 7 "WordSupperModel" "s" "[I") (by decide +kernel)) (fun _ h9 => h9) rfl dX5_kinds_79 ?_
          refine lv_iload_n hx hb dX5_kinds_82 rfl (lv_at hl 2 rfl) ?_
          refine x_iconst hx hb dX5_kinds_83 ?_
          refine x_callS (As := [.int (iI ((p0 : Nat) : Int)), .int (iI 0)]) (rest := [.ref (r 1)]) ⟨hx, hb, hml, hown, hts⟩ (kX5_at p0 0 ) (va_cwS 2 hts gX5_kinds_X5_at rfl rfl rfl ykSX5_at ⟨Nat.le_of_ble_eq_true rfl, Nat.le_of_ble_eq_true rfl⟩) hP hK hD hS [] rfl (by decide) (fun _ => rfl) (fun _ => wRo r ik tn jt ++ (wA cI (r 1) 100 Tt ++ (wA cI (r 2) 100 K ++ (wA cI (r 3) 100 X ++ (wA cI (r 4) 100 Y1 ++ (wA cI (r 5) 8 (fR F) ++ (wA cI (r 6) 120 TB ++ (wA cI (r 7) 4 (bR SB) ++ (wA cI (r 8) 4 SS ++ (wA cI (r 9) 160 SN)))))))))) (fun _ => rfl) rfl hl.1 rfl (Nat.le_of_ble_eq_true rfl) dX5_kinds_84 ⟨Nat.le_of_ble_eq_true rfl, Nat.le_of_ble_eq_true rfl⟩ (fun _ H locs _ hP hD hS => ?_)
          refine W.eq (g2 := F0 m 87 ls [.int (iI ((cx p0 0 : Nat) : Int)), .ref (r 1)]) rfl ?_
          refine lv_iload hx hb dX5_kinds_87 (lv_at hl 4 rfl) ?_
          refine x_iast hx hb hK hP hD hS 1 0 rfl rfl (cx p0 0) rfl (cx_lt1 (by omega) (by omega)) (by decide) (wRo r ik tn jt ++ (wA cI (r 1) 100 (va_up Tt (cx p0 0) (T (cx p0 0))) ++ (wA cI (r 2) 100 K ++ (wA cI (r 3) 100 X ++ (wA cI (r 4) 100 Y1 ++ (wA cI (r 5) 8 (fR F) ++ (wA cI (r 6) 120 TB ++ (wA cI (r 7) 4 (bR SB) ++ (wA cI (r 8) 4 SS ++ (wA cI (r 9) 160 SN)))))))))) (by rw [← wA_up cI (r 1) 100 Tt (T (cx p0 0)) (cx p0 0) (cx_lt1 (by omega) (by omega))]; rfl) dX5_kinds_89 (fun H locs hP hD hS => ?_)
          rw [hT, up_id] at hP hD
          refine lv_iload hx hb dX5_kinds_90 (lv_at hl 5 rfl) ?_
          exact kend ((sv, T, K, ik, SB, SS, SN, tn, TB, F), X, Y1, jt) hP hS rfl (by unfold m_kinds; rw [if_neg (by omega)]; simp only [Int.toNat_natCast]; rw [← hr] <;> rfl) dX5_kinds_92
        · exfalso; omega
      | succ k ih =>
        intro t Tt Y1 jt sv H locs ls hkt hT h0 hr hq hP hD hS hl
        refine lv_iload hx hb dX5_kinds_31 (lv_at hl 6 rfl) ?_
        refine x_bipush hx hb dX5_kinds_33 (by decide) ?_
        refine x_icmp_gt (tgt := 78) hx hb (by omega) (by decide) dX5_kinds_35 (by decide) (fun c_35 => ?_) (fun c_35 => ?_)
        · exfalso; omega
        · refine lv_aload_n hx hb dX5_kinds_38 rfl (lv_at hl 0 rfl) ?_
          refine va_get (D := D) (ci := 4) (v := .ref (r 1)) (C := RX5) (T := TX5) (N := 18) hx hb hts (iT_X5_kinds_X5) hown hK hP 0 rfl rfl 0 (by decide) (hts (.fieldLink RX5 7 "WordSupperModel" "s" "[I") (by decide +kernel)) (fun _ h9 => h9) rfl dX5_kinds_39 ?_
          refine lv_iload_n hx hb dX5_kinds_42 rfl (lv_at hl 2 rfl) ?_
          refine x_iconst hx hb dX5_kinds_43 ?_
          refine x_callS (As := [.int (iI ((p0 : Nat) : Int)), .int (iI 0)]) (rest := [.ref (r 1)]) ⟨hx, hb, hml, hown, hts⟩ (kX5_at p0 0 ) (va_cwS 2 hts gX5_kinds_X5_at rfl rfl rfl ykSX5_at ⟨Nat.le_of_ble_eq_true rfl, Nat.le_of_ble_eq_true rfl⟩) hP hK hD hS [] rfl (by decide) (fun _ => rfl) (fun _ => wRo r ik tn jt ++ (wA cI (r 1) 100 Tt ++ (wA cI (r 2) 100 K ++ (wA cI (r 3) 100 X ++ (wA cI (r 4) 100 Y1 ++ (wA cI (r 5) 8 (fR F) ++ (wA cI (r 6) 120 TB ++ (wA cI (r 7) 4 (bR SB) ++ (wA cI (r 8) 4 SS ++ (wA cI (r 9) 160 SN)))))))))) (fun _ => rfl) rfl hl.1 rfl (Nat.le_of_ble_eq_true rfl) dX5_kinds_44 ⟨Nat.le_of_ble_eq_true rfl, Nat.le_of_ble_eq_true rfl⟩ (fun _ H locs _ hP hD hS => ?_)
          refine W.eq (g2 := F0 m 47 ls [.int (iI ((cx p0 0 : Nat) : Int)), .ref (r 1)]) rfl ?_
          refine lv_iload hx hb dX5_kinds_47 (lv_at hl 6 rfl) ?_
          refine x_iast hx hb hK hP hD hS 1 0 rfl rfl (cx p0 0) rfl (cx_lt1 (by omega) (by omega)) (by decide) (wRo r ik tn jt ++ (wA cI (r 1) 100 (va_up Tt (cx p0 0) ((t : Nat) : Int)) ++ (wA cI (r 2) 100 K ++ (wA cI (r 3) 100 X ++ (wA cI (r 4) 100 Y1 ++ (wA cI (r 5) 8 (fR F) ++ (wA cI (r 6) 120 TB ++ (wA cI (r 7) 4 (bR SB) ++ (wA cI (r 8) 4 SS ++ (wA cI (r 9) 160 SN)))))))))) (by rw [← wA_up cI (r 1) 100 Tt ((t : Nat) : Int) (cx p0 0) (cx_lt1 (by omega) (by omega))]; rfl) dX5_kinds_49 (fun H locs hP hD hS => ?_)
          rw [hT] at hP hD
          have iS : Inv B (va_up T (cx p0 0) ((t : Nat) : Int)) := Inv_cx hI (by omega) (by omega) (fun _ => show 0 ≤ ((t : Nat) : Int) ∧ ((t : Nat) : Int) ≤ 6 by omega)
          have nS : (va_up T (cx p0 0) ((t : Nat) : Int)) 0 = T 0 := up_lo _ _ (by omega)
          refine lv_iload hx hb dX5_kinds_50 (lv_at hl 5 rfl) ?_
          refine lv_aload_n hx hb dX5_kinds_52 rfl (lv_at hl 0 rfl) ?_
          refine lv_iload_n hx hb dX5_kinds_53 rfl (lv_at hl 1 rfl) ?_
          refine lv_iload_n hx hb dX5_kinds_54 rfl (lv_at hl 2 rfl) ?_
          refine x_callV (As := [.int (iI ((s1 : Nat) : Int)), .int (iI ((p0 : Nat) : Int))]) (rest := [.int (iI sv)]) ⟨hx, hb, hml, hown, hts⟩ (kX5_isTold r ik tn jt (va_up T (cx p0 0) ((t : Nat) : Int)) Y1 SS SN s1 p0 B iS (by omega) (by rw [nS]; omega) (by omega) hSS hSN) (cwV 2 hts gX5_kinds_X5_isTold rfl rfl rfl ykVX5_isTold ⟨Nat.le_of_ble_eq_true rfl, Nat.le_of_ble_eq_true rfl⟩) hP hK hD hS 0 4 rfl rfl rfl [0, 1, 4, 8, 9] rfl (by decide) (fun _ => rfl) (fun u => wRo r ik tn u ++ (wA cI (r 1) 100 (va_up T (cx p0 0) ((t : Nat) : Int)) ++ (wA cI (r 2) 100 K ++ (wA cI (r 3) 100 X ++ (wA cI (r 4) 100 (va_up T (cx p0 0) ((t : Nat) : Int)) ++ (wA cI (r 5) 8 (fR F) ++ (wA cI (r 6) 120 TB ++ (wA cI (r 7) 4 (bR SB) ++ (wA cI (r 8) 4 SS ++ (wA cI (r 9) 160 SN)))))))))) (fun _ => rfl) rfl hl.1 rfl (Nat.le_of_ble_eq_true rfl) dX5_kinds_55 ⟨Nat.le_of_ble_eq_true rfl, Nat.le_of_ble_eq_true rfl⟩ (fun u2 H locs hp3 hP hD hS => ?_)
          obtain ⟨j11, rfl⟩ : ∃ z, z = u2 := ⟨_, rfl⟩
          have hP : va_P D vwCl (wRo r ik tn j11 ++ (wA cI (r 1) 100 (va_up T (cx p0 0) ((t : Nat) : Int)) ++ (wA cI (r 2) 100 K ++ (wA cI (r 3) 100 X ++ (wA cI (r 4) 100 (va_up T (cx p0 0) ((t : Nat) : Int)) ++ (wA cI (r 5) 8 (fR F) ++ (wA cI (r 6) 120 TB ++ (wA cI (r 7) 4 (bR SB) ++ (wA cI (r 8) 4 SS ++ (wA cI (r 9) 160 SN)))))))))) H := hP
          have hD : va_D A (wRo r ik tn j11 ++ (wA cI (r 1) 100 (va_up T (cx p0 0) ((t : Nat) : Int)) ++ (wA cI (r 2) 100 K ++ (wA cI (r 3) 100 X ++ (wA cI (r 4) 100 (va_up T (cx p0 0) ((t : Nat) : Int)) ++ (wA cI (r 5) 8 (fR F) ++ (wA cI (r 6) 120 TB ++ (wA cI (r 7) 4 (bR SB) ++ (wA cI (r 8) 4 SS ++ (wA cI (r 9) 160 SN)))))))))) := hD
          refine W.eq (g2 := F0 m 58 ls [.int (iI (b2 (decide (toF SN (40 * s1) p0 (SS s1).toNat 0 (va_up T (cx p0 0) ((t : Nat) : Int)) = true)))), .int (iI sv)]) rfl ?_
          refine x_ifb_eq (tgt := 68) hx hb dX5_kinds_58 (by decide) (fun c_58 => ?_) (fun c_58 => ?_)
          · refine x_iconst hx hb dX5_kinds_68 ?_
            refine x_ior hx hb dX5_kinds_69 ?_
            refine lv_istore (lv' := [(5, .int (iI (orI sv 0))), (0, .ref (r 0)), (1, .int (iI ((s1 : Nat) : Int))), (2, .int (iI ((p0 : Nat) : Int))), (3, .int (iI (wtF SB (T 0) ((s1 : Nat) : Int) ((p0 : Nat) : Int)))), (4, .int (iI (T (cx p0 0)))), (6, .int (iI ((t : Nat) : Int)))]) hx hb dX5_kinds_70 hl (by decide) rfl (fun ls hl => ?_)
            refine x_iinc hx hb 6 ((t + 1 : Nat) : Int) (by omega) [(6, .int (iI ((t + 1 : Nat) : Int))), (5, .int (iI (orI sv 0))), (0, .ref (r 0)), (1, .int (iI ((s1 : Nat) : Int))), (2, .int (iI ((p0 : Nat) : Int))), (3, .int (iI (wtF SB (T 0) ((s1 : Nat) : Int) ((p0 : Nat) : Int)))), (4, .int (iI (T (cx p0 0))))] dX5_kinds_72 hl rfl (by decide) rfl (fun ls hl => ?_)
            refine lv_goto (tgt := 31) hx hb dX5_kinds_75 (by decide) ?_
            exact ih (t + 1) (va_up T (cx p0 0) ((t : Nat) : Int)) (va_up T (cx p0 0) ((t : Nat) : Int)) j11 (orI sv 0) _ _ _ (by omega) (fun v => up_up _ _ _ _) (up_lo _ _ (by omega)) (run_step hr ((if_neg c_58).trans (orI_0 hq).symm)) (orI_r _ _) hP hD hS (lv_sub hl [2, 3, 4, 5, 6, 1, 0] rfl)
          · refine x_iconst hx hb dX5_kinds_61 ?_
            refine lv_iload hx hb dX5_kinds_62 (lv_at hl 6 rfl) ?_
            refine x_ishl hx hb dX5_kinds_64 ?_
            refine lv_goto (tgt := 69) hx hb dX5_kinds_65 (by decide) ?_
            refine x_ior hx hb dX5_kinds_69 ?_
            refine lv_istore (lv' := [(5, .int (iI (orI sv (shlI 1 ((t : Nat) : Int))))), (0, .ref (r 0)), (1, .int (iI ((s1 : Nat) : Int))), (2, .int (iI ((p0 : Nat) : Int))), (3, .int (iI (wtF SB (T 0) ((s1 : Nat) : Int) ((p0 : Nat) : Int)))), (4, .int (iI (T (cx p0 0)))), (6, .int (iI ((t : Nat) : Int)))]) hx hb dX5_kinds_70 hl (by decide) rfl (fun ls hl => ?_)
            refine x_iinc hx hb 6 ((t + 1 : Nat) : Int) (by omega) [(6, .int (iI ((t + 1 : Nat) : Int))), (5, .int (iI (orI sv (shlI 1 ((t : Nat) : Int))))), (0, .ref (r 0)), (1, .int (iI ((s1 : Nat) : Int))), (2, .int (iI ((p0 : Nat) : Int))), (3, .int (iI (wtF SB (T 0) ((s1 : Nat) : Int) ((p0 : Nat) : Int)))), (4, .int (iI (T (cx p0 0))))] dX5_kinds_72 hl rfl (by decide) rfl (fun ls hl => ?_)
            refine lv_goto (tgt := 31) hx hb dX5_kinds_75 (by decide) ?_
            exact ih (t + 1) (va_up T (cx p0 0) ((t : Nat) : Int)) (va_up T (cx p0 0) ((t : Nat) : Int)) j11 (orI sv (shlI 1 ((t : Nat) : Int))) _ _ _ (by omega) (fun v => up_up _ _ _ _) (up_lo _ _ (by omega)) (run_step hr (if_pos c_58)) (orI_r _ _) hP hD hS (lv_sub hl [2, 3, 4, 5, 6, 1, 0] rfl)
    exact L31 7 0 T Y j 0 _ _ _ (by omega) (fun _ => rfl) rfl rfl (by decide) hP hD hS (lv_sub hl [4, 5, 6, 3, 2, 1, 0] rfl)
  · obtain ⟨kw, hkw⟩ : ∃ k9 : Nat, k9 = (-1000001 - wtF SB (T 0) s0 sp).toNat := ⟨_, rfl⟩
    refine lv_aload_n hx hb dX5_kinds_11 rfl (lv_at hl 1 rfl) ?_
    refine lv_iload_n hx hb dX5_kinds_12 rfl (lv_at hl 0 rfl) ?_
    refine x_callV (As := [.int (iI (wtF SB (T 0) s0 sp))]) (rest := []) ⟨hx, hb, hml, hown, hts⟩ (kX5_finds r ik tn j F (wtF SB (T 0) s0 sp) kw (by omega) (by omega)) (cwV 1 hts gX5_kinds_X5_finds rfl rfl rfl ykVX5_finds ⟨Nat.le_of_ble_eq_true rfl, Nat.le_of_ble_eq_true rfl⟩) hP hK hD hS 0 4 rfl rfl rfl [0, 5] rfl (by decide) (fun _ => rfl) (fun _ => wRo r ik tn j ++ (wA cI (r 1) 100 T ++ (wA cI (r 2) 100 K ++ (wA cI (r 3) 100 X ++ (wA cI (r 4) 100 Y ++ (wA cI (r 5) 8 (fR (bmp kw F)) ++ (wA cI (r 6) 120 TB ++ (wA cI (r 7) 4 (bR SB) ++ (wA cI (r 8) 4 SS ++ (wA cI (r 9) 160 SN)))))))))) (fun _ => rfl) rfl hl.1 rfl (Nat.le_of_ble_eq_true rfl) dX5_kinds_13 ⟨Nat.le_of_ble_eq_true rfl, Nat.le_of_ble_eq_true rfl⟩ (fun _ H locs _ hP hD hS => ?_)
    refine W.eq (g2 := F0 m 16 ls [.int (iI (wtF SB (T 0) s0 sp))]) rfl ?_
    exact kend (((wtF SB (T 0) s0 sp), T, K, ik, SB, SS, SN, tn, TB, (bmp kw F)), X, Y, j) hP hS rfl (by rw [hkw]; exact (if_pos (by omega)).symm) dX5_kinds_16
