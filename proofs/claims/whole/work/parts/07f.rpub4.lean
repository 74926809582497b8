theorem ykSX5_seed : yX5_seed.cls ≠ "java/lang/invoke/MethodHandle" ∧ yX5_seed.cls ≠ "java/lang/invoke/VarHandle" ∧ (parseMethodDescriptor yX5_seed.desc).map (fun d => d.parameters.length) = some 1 := by decide +kernel
theorem ykVX5_seed : yX5_seed.cls = RX5 ∧ yX5_seed.cls ≠ "java/lang/invoke/MethodHandle" ∧ yX5_seed.cls ≠ "java/lang/invoke/VarHandle" ∧ (parseMethodDescriptor yX5_seed.desc).map (fun d => d.parameters.length) = some 1 := ⟨rfl, ykSX5_seed⟩
set_option maxHeartbeats 4000000 in
set_option maxRecDepth 100000 in
theorem kX5_seed {l : Launch} {D : va_G} {cI cB : ClassId} (r : Nat → Nat) (T K : Tb) (ik : Int) (SB SS SN : Nat → Int) (tn : Int) (TB F : Nat → Int) (X Y : Tb) (j : Nat → Int) (v : Int) (B : Int) (hG : GI B T K ik SB SS SN tn TB F) (hB : B ≤ 40000) (h_v : rI v) : Ct l yX5_seed wsX5_seed 1 23 D [(cI, .int), (cB, .byte)] [.ref (r 0), .int (iI v)] (wM cI r (T, K, ik, SB, SS, SN, tn, TB, F) X Y j) (S := (Int × Gs) × Tb × Tb × (Nat → Int)) (fun u => some (.int (iI u.1.1))) (fun u => u.1 = m_seed v T K ik SB SS SN tn TB F) (fun u => wM cI r u.1.2 u.2.1 u.2.2.1 u.2.2.2) := by
  refine CtI.of (cc := cX5_seed) (maxL := 2) (by decide +kernel) rfl (Nat.le_of_ble_eq_true rfl) ?_
  intro pg e s m args below meth c Q A hx hb hml hts hown hP hK hD hS ls hl kend
  have hown : s.vm.findClass RX5 = some m.cls := hown
  have hl : lv_has ls 2 [(0, .ref (r 0)), (1, .int (iI v))] := hl
  obtain ⟨hI, hIK, hik, hSB, hSS, hSN, htn, hTB, hF⟩ := id hG
  have hn := Inv_n hI
  have hdy := Inv_d hI
  have hP : va_P D vwCl (wRo r ik tn j ++ (wA cI (r 1) 100 T ++ (wA cI (r 2) 100 K ++ (wA cI (r 3) 100 X ++ (wA cI (r 4) 100 Y ++ (wA cI (r 5) 8 (fR F) ++ (wA cI (r 6) 120 TB ++ (wA cI (r 7) 4 (bR SB) ++ (wA cI (r 8) 4 SS ++ (wA cI (r 9) 160 SN)))))))))) s.heap := hP
  have hD : va_D A (wRo r ik tn j ++ (wA cI (r 1) 100 T ++ (wA cI (r 2) 100 K ++ (wA cI (r 3) 100 X ++ (wA cI (r 4) 100 Y ++ (wA cI (r 5) 8 (fR F) ++ (wA cI (r 6) 120 TB ++ (wA cI (r 7) 4 (bR SB) ++ (wA cI (r 8) 4 SS ++ (wA cI (r 9) 160 SN)))))))))) := hD
  refine lv_aload_n hx hb dX5_seed_0 rfl (lv_at hl 0 rfl) ?_
  refine x_iconst hx hb dX5_seed_1 ?_
  refine lv_iload_n hx hb dX5_seed_2 rfl (lv_at hl 1 rfl) ?_
  refine x_callV (As := [.int (iI 2), .int (iI v)]) (rest := []) ⟨hx, hb, hml, hown, hts⟩ (kX5_becomes r ik tn j T 2 v (by omega)) (cwV 2 hts gX5_seed_X5_becomes rfl rfl rfl ykVX5_becomes ⟨Nat.le_of_ble_eq_true rfl, Nat.le_of_ble_eq_true rfl⟩) hP hK hD hS 0 4 rfl rfl rfl [0, 1] rfl (by decide) (fun _ => rfl) (fun _ => wRo r ik tn j ++ (wA cI (r 1) 100 (va_up T 2 v) ++ (wA cI (r 2) 100 K ++ (wA cI (r 3) 100 X ++ (wA cI (r 4) 100 Y ++ (wA cI (r 5) 8 (fR F) ++ (wA cI (r 6) 120 TB ++ (wA cI (r 7) 4 (bR SB) ++ (wA cI (r 8) 4 SS ++ (wA cI (r 9) 160 SN)))))))))) (fun _ => rfl) rfl hl.1 rfl (Nat.le_of_ble_eq_true rfl) dX5_seed_3 ⟨Nat.le_of_ble_eq_true rfl, Nat.le_of_ble_eq_true rfl⟩ (fun _ H locs _ hP hD hS => ?_)
  refine W.eq (g2 := F0 m 6 ls [.int (iI (T 2))]) rfl ?_
  exact kend ((T 2, (va_up T 2 v), K, ik, SB, SS, SN, tn, TB, F), X, Y, j) hP hS rfl rfl dX5_seed_6
theorem ykSX5_wipe : yX5_wipe.cls ≠ "java/lang/invoke/MethodHandle" ∧ yX5_wipe.cls ≠ "java/lang/invoke/VarHandle" ∧ (parseMethodDescriptor yX5_wipe.desc).map (fun d => d.parameters.length) = some 0 := by decide +kernel
theorem ykVX5_wipe : yX5_wipe.cls = RX5 ∧ yX5_wipe.cls ≠ "java/lang/invoke/MethodHandle" ∧ yX5_wipe.cls ≠ "java/lang/invoke/VarHandle" ∧ (parseMethodDescriptor yX5_wipe.desc).map (fun d => d.parameters.length) = some 0 := ⟨rfl, ykSX5_wipe⟩
set_option maxRecDepth 20000 in
theorem iT_X5_wipe_X5 : ∀ w ∈ u_ws RX5 TX5 18, w ∈ wsX5_wipe := by decide +kernel
set_option maxHeartbeats 4000000 in
set_option maxRecDepth 100000 in
theorem kX5_wipe {l : Launch} {D : va_G} {cI cB : ClassId} (r : Nat → Nat) (T K : Tb) (ik : Int) (SB SS SN : Nat → Int) (tn : Int) (TB F : Nat → Int) (X Y : Tb) (j : Nat → Int) (B : Int) (hG : GI B T K ik SB SS SN tn TB F) (hB : B ≤ 40000)  : Ct l yX5_wipe wsX5_wipe 0 0 D [(cI, .int), (cB, .byte)] [.ref (r 0)] (wM cI r (T, K, ik, SB, SS, SN, tn, TB, F) X Y j) (S := (Int × Gs) × Tb × Tb × (Nat → Int)) (fun u => some (.int (iI u.1.1))) (fun u => u.1 = m_wipe T K ik SB SS SN tn TB F) (fun u => wM cI r u.1.2 u.2.1 u.2.2.1 u.2.2.2) := by
  refine CtI.of (cc := cX5_wipe) (maxL := 2) (by decide +kernel) rfl (Nat.le_of_ble_eq_true rfl) ?_
  intro pg e s m args below meth c Q A hx hb hml hts hown hP hK hD hS ls hl kend
  have hown : s.vm.findClass RX5 = some m.cls := hown
  have hl : lv_has ls 2 [(0, .ref (r 0))] := hl
  obtain ⟨hI, hIK, hik, hSB, hSS, hSN, htn, hTB, hF⟩ := id hG
  have hn := Inv_n hI
  have hdy := Inv_d hI
  have hP : va_P D vwCl (wRo r ik tn j ++ (wA cI (r 1) 100 T ++ (wA cI (r 2) 100 K ++ (wA cI (r 3) 100 X ++ (wA cI (r 4) 100 Y ++ (wA cI (r 5) 8 (fR F) ++ (wA cI (r 6) 120 TB ++ (wA cI (r 7) 4 (bR SB) ++ (wA cI (r 8) 4 SS ++ (wA cI (r 9) 160 SN)))))))))) s.heap := hP
  have hD : va_D A (wRo r ik tn j ++ (wA cI (r 1) 100 T ++ (wA cI (r 2) 100 K ++ (wA cI (r 3) 100 X ++ (wA cI (r 4) 100 Y ++ (wA cI (r 5) 8 (fR F) ++ (wA cI (r 6) 120 TB ++ (wA cI (r 7) 4 (bR SB) ++ (wA cI (r 8) 4 SS ++ (wA cI (r 9) 160 SN)))))))))) := hD
  refine lv_aload_n hx hb dX5_wipe_0 rfl (lv_at hl 0 rfl) ?_
  refine va_get (D := D) (ci := 4) (v := .int (iI tn)) (C := RX5) (T := TX5) (N := 18) hx hb hts (iT_X5_wipe_X5) hown hK hP 0 rfl rfl 7 (by decide) (hts (.fieldLink RX5 199 "WordSupperModel" "taped" "I") (by decide +kernel)) (fun _ h9 => h9) rfl dX5_wipe_1 ?_
  refine lv_istore_n (lv' := [(1, .int (iI tn)), (0, .ref (r 0))]) hx hb dX5_wipe_4 rfl hl (by decide) rfl (fun ls hl => ?_)
  refine lv_aload_n hx hb dX5_wipe_5 rfl (lv_at hl 1 rfl) ?_
  refine x_iconst hx hb dX5_wipe_6 ?_
  refine x_putI (D := D) (ty := .int) (C := RX5) (T := TX5) (N := 18) hx hb 4 hts (iT_X5_wipe_X5) tyX5 tyX5_ok nmX5 hown hK hP hD hS 0 rfl rfl 7 (by decide) (hts (.fieldLink RX5 199 "WordSupperModel" "taped" "I") (by decide +kernel)) (fun _ h9 => h9) rfl (by decide +kernel) rfl rfl (Nat.le_of_ble_eq_true rfl) (wRo r ik 0 j ++ (wA cI (r 1) 100 T ++ (wA cI (r 2) 100 K ++ (wA cI (r 3) 100 X ++ (wA cI (r 4) 100 Y ++ (wA cI (r 5) 8 (fR F) ++ (wA cI (r 6) 120 TB ++ (wA cI (r 7) 4 (bR SB) ++ (wA cI (r 8) 4 SS ++ (wA cI (r 9) 160 SN)))))))))) (by rw [← wRo_tn r ik tn j 0]; rfl) dX5_wipe_7 (fun H locs hP hD hS => ?_)
  refine lv_iload_n hx hb dX5_wipe_10 rfl (lv_at hl 0 rfl) ?_
  exact kend ((tn, T, K, ik, SB, SS, SN, 0, TB, F), X, Y, j) hP hS rfl rfl dX5_wipe_11
theorem ykSX5_feed : yX5_feed.cls ≠ "java/lang/invoke/MethodHandle" ∧ yX5_feed.cls ≠ "java/lang/invoke/VarHandle" ∧ (parseMethodDescriptor yX5_feed.desc).map (fun d => d.parameters.length) = some 2 := by decide +kernel
theorem ykVX5_feed : yX5_feed.cls = RX5 ∧ yX5_feed.cls ≠ "java/lang/invoke/MethodHandle" ∧ yX5_feed.cls ≠ "java/lang/invoke/VarHandle" ∧ (parseMethodDescriptor yX5_feed.desc).map (fun d => d.parameters.length) = some 2 := ⟨rfl, ykSX5_feed⟩
set_option maxRecDepth 20000 in
theorem iT_X5_feed_X5 : ∀ w ∈ u_ws RX5 TX5 18, w ∈ wsX5_feed := by decide +kernel
set_option maxHeartbeats 4000000 in
set_option maxRecDepth 100000 in
theorem kX5_feed {l : Launch} {D : va_G} {cI cB : ClassId} (r : Nat → Nat) (T K : Tb) (ik : Int) (SB SS SN : Nat → Int) (tn : Int) (TB F : Nat → Int) (X Y : Tb) (j : Nat → Int) (bs n : Int) (B : Int) (hG : GI B T K ik SB SS SN tn TB F) (hB : B ≤ 40000) (h_bs : rI bs) (h_n : rI n) : Ct l yX5_feed wsX5_feed 1 25 D [(cI, .int), (cB, .byte)] [.ref (r 0), .int (iI bs), .int (iI n)] (wM cI r (T, K, ik, SB, SS, SN, tn, TB, F) X Y j) (S := (Int × Gs) × Tb × Tb × (Nat → Int)) (fun u => some (.int (iI u.1.1))) (fun u => u.1 = m_feed bs n T K ik SB SS SN tn TB F) (fun u => wM cI r u.1.2 u.2.1 u.2.2.1 u.2.2.2) := by
  refine CtI.of (cc := cX5_feed) (maxL := 4) (by decide +kernel) rfl (Nat.le_of_ble_eq_true rfl) ?_
  intro pg e s m args below meth c Q A hx hb hml hts hown hP hK hD hS ls hl kend
  have hown : s.vm.findClass RX5 = some m.cls := hown
  have hl : lv_has ls 4 [(0, .ref (r 0)), (1, .int (iI bs)), (2, .int (iI n))] := hl
  obtain ⟨hI, hIK, hik, hSB, hSS, hSN, htn, hTB, hF⟩ := id hG
  have hn := Inv_n hI
  have hdy := Inv_d hI
  have hP : va_P D vwCl (wRo r ik tn j ++ (wA cI (r 1) 100 T ++ (wA cI (r 2) 100 K ++ (wA cI (r 3) 100 X ++ (wA cI (r 4) 100 Y ++ (wA cI (r 5) 8 (fR F) ++ (wA cI (r 6) 120 TB ++ (wA cI (r 7) 4 (bR SB) ++ (wA cI (r 8) 4 SS ++ (wA cI (r 9) 160 SN)))))))))) s.heap := hP
  have hD : va_D A (wRo r ik tn j ++ (wA cI (r 1) 100 T ++ (wA cI (r 2) 100 K ++ (wA cI (r 3) 100 X ++ (wA cI (r 4) 100 Y ++ (wA cI (r 5) 8 (fR F) ++ (wA cI (r 6) 120 TB ++ (wA cI (r 7) 4 (bR SB) ++ (wA cI (r 8) 4 SS ++ (wA cI (r 9) 160 SN)))))))))) := hD
  refine lv_iload_n hx hb dX5_feed_0 rfl (lv_at hl 2 rfl) ?_
  refine x_i2l hx hb (by omega) dX5_feed_1 ?_
  refine x_lconst hx hb 1 rfl dX5_feed_2 ?_
  refine x_ldc2 hx hb 4 rfl hown (hts (.constantLong RX5 197 (4)) (by decide +kernel)) dX5_feed_3 ?_
  refine x_callS (As := [.long (lI n), .long (lI 1), .long (lI 4)]) (rest := []) ⟨hx, hb, hml, hown, hts⟩ (kX5_isIn n 1 4 (by omega) (by omega) (by omega)) (va_cwS 3 hts gX5_feed_X5_isIn rfl rfl rfl ykSX5_isIn ⟨Nat.le_of_ble_eq_true rfl, Nat.le_of_ble_eq_true rfl⟩) hP hK hD hS [] rfl (by decide) (fun _ => rfl) (fun _ => wRo r ik tn j ++ (wA cI (r 1) 100 T ++ (wA cI (r 2) 100 K ++ (wA cI (r 3) 100 X ++ (wA cI (r 4) 100 Y ++ (wA cI (r 5) 8 (fR F) ++ (wA cI (r 6) 120 TB ++ (wA cI (r 7) 4 (bR SB) ++ (wA cI (r 8) 4 SS ++ (wA cI (r 9) 160 SN)))))))))) (fun _ => rfl) rfl hl.1 rfl (Nat.le_of_ble_eq_true rfl) dX5_feed_6 ⟨Nat.le_of_ble_eq_true rfl, Nat.le_of_ble_eq_true rfl⟩ (fun _ H locs _ hP hD hS => ?_)
  refine W.eq (g2 := F0 m 9 ls [.int (iI (b2 (decide (1 ≤ n ∧ n ≤ 4))))]) rfl ?_
  refine x_ifb_ne (tgt := 19) hx hb dX5_feed_9 (by decide) (fun c_9 => ?_) (fun c_9 => ?_)
  · obtain ⟨n0, rfl⟩ : ∃ n0 : Nat, n = (n0 : Int) := ⟨n.toNat, by omega⟩
    obtain ⟨m0, rfl⟩ : ∃ m0 : Nat, tn = (m0 : Int) := ⟨tn.toNat, by omega⟩
    refine lv_aload_n hx hb dX5_feed_19 rfl (lv_at hl 0 rfl) ?_
    refine va_get (D := D) (ci := 4) (v := .int (iI ((m0 : Nat) : Int))) (C := RX5) (T := TX5) (N := 18) hx hb hts (iT_X5_feed_X5) hown hK hP 0 rfl rfl 7 (by decide) (hts (.fieldLink RX5 199 "WordSupperModel" "taped" "I") (by decide +kernel)) (fun _ h9 => h9) rfl dX5_feed_20 ?_
    refine lv_iload_n hx hb dX5_feed_23 rfl (lv_at hl 2 rfl) ?_
    refine x_iadd hx hb dX5_feed_24 ?_
    refine x_bipush hx hb dX5_feed_25 (by decide) ?_
    refine x_icmp_le (tgt := 37) hx hb (by omega) (by decide) dX5_feed_27 (by decide) (fun c_27 => ?_) (fun c_27 => ?_)
    · refine lv_iload_n hx hb dX5_feed_37 rfl (lv_at hl 2 rfl) ?_
      refine x_iconst hx hb dX5_feed_38 ?_
      refine x_isub hx hb dX5_feed_39 ?_
      refine lv_istore_n (lv' := [(3, .int (iI (((n0 : Nat) : Int) - 1))), (0, .ref (r 0)), (1, .int (iI bs)), (2, .int (iI ((n0 : Nat) : Int)))]) hx hb dX5_feed_40 rfl hl (by decide) rfl (fun ls hl => ?_)
      have L41 : ∀ (k t : Nat) (c0 : Nat) (TBv : Nat → Int) (H : Heap) (locs : List Loc) (ls : Array Slot), t + k = n0 → (fdT bs k c0 TBv = fdT bs n0 m0 TB) → (c0 + k = m0 + n0) → (m0 + n0 ≤ 120) → va_P D vwCl (wRo r ik ((c0 : Nat) : Int) j ++ (wA cI (r 1) 100 T ++ (wA cI (r 2) 100 K ++ (wA cI (r 3) 100 X ++ (wA cI (r 4) 100 Y ++ (wA cI (r 5) 8 (fR F) ++ (wA cI (r 6) 120 TBv ++ (wA cI (r 7) 4 (bR SB) ++ (wA cI (r 8) 4 SS ++ (wA cI (r 9) 160 SN)))))))))) H → va_D A (wRo r ik ((c0 : Nat) : Int) j ++ (wA cI (r 1) 100 T ++ (wA cI (r 2) 100 K ++ (wA cI (r 3) 100 X ++ (wA cI (r 4) 100 Y ++ (wA cI (r 5) 8 (fR F) ++ (wA cI (r 6) 120 TBv ++ (wA cI (r 7) 4 (bR SB) ++ (wA cI (r 8) 4 SS ++ (wA cI (r 9) 160 SN)))))))))) → va_S A s.heap H locs → lv_has ls 4 [(0, .ref (r 0)), (1, .int (iI bs)), (2, .int (iI ((n0 : Nat) : Int))), (3, .int (iI (((k : Nat) : Int) - 1)))] → W pg l e { frames := 1, cells := 0, slots := 0, locals := 25 } s m args below meth c H locs 0 0 Q (F0 m 41 ls []) := by
        intro k
        induction k with
        | zero =>
          intro t c0 TBv H locs ls hkt hr hc hc2 hP hD hS hl
          refine lv_iload_n hx hb dX5_feed_41 rfl (lv_at hl 3 rfl) ?_
          refine x_if_lt (tgt := 80) hx hb (by omega) dX5_feed_42 (by decide) (fun c_42 => ?_) (fun c_42 => ?_)
          · refine lv_aload_n hx hb dX5_feed_80 rfl (lv_at hl 0 rfl) ?_
            refine va_get (D := D) (ci := 4) (v := .int (iI ((c0 : Nat) : Int))) (C := RX5) (T := TX5) (N := 18) hx hb hts (iT_X5_feed_X5) hown hK hP 0 rfl rfl 7 (by decide) (hts (.fieldLink RX5 199 "WordSupperModel" "taped" "I") (by decide +kernel)) (fun _ h9 => h9) rfl dX5_feed_81 ?_
            exact kend ((((c0 : Nat) : Int), T, K, ik, SB, SS, SN, ((c0 : Nat) : Int), TBv, F), X, Y, j) hP hS rfl (by unfold m_feed; rw [if_neg (by omega), if_neg (by omega)]; simp only [Int.toNat_natCast]; rw [← hr, show ((m0 : Nat) : Int) + ((n0 : Nat) : Int) = ((c0 : Nat) : Int) by omega] <;> rfl) dX5_feed_84
          · exfalso; omega
        | succ k ih =>
          intro t c0 TBv H locs ls hkt hr hc hc2 hP hD hS hl
          refine lv_iload_n hx hb dX5_feed_41 rfl (lv_at hl 3 rfl) ?_
          refine x_if_lt (tgt := 80) hx hb (by omega) dX5_feed_42 (by decide) (fun c_42 => ?_) (fun c_42 => ?_)
          · exfalso; omega
          · refine lv_aload_n hx hb dX5_feed_45 rfl (lv_at hl 0 rfl) ?_
            refine va_get (D := D) (ci := 4) (v := .ref (r 6)) (C := RX5) (T := TX5) (N := 18) hx hb hts (iT_X5_feed_X5) hown hK hP 0 rfl rfl 6 (by decide) (hts (.fieldLink RX5 25 "WordSupperModel" "tape" "[I") (by decide +kernel)) (fun _ h9 => h9) rfl dX5_feed_46 ?_
            refine lv_aload_n hx hb dX5_feed_49 rfl (lv_at hl 0 rfl) ?_
            refine va_get (D := D) (ci := 4) (v := .int (iI ((c0 : Nat) : Int))) (C := RX5) (T := TX5) (N := 18) hx hb hts (iT_X5_feed_X5) hown hK hP 0 rfl rfl 7 (by decide) (hts (.fieldLink RX5 199 "WordSupperModel" "taped" "I") (by decide +kernel)) (fun _ h9 => h9) rfl dX5_feed_50 ?_
            refine lv_iload_n hx hb dX5_feed_53 rfl (lv_at hl 1 rfl) ?_
            refine x_bipush hx hb dX5_feed_54 (by decide) ?_
            refine lv_iload_n hx hb dX5_feed_56 rfl (lv_at hl 3 rfl) ?_
            refine x_topi ((k : Nat) : Int) (by omega) ?_
            refine x_imul hx hb dX5_feed_57 ?_
            refine x_ishr hx hb dX5_feed_58 ?_
            refine x_sipush hx hb dX5_feed_59 (by decide) ?_
            refine x_iand hx hb dX5_feed_62 ?_
            refine x_iast hx hb hK hP hD hS 6 0 rfl rfl c0 rfl (by omega) (by decide) (wRo r ik ((c0 : Nat) : Int) j ++ (wA cI (r 1) 100 T ++ (wA cI (r 2) 100 K ++ (wA cI (r 3) 100 X ++ (wA cI (r 4) 100 Y ++ (wA cI (r 5) 8 (fR F) ++ (wA cI (r 6) 120 (va_up TBv c0 (andI (shrI bs (8 * ((k : Nat) : Int))) 255)) ++ (wA cI (r 7) 4 (bR SB) ++ (wA cI (r 8) 4 SS ++ (wA cI (r 9) 160 SN)))))))))) (by rw [← wA_up cI (r 6) 120 TBv (andI (shrI bs (8 * ((k : Nat) : Int))) 255) c0 (by omega)]; rfl) dX5_feed_63 (fun H locs hP hD hS => ?_)
            refine lv_aload_n hx hb dX5_feed_64 rfl (lv_at hl 0 rfl) ?_
            refine lv_dup hx hb dX5_feed_65 rfl ?_
            refine va_get (D := D) (ci := 4) (v := .int (iI ((c0 : Nat) : Int))) (C := RX5) (T := TX5) (N := 18) hx hb hts (iT_X5_feed_X5) hown hK hP 0 rfl rfl 7 (by decide) (hts (.fieldLink RX5 199 "WordSupperModel" "taped" "I") (by decide +kernel)) (fun _ h9 => h9) rfl dX5_feed_66 ?_
            refine x_iconst hx hb dX5_feed_69 ?_
            refine x_iadd hx hb dX5_feed_70 ?_
            refine x_putI (D := D) (ty := .int) (C := RX5) (T := TX5) (N := 18) hx hb 4 hts (iT_X5_feed_X5) tyX5 tyX5_ok nmX5 hown hK hP hD hS 0 rfl rfl 7 (by decide) (hts (.fieldLink RX5 199 "WordSupperModel" "taped" "I") (by decide +kernel)) (fun _ h9 => h9) rfl (by decide +kernel) rfl rfl (Nat.le_of_ble_eq_true rfl) (wRo r ik (((c0 : Nat) : Int) + 1) j ++ (wA cI (r 1) 100 T ++ (wA cI (r 2) 100 K ++ (wA cI (r 3) 100 X ++ (wA cI (r 4) 100 Y ++ (wA cI (r 5) 8 (fR F) ++ (wA cI (r 6) 120 (va_up TBv c0 (andI (shrI bs (8 * ((k : Nat) : Int))) 255)) ++ (wA cI (r 7) 4 (bR SB) ++ (wA cI (r 8) 4 SS ++ (wA cI (r 9) 160 SN)))))))))) (by rw [← wRo_tn r ik ((c0 : Nat) : Int) j (((c0 : Nat) : Int) + 1)]; rfl) dX5_feed_71 (fun H locs hP hD hS => ?_)
            refine x_iinc hx hb 3 (((k : Nat) : Int) - 1) (by omega) [(3, .int (iI (((k : Nat) : Int) - 1))), (0, .ref (r 0)), (1, .int (iI bs)), (2, .int (iI ((n0 : Nat) : Int)))] dX5_feed_74 hl rfl (by decide) rfl (fun ls hl => ?_)
            refine lv_goto (tgt := 41) hx hb dX5_feed_77 (by decide) ?_
            exact ih (t + 1) (c0 + 1) (va_up TBv c0 (andI (shrI bs (8 * ((k : Nat) : Int))) 255)) _ _ _ (by omega) hr (by omega) hc2 hP hD hS (lv_sub hl [1, 2, 3, 0] rfl)
      exact L41 n0 0 m0 TB _ _ _ (by omega) rfl rfl (by omega) hP hD hS (lv_sub hl [1, 2, 3, 0] rfl)
    · refine lv_aload_n hx hb dX5_feed_30 rfl (lv_at hl 0 rfl) ?_
      refine x_ldc hx hb (-1000002) rfl hown (hts (.constant RX5 64 (-1000002)) (by decide +kernel)) dX5_feed_31 ?_
      refine x_callV (As := [.int (iI (-1000002))]) (rest := []) ⟨hx, hb, hml, hown, hts⟩ (kX5_finds r ik ((m0 : Nat) : Int) j F (-1000002) 1 (by omega) (by omega)) (cwV 1 hts gX5_feed_X5_finds rfl rfl rfl ykVX5_finds ⟨Nat.le_of_ble_eq_true rfl, Nat.le_of_ble_eq_true rfl⟩) hP hK hD hS 0 4 rfl rfl rfl [0, 5] rfl (by decide) (fun _ => rfl) (fun _ => wRo r ik ((m0 : Nat) : Int) j ++ (wA cI (r 1) 100 T ++ (wA cI (r 2) 100 K ++ (wA cI (r 3) 100 X ++ (wA cI (r 4) 100 Y ++ (wA cI (r 5) 8 (fR (bmp 1 F)) ++ (wA cI (r 6) 120 TB ++ (wA cI (r 7) 4 (bR SB) ++ (wA cI (r 8) 4 SS ++ (wA cI (r 9) 160 SN)))))))))) (fun _ => rfl) rfl hl.1 rfl (Nat.le_of_ble_eq_true rfl) dX5_feed_33 ⟨Nat.le_of_ble_eq_true rfl, Nat.le_of_ble_eq_true rfl⟩ (fun _ H locs _ hP hD hS => ?_)
      refine W.eq (g2 := F0 m 36 ls [.int (iI (-1000002))]) rfl ?_
      exact kend (((-1000002), T, K, ik, SB, SS, SN, ((m0 : Nat) : Int), TB, (bmp 1 F)), X, Y, j) hP hS rfl (((if_neg (by omega)).trans (if_pos (by omega)))).symm dX5_feed_36
  · refine lv_aload_n hx hb dX5_feed_12 rfl (lv_at hl 0 rfl) ?_
    refine x_ldc hx hb (-1000001) rfl hown (hts (.constant RX5 37 (-1000001)) (by decide +kernel)) dX5_feed_13 ?_
    refine x_callV (As := [.int (iI (-1000001))]) (rest := []) ⟨hx, hb, hml, hown, hts⟩ (kX5_finds r ik tn j F (-1000001) 0 (by omega) (by omega)) (cwV 1 hts gX5_feed_X5_finds rfl rfl rfl ykVX5_finds ⟨Nat.le_of_ble_eq_true rfl, Nat.le_of_ble_eq_true rfl⟩) hP hK hD hS 0 4 rfl rfl rfl [0, 5] rfl (by decide) (fun _ => rfl) (fun _ => wRo r ik tn j ++ (wA cI (r 1) 100 T ++ (wA cI (r 2) 100 K ++ (wA cI (r 3) 100 X ++ (wA cI (r 4) 100 Y ++ (wA cI (r 5) 8 (fR (bmp 0 F)) ++ (wA cI (r 6) 120 TB ++ (wA cI (r 7) 4 (bR SB) ++ (wA cI (r 8) 4 SS ++ (wA cI (r 9) 160 SN)))))))))) (fun _ => rfl) rfl hl.1 rfl (Nat.le_of_ble_eq_true rfl) dX5_feed_15 ⟨Nat.le_of_ble_eq_true rfl, Nat.le_of_ble_eq_true rfl⟩ (fun _ H locs _ hP hD hS => ?_)
    refine W.eq (g2 := F0 m 18 ls [.int (iI (-1000001))]) rfl ?_
    exact kend (((-1000001), T, K, ik, SB, SS, SN, tn, TB, (bmp 0 F)), X, Y, j) hP hS rfl ((if_pos (by omega))).symm dX5_feed_18
