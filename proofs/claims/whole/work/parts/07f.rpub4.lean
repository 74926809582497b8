theorem ykSX5_seed : yX5_seed.cls ≠ "java/lang/invoke/MethodHandle" ∧ yX5_seed.cls ≠ "java/lang/invoke/VarHandle" ∧ (parseMethodDescriptor yX5_seed.desc).map (fun d => d.parameters.length) = some 1 := by decide +kernel
theorem ykVX5_seed : yX5_seed.cls = RX5 ∧ yX5_seed.cls ≠ "java/lang/invoke/MethodHandle" ∧ yX5_seed.cls ≠ "java/lang/invoke/VarHandle" ∧ (parseMethodDescriptor yX5_seed.desc).map (fun d => d.parameters.length) = some 1 := ⟨rfl, ykSX5_seed⟩
set_option maxHeartbeats 4000000 in
set_option maxRecDepth 100000 in
theorem kX5_seed {l : Launch} {D : va_G} {cI cB : ClassId} (r : Nat → Nat) (T K : Tb) (ik : Int) (SB SS SN : Nat → Int) (tn : Int) (TB F : Nat → Int) (X Y : Tb) (j : Nat → Int) (v : Int) (B : Int) (hG : GI B T K ik SB SS SN tn TB F) (hB : B ≤ 40000) (h_v : rI v) : Ct l yX5_seed wsX5_seed 1 23 D [(cI, .int), (cB, .byte)] [.ref (r 0), .int (iI v)] (wM cI r (T, K, ik, SB, SS, SN, tn, TB, F) X Y j) (S := (Int × Gs) × Tb × Tb × (Nat → Int)) (fun u => some (.int (iI u.1.1))) (fun u => u.1 = m_seed v T K ik SB SS SN tn TB F) (fun u => wM cI r u.1.2 u.2.1 u.2.2.1 u.2.2.2) := by
  refine CtI.of (cc := cX5_seed) (maxL := 2) (by decide +kernel) rfl (Nat.le_of_ble_eq_true rfl) ?_
  intro pg e s m args below meth c Q A hx hb hml hts hown hP hK hD hS ls hl kend
  have hown : s.vm.findClass RX5 = some m.cls := hown
  have hl : lv_has ls 2 [(0, .ref (r 0)), (1, .int (iI v))] := hl
  obtain ⟨hI, hIK, hik, hSB, hSS, hSN, htn, hTB, hF⟩ := id hG
  have hn := Inv_n hI
  have hdy := Inv_d hI
  have hP : va_P D vwCl (wRo r ik tn j ++ (wA cI (r 1) 100 T ++ (wA cI (r 2) 100 K ++ (wA cI (r 3) 100 X ++ (wA cI (r 4) 100 Y ++ (wA cI (r 5) 8 (fR F) ++ (wA cI (r 6) 120 TB ++ (wA cI (r 7) 4 (bR SB) ++ (wA cI (r 8) 4 SS ++ (wA cI (r 9) 160 SN)))))))))) s.heap := hP
  have hD : va_D A (wRo r ik tn j ++ (wA cI (r 1) 100 T ++ (wA cI (r 2) 100 K ++ (wA cI (r 3) 100 X ++ (wA cI (r 4) 100 Y ++ (wA cI (r 5) 8 (fR F) ++ (wA cI (r 6) 120 TB ++ (wA cI (r 7) 4 (bR SB) ++ (wA cI (r 8) 4 SS ++ (wA cI (r 9) 160 SN)))))))))) := hD
  refine lv_aload_n hx hb dX5_seed_0 rfl (lv_at hl 0 rfl) ?_
  refine x_iconst hx hb dX5_seed_1 ?_
  refine lv_iload_n hx hb dX5_seed_2 rfl (lv_at hl 1 rfl) ?_
  refine x_callV (As := [.int (iI 2), .int (iI v)]) (rest := []) ⟨hx, hb, hml, hown, hts⟩ (kX5_becomes r ik tn j T 2 v (by omega)) (cwV 2 hts gX5_seed_X5_becomes rfl rfl rfl ykVX5_becomes ⟨Nat.le_of_ble_eq_true rfl, Nat.le_of_ble_eq_true rfl⟩) hP hK hD hS 0 4 rfl rfl rfl [0, 1] rfl (by decide) (fun _ => rfl) (fun _ => wRo r ik tn j ++ (wA cI (r 1) 100 (va_up T 2 v) ++ (wA cI (r 2) 100 K ++ (wA cI (r 3) 100 X ++ (wA cI (r 4) 100 Y ++ (wA cI (r 5) 8 (fR F) ++ (wA cI (r 6) 120 TB ++ (wA cI (r 7) 4 (bR SB) ++ (wA cI (r 8) 4 SS ++ (wA cI (r 9) 160 SN)))))))))) (fun _ => rfl) rfl hl.1 rfl (Nat.le_of_ble_eq_true rfl) dX5_seed_3 ⟨Nat.le_of_ble_eq_true rfl, Nat.le_of_ble_eq_true rfl⟩ (fun _ H locs _ hP hD hS => ?_)
  refine W.eq (g2 := F0 m 6 ls [.int (iI (T 2))]) rfl ?_
  exact kend ((T 2, (va_up T 2 v), K, ik, SB, SS, SN, tn, TB, F), X, Y, j) hP hS rfl rfl dX5_seed_6
theorem ykSX5_wipe : yX5_wipe.cls ≠ "java/lang/invoke/MethodHandle" ∧ yX5_wipe.cls ≠ "java/lang/invoke/VarHandle" ∧ (parseMethodDescriptor yX5_wipe.desc).map (fun d => d.parameters.length) = some 0 := by decide +kernel
theorem ykVX5_wipe : yX5_wipe.cls = RX5 ∧ yX5_wipe.cls ≠ "java/lang/invoke/MethodHandle" ∧ yX5_wipe.cls ≠ "java/lang/invoke/VarHandle" ∧ (parseMethodDescriptor yX5_wipe.desc).map (fun d => d.parameters.length) = some 0 := ⟨rfl, ykSX5_wipe⟩
set_option maxRecDepth 20000 in
theorem iT_X5_wipe_X5 : ∀ w ∈ u_ws RX5 TX5 18, w ∈ wsX5_wipe := by decide +kernel
set_option maxHeartbeats 4000000 in
set_option maxRecDepth 100000 in
theorem kX5_wipe {l : Launch} {D : va_G} {cI cB : ClassId} (r : Nat → Nat) (T K : Tb) (ik : Int) (SB SS SN : Nat → Int) (tn : Int) (TB F : Nat → Int) (X Y : Tb) (j : Nat → Int) (B : Int) (hG : GI B T K ik SB SS SN tn TB F) (hB : B ≤ 40000)  : Ct l yX5_wipe wsX5_wipe 0 0 D [(cI, .int), (cB, .byte)] [.ref (r 0)] (wM cI r (T, K, ik, SB, SS, SN, tn, TB, F) X Y j) (S := (Int × Gs) × Tb × Tb × (Nat → Int)) (fun u => some (.int (iI u.1.1))) (fun u => u.1 = m_wipe T K ik SB SS SN tn TB F) (fun u => wM cI r u.1.2 u.2.1 u.2.2.1 u.2.2.2) := by
  refine CtI.of (cc := cX5_wipe) (maxL := 2) (by decide +kernel) rfl (Nat.le_of_ble_eq_true rfl) ?_
  intro pg e s m args below meth c Q A hx hb hml hts hown hP hK hD hS ls hl kend
  have hown : s.vm.findClass RX5 = some m.cls := hown
  have hl : lv_has ls 2 [(0, .ref (r 0))] := hl
  obtain ⟨hI, hIK, hik, hSB, hSS, hSN, htn, hTB, hF⟩ := id hG
  have hn := Inv_n hI
  have hdy := Inv_d hI
  have hP : va_P D vwCl (wRo r ik tn j ++ (wA cI (r 1) 100 T ++ (wA cI (r 2) 100 K ++ (wA cI (r 3) 100 X ++ (wA cI (r 4) 100 Y ++ (wA cI (r 5) 8 (fR F) ++ (wA cI (r 6) 120 TB ++ (wA cI (r 7) 4 (bR SB) ++ (wA cI (r 8) 4 SS ++ (wA cI (r 9) 160 SN)))))))))) s.heap := hP
  have hD : va_D A (wRo r ik tn j ++ (wA cI (r 1) 100 T ++ (wA cI (r 2) 100 K ++ (wA cI (r 3) 100 X ++ (wA cI (r 4) 100 Y ++ (wA cI (r 5) 8 (fR F) ++ (wA cI (r 6) 120 TB ++ (wA cI (r 7) 4 (bR SB) ++ (wA cI (r 8) 4 SS ++ (wA cI (r 9) 160 SN)))))))))) := hD
  refine lv_aload_n hx hb dX5_wipe_0 rfl (lv_at hl 0 rfl) ?_
  refine va_get (D := D) (ci := 4) (v := .int (iI tn)) (C := RX5) (T := TX5) (N := 18) hx hb hts (iT_X5_wipe_X5) hown hK hP 0 rfl rfl 7 (by decide) (hts (.fieldLink RX5 199 "WordSupperModel" "taped" "I") (by decide +kernel)) (fun _ h9 => h9) rfl dX5_wipe_1 ?_
  refine lv_istore_n (lv' := [(1, .int (iI tn)), (0, .ref (r 0))]) hx hb dX5_wipe_4 rfl hl (by decide) rfl (fun ls hl => ?_)
  refine lv_aload_n hx hb dX5_wipe_5 rfl (lv_at hl 1 rfl) ?_
  refine x_iconst hx hb dX5_wipe_6 ?_
  refine x_putI (D := D) (ty := .int) (C := RX5) (T := TX5) (N := 18) hx hb 4 hts (iT_X5_wipe_X5) tyX5 tyX5_ok nmX5 hown hK hP hD hS 0 rfl rfl 7 (by decide) (hts (.fieldLink RX5 199 "WordSupperModel" "taped" "I") (by decide +kernel)) (fun _ h9 => h9) rfl (by decide +kernel) rfl rfl (Nat.le_of_ble_eq_true rfl) (wRo r ik 0 j ++ (wA cI (r 1) 100 T ++ (wA cI (r 2) 100 K ++ (wA cI (r 3) 100 X ++ (wA cI (r 4) 100 Y ++ (wA cI (r 5) 8 (fR F) ++ (wA cI (r 6) 120 TB ++ (wA cI (r 7) 4 (bR SB) ++ (wA cI (r 8) 4 SS ++ (wA cI (r 9) 160 SN)))))))))) (by rw [← wRo_tn r ik tn j 0]; rfl) dX5_wipe_7 (fun H locs hP hD hS => ?_)
  refine lv_iload_n hx hb dX5_wipe_10 rfl (lv_at hl 0 rfl) ?_
  exact kend ((tn, T, K, ik, SB, SS, SN, 0, TB, F), X, Y, j) hP hS rfl rfl dX5_wipe_11
theorem ykSX5_feed : yX5_feed.cls ≠ "java/lang/invoke/MethodHandle" ∧ yX5_feed.cls ≠ "java/lang/invoke/VarHandle" ∧ (parseMethodDescriptor yX5_feed.desc).map (fun d => d.parameters.length) = some 2 := by decide +kernel
theorem ykVX5_feed : yX5_feed.cls = RX5 ∧ yX5_feed.cls ≠ "java/lang/invoke/MethodHandle" ∧ yX5_feed.cls ≠ "java/lang/invoke/VarHandle" ∧ (parseMethodDescriptor yX5_feed.desc).map (fun d => d.parameters.length) = some 2 := ⟨rfl, ykSX5_feed⟩
set_option maxRecDepth 20000 in
theorem iT_X5_feed_X5 : ∀ w ∈ u_ws RX5 TX5 18, w ∈ wsX5_feed := by decide +kernel
set_option maxHeartbeats 4000000 in
set_option maxRecDepth 100000 in
theorem kX5_feed {l : Launch} {D : va_G} {cI cB : ClassId} (r : Nat → Nat) (T K : Tb) (ik : Int) (SB SS SN : Nat → Int) (tn : Int) (TB F : Nat → Int) (X Y : Tb) (j : Nat → Int) (bs n : Int) (B : Int) (hG : GI B T K ik SB SS SN tn TB F) (hB : B ≤ 40000) (h_bs : rI bs) (h_n : rI n) : Ct l yX5_feed wsX5_feed 1 25 D [(cI, .int), (cB, .byte)] [.ref (r 0), .int (iI bs), .int (iI n)] (wM cI r (T, K, ik, SB, SS, SN, tn, TB, F) X Y j) (S := (Int × Gs) × Tb × Tb × (Nat → Int)) (fun u => some (.int (iI u.1.1))) (fun u => u.1 = m_feed bs n T K ik SB SS SN tn TB F) (fun u => wM cI r u.1.2 u.2.1 u.2.2.1 u.2.2.2) := by
  refine CtI.of (cc := cX5_feed) (maxL := 4) (by decide +kernel) rfl (Nat.le_of_ble_eq_true rfl) ?_
  intro pg e s m args below meth c Q A hx hb hml hts hown hP hK hD hS ls hl kend
  have hown : s.vm.findClass RX5 = some m.cls := hown
  have hl : lv_has ls 4 [(0, .ref (r 0)), (1, .int (iI bs)), (2, .int (iI n))] := hl
  obtain ⟨hI, hIK, hik, hSB, hSS, hSN, htn, hTB, hF⟩ := id hG
  have hn := Inv_n hI
  have hdy := Inv_d hI
  have hP : va_P D vwCl (wRo r ik tn j ++ (wA cI (r 1) 100 T ++ (wA cI (r 2) 100 K ++ (wA cI (r 3) 100 X ++ (wA cI (r 4) 100 Y ++ (wA cI (r 5) 8 (fR F) ++ (wA cI (r 6) 120 TB ++ (wA cI (r 7) 4 (bR SB) ++ (wA cI (r 8) 4 SS ++ (wA cI (r 9) 160 SN)))))))))) s.heap := hP
  have hD : va_D A (wRo r ik tn j ++ (wA cI (r 1) 100 T ++ (wA cI (r 2) 100 K ++ (wA cI (r 3) 100 X ++ (wA cI (r 4) 100 Y ++ (wA cI (r 5) 8 (fR F) ++ (wA cI (r 6) 120 TB ++ (wA cI (r 7) 4 (bR SB) ++ (wA cI (r 8) 4 SS ++ (wA cI (r 9) 160 SN)))))))))) := hD
  refine lv_iload_n hx hb dX5_feed_0 rfl (lv_at hl 2 rfl) ?_
  refine x_i2l hx hb (by omega) dX5_feed_1 ?_
  refine x_lconst hx hb 1 rfl dX5_feed_2 ?_
  refine x_ldc2 hx hb 4 rfl hown (hts (.constantLong RX5 197 (4)) (by decide +kernel)) dX5_feed_3 ?_
  refine x_callS (As := [.long (lI n), .long (lI 1), .long (lI 4)]) (rest := []) ⟨hx, hb, hml, hown, hts⟩ (kX5_isIn n 1 4 (by omega) (by omega) (by omega)) (va_cwS 3 hts gX5_feed_X5_isIn rfl rfl rfl ykSX5_isIn ⟨Nat.le_of_ble_eq_true rfl, Nat.le_of_ble_eq_true rfl⟩) hP hK hD hS [] rfl (by decide) (fun _ => rfl) (fun _ => wRo r ik tn j ++ (wA cI (r 1) 100 T ++ (wA cI (r 2) 100 K ++ (wA cI (r 3) 100 X ++ (wA cI (r 4) 100 Y ++ (wA cI (r 5) 8 (fR F) ++ (wA cI (r 6) 120 TB ++ (wA cI (r 7) 4 (bR SB) ++ (wA cI (r 8) 4 SS ++ (wA cI (r 9) 160 SN)))))))))) (fun _ => rfl) rfl hl.1 rfl (Nat.le_of_ble_eq_true rfl) dX5_feed_6 ⟨Nat.le_of_ble_eq_true rfl, Nat.le_of_ble_eq_true rfl⟩ (fun _ H locs _ hP hD hS => ?_)
  refine W.eq (g2 := F0 m 9 ls [.int (iI (b2 (decide (1 ≤ n ∧ n ≤ 4))))]) rfl ?_
  refine x_ifb_ne (tgt := 19) hx hb dX5_feed_9 (by decide) (fun c_9 => ?_) (fun c_9 => ?_)
  · obtain ⟨n0, rfl⟩ : ∃ n0 : Nat, n = (n0 : Int) := ⟨n.toNat, by omega⟩
    obtain ⟨m0, rfl⟩ : ∃ m0 : Nat, tn = (m0 : Int) := ⟨tn.toNat, by omega⟩
    refine lv_aload_n hx hb dX5_feed_19 rfl (lv_at hl 0 rfl) ?_
    refine va_get (D := D) (ci := 4) (v := .int (iI ((m0 : Nat) : Int))) (C := RX5) (T := TX5) (N := 18) hx hb hts (iT_X5_feed_X5) hown hK hP 0 rfl rfl 7 (by decide) (hts (.fieldLink RX5 199 "WordSupperModel" "taped" "I") (by decide +kernel)) (fun _ h9 => h9) rfl dX5_feed_20 ?_
    refine lv_iload_n hx hb dX5_feed_23 rfl (lv_at hl 2 rfl) ?_
    refine x_iadd hx hb dX5_feed_24 ?_
    refine x_bipush hx hb dX5_feed_25 (by decide) ?_
    refine x_icmp_le (tgt := 37) hx hb (by omega) (by decide) dX5_feed_27 (by decide) (fun c_27 => ?_) (fun c_27 => ?_)
    · refine lv_iload_n hx hb dX5_feed_37 rfl (lv_at hl 2 rfl) ?_
      refine x_iconst hx hb dX5_feed_38 ?_
      refine x_isub hx hb dX5_feed_39 ?_
      refine lv_istore_n (lv' := [(3, .int (iI (((n0 : Nat) : Int) - 1))), (0, .ref (r 0)), (1, .int (iI bs)), (2, .int (iI ((n0 : Nat) : Int)))]) hx hb dX5_feed_40 rfl hl (by decide) rfl (fun ls hl => ?_)
      have L41 : ∀ (k t : Nat) (c0 : Nat) (TBv : Nat → Int) (H : Heap) (locs : List Loc) (ls : Array Slot), t + k = n0 → (fdT bs k c0 TBv = fdT bs n0 m0 TB) → (c0 + k = m0 + n0) → (m0 + n0 ≤ 120) → va_P D vwCl (wRo r ik ((c0 : Nat) : Int) j ++ (wA cI (r 1) 100 T ++ (wA cI (r 2) 100 K ++ (wA cI (r 3) 100 X ++ (wA cI (r 4) 100 Y ++ (wA cI (r 5) 8 (fR F) ++ (wA cI (r 6) 120 TBv ++ (wA cI (r 7) 4 (bR SB) ++ (wA cI (r 8) 4 SS ++ (wA cI (r 9) 160 SN)))))))))) H → va_D A (wRo r ik ((c0 : Nat) : Int) j ++ (wA cI (r 1) 100 T ++ (wA cI (r 2) 100 K ++ (wA cI (r 3) 100 X ++ (wA cI (r 4) 100 Y ++ (wA cI (r 5) 8 (fR F) ++ (wA cI (r 6) 120 TBv ++ (wA cI (r 7) 4 (bR SB) ++ (wA cI (r 8) 4 SS ++ (wA cI (r 9) 160 SN)))))))))) → va_S A s.heap H locs → lv_has ls 4 [(0, .ref (r 0)), (1, .int (iI bs)), (2, .int (iI ((n0 : Nat) : Int))), (3, .int (iI (((k : Nat) : Int) - 1)))] → W pg l e { frames := 1, cells := 0, slots := 0, locals := 25 } s m args below meth c H locs 0 0 Q (F0 m 41 ls []) := by
        intro k
        induction k with
        | zero =>
          intro t c0 TBv H locs ls hkt hr hc hc2 hP hD hS hl
          refine lv_iload_n hx hb dX5_feed_41 rfl (lv_at hl 3 rfl) ?_
          refine x_if_lt (tgt := 80) hx hb (by omega) dX5_feed_42 (by decide) (fun c_42 => ?_) (fun c_42 => ?_)
          · refine lv_aload_n hx hb dX5_feed_80 rfl (lv_at hl 0 rfl) ?_
            refine va_get (D := D) (ci := 4) (v := .int (iI ((c0 : Nat) : Int))) (C := RX5) (T := TX5) (N := 18) hx hb hts (iT_X5_feed_X5) hown hK hP 0 rfl rfl 7 (by decide) (hts (.fieldLink RX5 199 "WordSupperModel" "taped" "I") (by decide +kernel)) (fun _ h9 => h9) rfl dX5_feed_81 ?_
            exact kend ((((c0 : Nat) : Int), T, K, ik, SB, SS, SN, ((c0 : Nat) : Int), TBv, F), X, Y, j) hP hS rfl (by unfold m_feed; rw [if_neg (by omega), if_neg (by omega)]; simp only [Int.toNat_natCast]; rw [← hr, show ((m0 : Nat) : Int) + ((n0 : Nat) : Int) = ((c0 : Nat) : Int) by omega] <;> rfl) dX5_feed_84
          · exfalso; omega
        | succ k ih =>
          intro t c0 TBv H locs ls hkt hr hc hc2 hP hD hS hl
          refine lv_iload_n hx hb dX5_feed_41 rfl (lv_at hl 3 rfl) ?_
          refine x_if_lt (tgt := 80) hx hb (by omega) dX5_feed_42 (by decide) (fun c_42 => ?_) (fun c_42 => ?_)
          · exfalso; omega
          · refine lv_aload_n hx hb dX5_feed_45 rfl (lv_at hl 0 rfl) ?_
            refine va_get (D := D) (ci := 4) (v := .ref (r 6)) (C := RX5) (T := TX5) (N := 18) hx hb hts (iT_X5_feed_X5) hown hK hP 0 rfl rfl 6 (by decide) (hts (.fieldLink RX5 25 "WordSupperModel" "tape" "[I") (by decide +kernel)) (fun _ h9 => h9) rfl dX5_feed_46 ?_
            refine lv_aload_n hx hb dX5_feed_49 rfl (lv_at hl 0 rfl) ?_
            refine va_get (D := D) (ci := 4) (v := .int (iI ((c0 : Nat) : Int))) (C := RX5) (T := TX5) (N := 18) hx hb hts (iT_X5_feed_X5) hown hK hP 0 rfl rfl 7 (by decide) (hts (.fieldLink RX5 199 "WordSupperModel" "taped" "I") (by decide +kernel)) (fun _ h9 => h9) rfl dX5_feed_50 ?_
            refine lv_iload_n hx hb dX5_feed_53 rfl (lv_at hl 1 rfl) ?_
            refine x_bipush hx hb dX5_feed_54 (by decide) ?_
            refine lv_iload_n hx hb dX5_feed_56 rfl (lv_at hl 3 rfl) ?_
            refine x_topi ((k : Nat) : Int) (by omega) ?_
            refine x_imul hx hb dX5_feed_57 ?_
            refine x_ishr hx hb dX5_feed_58 ?_
            refine x_sipush hx hb dX5_feed_59 (by decide) ?_
            refine x_iand hx hb dX5_feed_62 ?_
            refine x_iast hx hb hK hP hD hS 6 0 rfl rfl c0 rfl (by omega) (by decide) (wRo r ik ((c0 : Nat) : Int) j ++ (wA cI (r 1) 100 T ++ (wA cI (r 2) 100 K ++ (wA cI (r 3) 100 X ++ (wA cI (r 4) 100 Y ++ (wA cI (r 5) 8 (fR F) ++ (wA cI (r 6) 120 (va_up TBv c0 (andI (shrI bs (8 * ((k : Nat) : Int))) 255)) ++ (wA cI (r 7) 4 (bR SB) ++ (wA cI (r 8) 4 SS ++ (wA cI (r 9) 160 SN)))))))))) (by rw [← wA_up cI (r 6) 120 TBv (andI (shrI bs (8 * ((k : Nat) : Int))) 255) c0 (by omega)]; rfl) dX5_feed_63 (fun H locs hP hD hS => ?_)
            refine lv_aload_n hx hb dX5_feed_64 rfl (lv_at hl 0 rfl) ?_
            refine lv_dup hx hb dX5_feed_65 rfl ?_
            refine va_get (D := D) (ci := 4) (v := .int (iI ((c0 : Nat) : Int))) (C := RX5) (T := TX5) (N := 18) hx hb hts (iT_X5_feed_X5) hown hK hP 0 rfl rfl 7 (by decide) (hts (.fieldLink RX5 199 "WordSupperModel" "taped" "I") (by decide +kernel)) (fun _ h9 => h9) rfl dX5_feed_66 ?_
            refine x_iconst hx hb dX5_feed_69 ?_
            refine x_iadd hx hb dX5_feed_70 ?_
            refine x_putI (D := D) (ty := .int) (C := RX5) (T := TX5) (N := 18) hx hb 4 hts (iT_X5_feed_X5) tyX5 tyX5_ok nmX5 hown hK hP hD hS 0 rfl rfl 7 (by decide) (hts (.fieldLink RX5 199 "WordSupperModel" "taped" "I") (by decide +kernel)) (fun _ h9 => h9) rfl (by decide +kernel) rfl rfl (Nat.le_of_ble_eq_true rfl) (wRo r ik (((c0 : Nat) : Int) + 1) j ++ (wA cI (r 1) 100 T ++ (wA cI (r 2) 100 K ++ (wA cI (r 3) 100 X ++ (wA cI (r 4) 100 Y ++ (wA cI (r 5) 8 (fR F) ++ (wA cI (r 6) 120 (va_up TBv c0 (andI (shrI bs (8 * ((k : Nat) : Int))) 255)) ++ (wA cI (r 7) 4 (bR SB) ++ (wA cI (r 8) 4 SS ++ (wA cI (r 9) 160 SN)))))))))) (by rw [← wRo_tn r ik ((c0 : Nat) : Int) j (((c0 : Nat) : Int) + 1)]; rfl) dX5_feed_71 (fun H locs hP hD hS => ?_)
            refine x_iinc hx hb 3 (((k : Nat) : Int) - 1) (by omega) [(3, .int (iI (((k : Nat) : Int) - 1))), (0, .ref (r 0)), (1, .int (iI bs)), (2, .int (iI ((n0 : Nat) : Int)))] dX5_feed_74 hl rfl (by decide) rfl (fun ls hl => ?_)
            refine lv_goto (tgt := 41) hx hb dX5_feed_77 (by decide) ?_
            exact ih (t + 1) (c0 + 1) (va_up TBv c0 (andI (shrI bs (8 * ((k : Nat) : Int))) 255)) _ _ _ (by omega) hr (by omega) hc2 hP hD hS (lv_sub hl [1, 2, 3, 0] rfl)
      exact L41 n0 0 m0 TB _ _ _ (by omega) rfl rfl (by omega) hP hD hS (lv_sub hl [1, 2, 3, 0] rfl)
    · refine lv_aload_n hx hb dX5_feed_30 rfl (lv_at hl 0 rfl) ?_
      refine x_ldc hx hb (-1000002) rfl hown (hts (.constant RX5 64 (-1000002)) (by decide +kernel)) dX5_feed_31 ?_
      refine x_callV (As := [.int (iI (-1000002))]) (rest := []) ⟨hx, hb, hml, hown, hts⟩ (kX5_finds r ik ((m0 : Nat) : Int) j F (-1000002) 1 (by omega) (by omega)) (cwV 1 hts gX5_feed_X5_finds rfl rfl rfl ykVX5_finds ⟨Nat.le_of_ble_eq_true rfl, Nat.le_of_ble_eq_true rfl⟩) hP hK hD hS 0 4 rfl rfl rfl [0, 5] rfl (by decide) (fun _ => rfl) (fun _ => wRo r ik ((m0 : Nat) : Int) j ++ (wA cI (r 1) 100 T ++ (wA cI (r 2) 100 K ++ (wA cI (r 3) 100 X ++ (wA cI (r 4) 100 Y ++ (wA cI (r 5) 8 (fR (bmp 1 F)) ++ (wA cI (r 6) 120 TB ++ (wA cI (r 7) 4 (bR SB) ++ (wA cI (r 8) 4 SS ++ (wA cI (r 9) 160 SN)))))))))) (fun _ => rfl) rfl hl.1 rfl (Nat.le_of_ble_eq_true rfl) dX5_feed_33 ⟨Nat.le_of_ble_eq_true rfl, Nat.le_of_ble_eq_true rfl⟩ (fun _ H locs _ hP hD hS => ?_)
      refine W.eq (g2 := F0 m 36 ls [.int (iI (-1000002))]) rfl ?_
      exact kend (((-1000002), T, K, ik, SB, SS, SN, ((m0 : Nat) : Int), TB, (bmp 1 F)), X, Y, j) hP hS rfl (((if_neg (by omega)).trans (if_pos (by omega)))).symm dX5_feed_36
  · refine lv_aload_n hx hb dX5_feed_12 rfl (lv_at hl 0 rfl) ?_
    refine x_ldc hx hb (-1000001) rfl hown (hts (.constant RX5 37 (-1000001)) (by decide +kernel)) dX5_feed_13 ?_
    refine x_callV (As := [.int (iI (-1000001))]) (rest := []) ⟨hx, hb, hml, hown, hts⟩ (kX5_finds r ik tn j F (-1000001) 0 (by omega) (by omega)) (cwV 1 hts gX5_feed_X5_finds rfl rfl rfl ykVX5_finds ⟨Nat.le_of_ble_eq_true rfl, Nat.le_of_ble_eq_true rfl⟩) hP hK hD hS 0 4 rfl rfl rfl [0, 5] rfl (by decide) (fun _ => rfl) (fun _ => wRo r ik tn j ++ (wA cI (r 1) 100 T ++ (wA cI (r 2) 100 K ++ (wA cI (r 3) 100 X ++ (wA cI (r 4) 100 Y ++ (wA cI (r 5) 8 (fR (bmp 0 F)) ++ (wA cI (r 6) 120 TB ++ (wA cI (r 7) 4 (bR SB) ++ (wA cI (r 8) 4 SS ++ (wA cI (r 9) 160 SN)))))))))) (fun _ => rfl) rfl hl.1 rfl (Nat.le_of_ble_eq_true rfl) dX5_feed_15 ⟨Nat.le_of_ble_eq_true rfl, Nat.le_of_ble_eq_true rfl⟩ (fun _ H locs _ hP hD hS => ?_)
    refine W.eq (g2 := F0 m 18 ls [.int (iI (-1000001))]) rfl ?_
    exact kend (((-1000001), T, K, ik, SB, SS, SN, tn, TB, (bmp 0 F)), X, Y, j) hP hS rfl ((if_pos (by omega))).symm dX5_feed_18
theorem ykSX5_hold : yX5_hold.cls ≠ "java/lang/invoke/MethodHandle" ∧ yX5_hold.cls ≠ "java/lang/invoke/VarHandle" ∧ (parseMethodDescriptor yX5_hold.desc).map (fun d => d.parameters.length) = some 2 := by decide +kernel
theorem ykVX5_hold : yX5_hold.cls = RX5 ∧ yX5_hold.cls ≠ "java/lang/invoke/MethodHandle" ∧ yX5_hold.cls ≠ "java/lang/invoke/VarHandle" ∧ (parseMethodDescriptor yX5_hold.desc).map (fun d => d.parameters.length) = some 2 := ⟨rfl, ykSX5_hold⟩
set_option maxRecDepth 20000 in
theorem iT_X5_hold_X5 : ∀ w ∈ u_ws RX5 TX5 18, w ∈ wsX5_hold := by decide +kernel
set_option maxHeartbeats 4000000 in
set_option maxRecDepth 100000 in
theorem kX5_hold {l : Launch} {D : va_G} {cI cB : ClassId} (r : Nat → Nat) (T K : Tb) (ik : Int) (SB SS SN : Nat → Int) (tn : Int) (TB F : Nat → Int) (X Y : Tb) (j : Nat → Int) (k sp : Int) (B : Int) (hG : GI B T K ik SB SS SN tn TB F) (hB : B ≤ 40000) (h_k : rI k) (h_sp : rI sp) : Ct l yX5_hold wsX5_hold 1 25 D [(cI, .int), (cB, .byte)] [.ref (r 0), .int (iI k), .int (iI sp)] (wM cI r (T, K, ik, SB, SS, SN, tn, TB, F) X Y j) (S := (Int × Gs) × Tb × Tb × (Nat → Int)) (fun u => some (.int (iI u.1.1))) (fun u => u.1 = m_hold k sp T K ik SB SS SN tn TB F) (fun u => wM cI r u.1.2 u.2.1 u.2.2.1 u.2.2.2) := by
  refine CtI.of (cc := cX5_hold) (maxL := 3) (by decide +kernel) rfl (Nat.le_of_ble_eq_true rfl) ?_
  intro pg e s m args below meth c Q A hx hb hml hts hown hP hK hD hS ls hl kend
  have hown : s.vm.findClass RX5 = some m.cls := hown
  have hl : lv_has ls 3 [(0, .ref (r 0)), (1, .int (iI k)), (2, .int (iI sp))] := hl
  obtain ⟨hI, hIK, hik, hSB, hSS, hSN, htn, hTB, hF⟩ := id hG
  have hn := Inv_n hI
  have hdy := Inv_d hI
  have hP : va_P D vwCl (wRo r ik tn j ++ (wA cI (r 1) 100 T ++ (wA cI (r 2) 100 K ++ (wA cI (r 3) 100 X ++ (wA cI (r 4) 100 Y ++ (wA cI (r 5) 8 (fR F) ++ (wA cI (r 6) 120 TB ++ (wA cI (r 7) 4 (bR SB) ++ (wA cI (r 8) 4 SS ++ (wA cI (r 9) 160 SN)))))))))) s.heap := hP
  have hD : va_D A (wRo r ik tn j ++ (wA cI (r 1) 100 T ++ (wA cI (r 2) 100 K ++ (wA cI (r 3) 100 X ++ (wA cI (r 4) 100 Y ++ (wA cI (r 5) 8 (fR F) ++ (wA cI (r 6) 120 TB ++ (wA cI (r 7) 4 (bR SB) ++ (wA cI (r 8) 4 SS ++ (wA cI (r 9) 160 SN)))))))))) := hD
  refine lv_iload_n hx hb dX5_hold_0 rfl (lv_at hl 1 rfl) ?_
  refine x_i2l hx hb (by omega) dX5_hold_1 ?_
  refine x_lconst hx hb 0 rfl dX5_hold_2 ?_
  refine x_ldc2 hx hb 9 rfl hown (hts (.constantLong RX5 43 (9)) (by decide +kernel)) dX5_hold_3 ?_
  refine x_callS (As := [.long (lI k), .long (lI 0), .long (lI 9)]) (rest := []) ⟨hx, hb, hml, hown, hts⟩ (kX5_isIn k 0 9 (by omega) (by omega) (by omega)) (va_cwS 3 hts gX5_hold_X5_isIn rfl rfl rfl ykSX5_isIn ⟨Nat.le_of_ble_eq_true rfl, Nat.le_of_ble_eq_true rfl⟩) hP hK hD hS [] rfl (by decide) (fun _ => rfl) (fun _ => wRo r ik tn j ++ (wA cI (r 1) 100 T ++ (wA cI (r 2) 100 K ++ (wA cI (r 3) 100 X ++ (wA cI (r 4) 100 Y ++ (wA cI (r 5) 8 (fR F) ++ (wA cI (r 6) 120 TB ++ (wA cI (r 7) 4 (bR SB) ++ (wA cI (r 8) 4 SS ++ (wA cI (r 9) 160 SN)))))))))) (fun _ => rfl) rfl hl.1 rfl (Nat.le_of_ble_eq_true rfl) dX5_hold_6 ⟨Nat.le_of_ble_eq_true rfl, Nat.le_of_ble_eq_true rfl⟩ (fun _ H locs _ hP hD hS => ?_)
  refine W.eq (g2 := F0 m 9 ls [.int (iI (b2 (decide (0 ≤ k ∧ k ≤ 9))))]) rfl ?_
  refine x_ifb_eq (tgt := 25) hx hb dX5_hold_9 (by decide) (fun c_9 => ?_) (fun c_9 => ?_)
  · refine lv_aload_n hx hb dX5_hold_25 rfl (lv_at hl 0 rfl) ?_
    refine x_ldc hx hb (-1000001) rfl hown (hts (.constant RX5 37 (-1000001)) (by decide +kernel)) dX5_hold_26 ?_
    refine x_callV (As := [.int (iI (-1000001))]) (rest := []) ⟨hx, hb, hml, hown, hts⟩ (kX5_finds r ik tn j F (-1000001) 0 (by omega) (by omega)) (cwV 1 hts gX5_hold_X5_finds rfl rfl rfl ykVX5_finds ⟨Nat.le_of_ble_eq_true rfl, Nat.le_of_ble_eq_true rfl⟩) hP hK hD hS 0 4 rfl rfl rfl [0, 5] rfl (by decide) (fun _ => rfl) (fun _ => wRo r ik tn j ++ (wA cI (r 1) 100 T ++ (wA cI (r 2) 100 K ++ (wA cI (r 3) 100 X ++ (wA cI (r 4) 100 Y ++ (wA cI (r 5) 8 (fR (bmp 0 F)) ++ (wA cI (r 6) 120 TB ++ (wA cI (r 7) 4 (bR SB) ++ (wA cI (r 8) 4 SS ++ (wA cI (r 9) 160 SN)))))))))) (fun _ => rfl) rfl hl.1 rfl (Nat.le_of_ble_eq_true rfl) dX5_hold_28 ⟨Nat.le_of_ble_eq_true rfl, Nat.le_of_ble_eq_true rfl⟩ (fun _ H locs _ hP hD hS => ?_)
    refine W.eq (g2 := F0 m 31 ls [.int (iI (-1000001))]) rfl ?_
    exact kend (((-1000001), T, K, ik, SB, SS, SN, tn, TB, (bmp 0 F)), X, Y, j) hP hS rfl (if_neg (by omega)).symm dX5_hold_31
  · refine lv_iload_n hx hb dX5_hold_12 rfl (lv_at hl 2 rfl) ?_
    refine x_iconst hx hb dX5_hold_13 ?_
    refine x_icmp_eq (tgt := 32) hx hb (by omega) (by decide) dX5_hold_14 (by decide) (fun c_14 => ?_) (fun c_14 => ?_)
    · obtain ⟨k0, rfl⟩ : ∃ k0 : Nat, k = (k0 : Int) := ⟨k.toNat, by omega⟩
      refine lv_aload_n hx hb dX5_hold_32 rfl (lv_at hl 0 rfl) ?_
      refine va_get (D := D) (ci := 4) (v := .ref (r 1)) (C := RX5) (T := TX5) (N := 18) hx hb hts (iT_X5_hold_X5) hown hK hP 0 rfl rfl 0 (by decide) (hts (.fieldLink RX5 7 "WordSupperModel" "s" "[I") (by decide +kernel)) (fun _ h9 => h9) rfl dX5_hold_33 ?_
      refine x_bipush hx hb dX5_hold_36 (by decide) ?_
      refine lv_iload_n hx hb dX5_hold_38 rfl (lv_at hl 1 rfl) ?_
      refine x_iadd hx hb dX5_hold_39 ?_
      refine x_topi ((90 + k0 : Nat) : Int) (by omega) ?_
      refine lv_iload_n hx hb dX5_hold_40 rfl (lv_at hl 2 rfl) ?_
      refine x_iast hx hb hK hP hD hS 1 0 rfl rfl (90 + k0) rfl (by omega) (by decide) (wRo r ik tn j ++ (wA cI (r 1) 100 (va_up T (90 + k0) sp) ++ (wA cI (r 2) 100 K ++ (wA cI (r 3) 100 X ++ (wA cI (r 4) 100 Y ++ (wA cI (r 5) 8 (fR F) ++ (wA cI (r 6) 120 TB ++ (wA cI (r 7) 4 (bR SB) ++ (wA cI (r 8) 4 SS ++ (wA cI (r 9) 160 SN)))))))))) (by rw [← wA_up cI (r 1) 100 T sp (90 + k0) (by omega)]; rfl) dX5_hold_41 (fun H locs hP hD hS => ?_)
      refine x_iconst hx hb dX5_hold_42 ?_
      exact kend ((1, (va_up T (90 + k0) sp), K, ik, SB, SS, SN, tn, TB, F), X, Y, j) hP hS rfl (if_pos (by omega)).symm dX5_hold_43
    · refine lv_aload_n hx hb dX5_hold_17 rfl (lv_at hl 0 rfl) ?_
      refine lv_iload_n hx hb dX5_hold_18 rfl (lv_at hl 2 rfl) ?_
      refine x_callV (As := [.int (iI sp)]) (rest := []) ⟨hx, hb, hml, hown, hts⟩ (kX5_isOne r ik tn j T sp (by omega) (by omega)) (cwV 1 hts gX5_hold_X5_isOne rfl rfl rfl ykVX5_isOne ⟨Nat.le_of_ble_eq_true rfl, Nat.le_of_ble_eq_true rfl⟩) hP hK hD hS 0 4 rfl rfl rfl [0, 1] rfl (by decide) (fun _ => rfl) (fun _ => wRo r ik tn j ++ (wA cI (r 1) 100 T ++ (wA cI (r 2) 100 K ++ (wA cI (r 3) 100 X ++ (wA cI (r 4) 100 Y ++ (wA cI (r 5) 8 (fR F) ++ (wA cI (r 6) 120 TB ++ (wA cI (r 7) 4 (bR SB) ++ (wA cI (r 8) 4 SS ++ (wA cI (r 9) 160 SN)))))))))) (fun _ => rfl) rfl hl.1 rfl (Nat.le_of_ble_eq_true rfl) dX5_hold_19 ⟨Nat.le_of_ble_eq_true rfl, Nat.le_of_ble_eq_true rfl⟩ (fun _ H locs _ hP hD hS => ?_)
      refine W.eq (g2 := F0 m 22 ls [.int (iI (b2 (decide (0 ≤ sp ∧ sp < T 0))))]) rfl ?_
      refine x_ifb_ne (tgt := 32) hx hb dX5_hold_22 (by decide) (fun c_22 => ?_) (fun c_22 => ?_)
      · obtain ⟨k0, rfl⟩ : ∃ k0 : Nat, k = (k0 : Int) := ⟨k.toNat, by omega⟩
        refine lv_aload_n hx hb dX5_hold_32 rfl (lv_at hl 0 rfl) ?_
        refine va_get (D := D) (ci := 4) (v := .ref (r 1)) (C := RX5) (T := TX5) (N := 18) hx hb hts (iT_X5_hold_X5) hown hK hP 0 rfl rfl 0 (by decide) (hts (.fieldLink RX5 7 "WordSupperModel" "s" "[I") (by decide +kernel)) (fun _ h9 => h9) rfl dX5_hold_33 ?_
        refine x_bipush hx hb dX5_hold_36 (by decide) ?_
        refine lv_iload_n hx hb dX5_hold_38 rfl (lv_at hl 1 rfl) ?_
        refine x_iadd hx hb dX5_hold_39 ?_
        refine x_topi ((90 + k0 : Nat) : Int) (by omega) ?_
        refine lv_iload_n hx hb dX5_hold_40 rfl (lv_at hl 2 rfl) ?_
        refine x_iast hx hb hK hP hD hS 1 0 rfl rfl (90 + k0) rfl (by omega) (by decide) (wRo r ik tn j ++ (wA cI (r 1) 100 (va_up T (90 + k0) sp) ++ (wA cI (r 2) 100 K ++ (wA cI (r 3) 100 X ++ (wA cI (r 4) 100 Y ++ (wA cI (r 5) 8 (fR F) ++ (wA cI (r 6) 120 TB ++ (wA cI (r 7) 4 (bR SB) ++ (wA cI (r 8) 4 SS ++ (wA cI (r 9) 160 SN)))))))))) (by rw [← wA_up cI (r 1) 100 T sp (90 + k0) (by omega)]; rfl) dX5_hold_41 (fun H locs hP hD hS => ?_)
        refine x_iconst hx hb dX5_hold_42 ?_
        exact kend ((1, (va_up T (90 + k0) sp), K, ik, SB, SS, SN, tn, TB, F), X, Y, j) hP hS rfl (if_pos (by omega)).symm dX5_hold_43
      · refine lv_aload_n hx hb dX5_hold_25 rfl (lv_at hl 0 rfl) ?_
        refine x_ldc hx hb (-1000001) rfl hown (hts (.constant RX5 37 (-1000001)) (by decide +kernel)) dX5_hold_26 ?_
        refine x_callV (As := [.int (iI (-1000001))]) (rest := []) ⟨hx, hb, hml, hown, hts⟩ (kX5_finds r ik tn j F (-1000001) 0 (by omega) (by omega)) (cwV 1 hts gX5_hold_X5_finds rfl rfl rfl ykVX5_finds ⟨Nat.le_of_ble_eq_true rfl, Nat.le_of_ble_eq_true rfl⟩) hP hK hD hS 0 4 rfl rfl rfl [0, 5] rfl (by decide) (fun _ => rfl) (fun _ => wRo r ik tn j ++ (wA cI (r 1) 100 T ++ (wA cI (r 2) 100 K ++ (wA cI (r 3) 100 X ++ (wA cI (r 4) 100 Y ++ (wA cI (r 5) 8 (fR (bmp 0 F)) ++ (wA cI (r 6) 120 TB ++ (wA cI (r 7) 4 (bR SB) ++ (wA cI (r 8) 4 SS ++ (wA cI (r 9) 160 SN)))))))))) (fun _ => rfl) rfl hl.1 rfl (Nat.le_of_ble_eq_true rfl) dX5_hold_28 ⟨Nat.le_of_ble_eq_true rfl, Nat.le_of_ble_eq_true rfl⟩ (fun _ H locs _ hP hD hS => ?_)
        refine W.eq (g2 := F0 m 31 ls [.int (iI (-1000001))]) rfl ?_
        exact kend (((-1000001), T, K, ik, SB, SS, SN, tn, TB, (bmp 0 F)), X, Y, j) hP hS rfl (if_neg (by omega)).symm dX5_hold_31
theorem ykSX5_as : yX5_as.cls ≠ "java/lang/invoke/MethodHandle" ∧ yX5_as.cls ≠ "java/lang/invoke/VarHandle" ∧ (parseMethodDescriptor yX5_as.desc).map (fun d => d.parameters.length) = some 2 := by decide +kernel
theorem ykVX5_as : yX5_as.cls = RX5 ∧ yX5_as.cls ≠ "java/lang/invoke/MethodHandle" ∧ yX5_as.cls ≠ "java/lang/invoke/VarHandle" ∧ (parseMethodDescriptor yX5_as.desc).map (fun d => d.parameters.length) = some 2 := ⟨rfl, ykSX5_as⟩
set_option maxRecDepth 20000 in
theorem iT_X5_as_X5 : ∀ w ∈ u_ws RX5 TX5 18, w ∈ wsX5_as := by decide +kernel
set_option maxHeartbeats 4000000 in
set_option maxRecDepth 100000 in
theorem kX5_as {l : Launch} {D : va_G} {cI cB : ClassId} (r : Nat → Nat) (T K : Tb) (ik : Int) (SB SS SN : Nat → Int) (tn : Int) (TB F : Nat → Int) (X Y : Tb) (j : Nat → Int) (k kd : Int) (B : Int) (hG : GI B T K ik SB SS SN tn TB F) (hB : B ≤ 40000) (h_k : rI k) (h_kd : rI kd) : Ct l yX5_as wsX5_as 1 25 D [(cI, .int), (cB, .byte)] [.ref (r 0), .int (iI k), .int (iI kd)] (wM cI r (T, K, ik, SB, SS, SN, tn, TB, F) X Y j) (S := (Int × Gs) × Tb × Tb × (Nat → Int)) (fun u => some (.int (iI u.1.1))) (fun u => u.1 = m_as k kd T K ik SB SS SN tn TB F) (fun u => wM cI r u.1.2 u.2.1 u.2.2.1 u.2.2.2) := by
  refine CtI.of (cc := cX5_as) (maxL := 4) (by decide +kernel) rfl (Nat.le_of_ble_eq_true rfl) ?_
  intro pg e s m args below meth c Q A hx hb hml hts hown hP hK hD hS ls hl kend
  have hown : s.vm.findClass RX5 = some m.cls := hown
  have hl : lv_has ls 4 [(0, .ref (r 0)), (1, .int (iI k)), (2, .int (iI kd))] := hl
  obtain ⟨hI, hIK, hik, hSB, hSS, hSN, htn, hTB, hF⟩ := id hG
  have hn := Inv_n hI
  have hdy := Inv_d hI
  have hP : va_P D vwCl (wRo r ik tn j ++ (wA cI (r 1) 100 T ++ (wA cI (r 2) 100 K ++ (wA cI (r 3) 100 X ++ (wA cI (r 4) 100 Y ++ (wA cI (r 5) 8 (fR F) ++ (wA cI (r 6) 120 TB ++ (wA cI (r 7) 4 (bR SB) ++ (wA cI (r 8) 4 SS ++ (wA cI (r 9) 160 SN)))))))))) s.heap := hP
  have hD : va_D A (wRo r ik tn j ++ (wA cI (r 1) 100 T ++ (wA cI (r 2) 100 K ++ (wA cI (r 3) 100 X ++ (wA cI (r 4) 100 Y ++ (wA cI (r 5) 8 (fR F) ++ (wA cI (r 6) 120 TB ++ (wA cI (r 7) 4 (bR SB) ++ (wA cI (r 8) 4 SS ++ (wA cI (r 9) 160 SN)))))))))) := hD
  refine lv_iload_n hx hb dX5_as_0 rfl (lv_at hl 1 rfl) ?_
  refine x_i2l hx hb (by omega) dX5_as_1 ?_
  refine x_lconst hx hb 0 rfl dX5_as_2 ?_
  refine x_ldc2 hx hb 9 rfl hown (hts (.constantLong RX5 43 (9)) (by decide +kernel)) dX5_as_3 ?_
  refine x_callS (As := [.long (lI k), .long (lI 0), .long (lI 9)]) (rest := []) ⟨hx, hb, hml, hown, hts⟩ (kX5_isIn k 0 9 (by omega) (by omega) (by omega)) (va_cwS 3 hts gX5_as_X5_isIn rfl rfl rfl ykSX5_isIn ⟨Nat.le_of_ble_eq_true rfl, Nat.le_of_ble_eq_true rfl⟩) hP hK hD hS [] rfl (by decide) (fun _ => rfl) (fun _ => wRo r ik tn j ++ (wA cI (r 1) 100 T ++ (wA cI (r 2) 100 K ++ (wA cI (r 3) 100 X ++ (wA cI (r 4) 100 Y ++ (wA cI (r 5) 8 (fR F) ++ (wA cI (r 6) 120 TB ++ (wA cI (r 7) 4 (bR SB) ++ (wA cI (r 8) 4 SS ++ (wA cI (r 9) 160 SN)))))))))) (fun _ => rfl) rfl hl.1 rfl (Nat.le_of_ble_eq_true rfl) dX5_as_6 ⟨Nat.le_of_ble_eq_true rfl, Nat.le_of_ble_eq_true rfl⟩ (fun _ H locs _ hP hD hS => ?_)
  refine W.eq (g2 := F0 m 9 ls [.int (iI (b2 (decide (0 ≤ k ∧ k ≤ 9))))]) rfl ?_
  refine x_ifb_eq (tgt := 24) hx hb dX5_as_9 (by decide) (fun c_9 => ?_) (fun c_9 => ?_)
  · refine lv_aload_n hx hb dX5_as_24 rfl (lv_at hl 0 rfl) ?_
    refine x_ldc hx hb (-1000001) rfl hown (hts (.constant RX5 37 (-1000001)) (by decide +kernel)) dX5_as_25 ?_
    refine x_callV (As := [.int (iI (-1000001))]) (rest := []) ⟨hx, hb, hml, hown, hts⟩ (kX5_finds r ik tn j F (-1000001) 0 (by omega) (by omega)) (cwV 1 hts gX5_as_X5_finds rfl rfl rfl ykVX5_finds ⟨Nat.le_of_ble_eq_true rfl, Nat.le_of_ble_eq_true rfl⟩) hP hK hD hS 0 4 rfl rfl rfl [0, 5] rfl (by decide) (fun _ => rfl) (fun _ => wRo r ik tn j ++ (wA cI (r 1) 100 T ++ (wA cI (r 2) 100 K ++ (wA cI (r 3) 100 X ++ (wA cI (r 4) 100 Y ++ (wA cI (r 5) 8 (fR (bmp 0 F)) ++ (wA cI (r 6) 120 TB ++ (wA cI (r 7) 4 (bR SB) ++ (wA cI (r 8) 4 SS ++ (wA cI (r 9) 160 SN)))))))))) (fun _ => rfl) rfl hl.1 rfl (Nat.le_of_ble_eq_true rfl) dX5_as_27 ⟨Nat.le_of_ble_eq_true rfl, Nat.le_of_ble_eq_true rfl⟩ (fun _ H locs _ hP hD hS => ?_)
    refine W.eq (g2 := F0 m 30 ls [.int (iI (-1000001))]) rfl ?_
    exact kend (((-1000001), T, K, ik, SB, SS, SN, tn, TB, (bmp 0 F)), X, Y, j) hP hS rfl ((if_pos (by omega))).symm dX5_as_30
  · refine lv_iload_n hx hb dX5_as_12 rfl (lv_at hl 2 rfl) ?_
    refine x_i2l hx hb (by omega) dX5_as_13 ?_
    refine x_lconst hx hb 0 rfl dX5_as_14 ?_
    refine x_ldc2 hx hb 6 rfl hown (hts (.constantLong RX5 62 (6)) (by decide +kernel)) dX5_as_15 ?_
    refine x_callS (As := [.long (lI kd), .long (lI 0), .long (lI 6)]) (rest := []) ⟨hx, hb, hml, hown, hts⟩ (kX5_isIn kd 0 6 (by omega) (by omega) (by omega)) (va_cwS 3 hts gX5_as_X5_isIn rfl rfl rfl ykSX5_isIn ⟨Nat.le_of_ble_eq_true rfl, Nat.le_of_ble_eq_true rfl⟩) hP hK hD hS [] rfl (by decide) (fun _ => rfl) (fun _ => wRo r ik tn j ++ (wA cI (r 1) 100 T ++ (wA cI (r 2) 100 K ++ (wA cI (r 3) 100 X ++ (wA cI (r 4) 100 Y ++ (wA cI (r 5) 8 (fR F) ++ (wA cI (r 6) 120 TB ++ (wA cI (r 7) 4 (bR SB) ++ (wA cI (r 8) 4 SS ++ (wA cI (r 9) 160 SN)))))))))) (fun _ => rfl) rfl hl.1 rfl (Nat.le_of_ble_eq_true rfl) dX5_as_18 ⟨Nat.le_of_ble_eq_true rfl, Nat.le_of_ble_eq_true rfl⟩ (fun _ H locs _ hP hD hS => ?_)
    refine W.eq (g2 := F0 m 21 ls [.int (iI (b2 (decide (0 ≤ kd ∧ kd ≤ 6))))]) rfl ?_
    refine x_ifb_ne (tgt := 31) hx hb dX5_as_21 (by decide) (fun c_21 => ?_) (fun c_21 => ?_)
    · obtain ⟨k0, rfl⟩ : ∃ k0 : Nat, k = (k0 : Int) := ⟨k.toNat, by omega⟩
      refine lv_aload_n hx hb dX5_as_31 rfl (lv_at hl 0 rfl) ?_
      refine va_get (D := D) (ci := 4) (v := .ref (r 1)) (C := RX5) (T := TX5) (N := 18) hx hb hts (iT_X5_as_X5) hown hK hP 0 rfl rfl 0 (by decide) (hts (.fieldLink RX5 7 "WordSupperModel" "s" "[I") (by decide +kernel)) (fun _ h9 => h9) rfl dX5_as_32 ?_
      refine x_bipush hx hb dX5_as_35 (by decide) ?_
      refine lv_iload_n hx hb dX5_as_37 rfl (lv_at hl 1 rfl) ?_
      refine x_iadd hx hb dX5_as_38 ?_
      refine x_topi ((90 + k0 : Nat) : Int) (by omega) ?_
      refine x_iald hx hb hK hP 1 0 rfl rfl (90 + k0) rfl (by omega) (by decide) (T (90 + k0)) (gd_at _ (by omega)) dX5_as_39 ?_
      refine lv_istore_n (lv' := [(3, .int (iI (T (90 + k0)))), (0, .ref (r 0)), (1, .int (iI ((k0 : Nat) : Int))), (2, .int (iI kd))]) hx hb dX5_as_40 rfl hl (by decide) rfl (fun ls hl => ?_)
      have hsp := Inv_s hI (k := k0) (by omega)
      refine lv_iload_n hx hb dX5_as_41 rfl (lv_at hl 0 rfl) ?_
      refine x_if_ge (tgt := 53) hx hb (by omega) dX5_as_42 (by decide) (fun c_42 => ?_) (fun c_42 => ?_)
      · refine lv_aload_n hx hb dX5_as_53 rfl (lv_at hl 1 rfl) ?_
        refine lv_iload_n hx hb dX5_as_54 rfl (lv_at hl 0 rfl) ?_
        refine x_topi (((T (90 + k0)).toNat : Nat) : Int) (by omega) ?_
        refine x_iconst hx hb dX5_as_55 ?_
        have hku := Inv_k (p := (T (90 + k0)).toNat) hI (by omega)
        refine x_callV (As := [.int (iI (((T (90 + k0)).toNat : Nat) : Int)), .int (iI 0)]) (rest := []) ⟨hx, hb, hml, hown, hts⟩ (kX5_its r ik tn j T ((T (90 + k0)).toNat) 0 (by omega) (by omega)) (cwV 2 hts gX5_as_X5_its rfl rfl rfl ykVX5_its ⟨Nat.le_of_ble_eq_true rfl, Nat.le_of_ble_eq_true rfl⟩) hP hK hD hS 0 4 rfl rfl rfl [0, 1] rfl (by decide) (fun _ => rfl) (fun _ => wRo r ik tn j ++ (wA cI (r 1) 100 T ++ (wA cI (r 2) 100 K ++ (wA cI (r 3) 100 X ++ (wA cI (r 4) 100 Y ++ (wA cI (r 5) 8 (fR F) ++ (wA cI (r 6) 120 TB ++ (wA cI (r 7) 4 (bR SB) ++ (wA cI (r 8) 4 SS ++ (wA cI (r 9) 160 SN)))))))))) (fun _ => rfl) rfl hl.1 rfl (Nat.le_of_ble_eq_true rfl) dX5_as_56 ⟨Nat.le_of_ble_eq_true rfl, Nat.le_of_ble_eq_true rfl⟩ (fun _ H locs _ hP hD hS => ?_)
        refine W.eq (g2 := F0 m 59 ls [.int (iI (T (cx ((T (90 + k0)).toNat) 0)))]) rfl ?_
        refine lv_iload_n hx hb dX5_as_59 rfl (lv_at hl 3 rfl) ?_
        refine x_callS (As := [.int (iI (T (cx ((T (90 + k0)).toNat) 0))), .int (iI kd)]) (rest := []) ⟨hx, hb, hml, hown, hts⟩ (kX5_isUnder (T (cx ((T (90 + k0)).toNat) 0)) kd (by omega) (by omega)) (va_cwS 2 hts gX5_as_X5_isUnder rfl rfl rfl ykSX5_isUnder ⟨Nat.le_of_ble_eq_true rfl, Nat.le_of_ble_eq_true rfl⟩) hP hK hD hS [] rfl (by decide) (fun _ => rfl) (fun _ => wRo r ik tn j ++ (wA cI (r 1) 100 T ++ (wA cI (r 2) 100 K ++ (wA cI (r 3) 100 X ++ (wA cI (r 4) 100 Y ++ (wA cI (r 5) 8 (fR F) ++ (wA cI (r 6) 120 TB ++ (wA cI (r 7) 4 (bR SB) ++ (wA cI (r 8) 4 SS ++ (wA cI (r 9) 160 SN)))))))))) (fun _ => rfl) rfl hl.1 rfl (Nat.le_of_ble_eq_true rfl) dX5_as_60 ⟨Nat.le_of_ble_eq_true rfl, Nat.le_of_ble_eq_true rfl⟩ (fun _ H locs _ hP hD hS => ?_)
        refine W.eq (g2 := F0 m 63 ls [.int (iI (b2 (decide (unB (T (cx ((T (90 + k0)).toNat) 0)) kd = true))))]) rfl ?_
        refine x_ifb_eq (tgt := 70) hx hb dX5_as_63 (by decide) (fun c_63 => ?_) (fun c_63 => ?_)
        · refine lv_aload_n hx hb dX5_as_70 rfl (lv_at hl 1 rfl) ?_
          refine x_ldcw hx hb (-1000003) rfl hown (hts (.constant RX5 277 (-1000003)) (by decide +kernel)) dX5_as_71 ?_
          refine x_callV (As := [.int (iI (-1000003))]) (rest := []) ⟨hx, hb, hml, hown, hts⟩ (kX5_finds r ik tn j F (-1000003) 2 (by omega) (by omega)) (cwV 1 hts gX5_as_X5_finds rfl rfl rfl ykVX5_finds ⟨Nat.le_of_ble_eq_true rfl, Nat.le_of_ble_eq_true rfl⟩) hP hK hD hS 0 4 rfl rfl rfl [0, 5] rfl (by decide) (fun _ => rfl) (fun _ => wRo r ik tn j ++ (wA cI (r 1) 100 T ++ (wA cI (r 2) 100 K ++ (wA cI (r 3) 100 X ++ (wA cI (r 4) 100 Y ++ (wA cI (r 5) 8 (fR (bmp 2 F)) ++ (wA cI (r 6) 120 TB ++ (wA cI (r 7) 4 (bR SB) ++ (wA cI (r 8) 4 SS ++ (wA cI (r 9) 160 SN)))))))))) (fun _ => rfl) rfl hl.1 rfl (Nat.le_of_ble_eq_true rfl) dX5_as_74 ⟨Nat.le_of_ble_eq_true rfl, Nat.le_of_ble_eq_true rfl⟩ (fun _ H locs _ hP hD hS => ?_)
          refine W.eq (g2 := F0 m 77 ls [.int (iI (-1000003))]) rfl ?_
          exact kend (((-1000003), T, K, ik, SB, SS, SN, tn, TB, (bmp 2 F)), X, Y, j) hP hS rfl (by unfold m_as; (try simp only [Int.toNat_natCast]); rw [if_neg (by omega), if_neg (by omega), if_neg c_63] <;> rfl) dX5_as_77
        · refine lv_iload_n hx hb dX5_as_66 rfl (lv_at hl 0 rfl) ?_
          refine lv_goto (tgt := 77) hx hb dX5_as_67 (by decide) ?_
          exact kend ((T (90 + k0), T, K, ik, SB, SS, SN, tn, TB, F), X, Y, j) hP hS rfl (by unfold m_as; (try simp only [Int.toNat_natCast]); rw [if_neg (by omega), if_neg (by omega), if_pos c_63] <;> rfl) dX5_as_77
      · refine lv_aload_n hx hb dX5_as_45 rfl (lv_at hl 1 rfl) ?_
        refine x_ldcw hx hb (-1000006) rfl hown (hts (.constant RX5 273 (-1000006)) (by decide +kernel)) dX5_as_46 ?_
        refine x_callV (As := [.int (iI (-1000006))]) (rest := []) ⟨hx, hb, hml, hown, hts⟩ (kX5_finds r ik tn j F (-1000006) 5 (by omega) (by omega)) (cwV 1 hts gX5_as_X5_finds rfl rfl rfl ykVX5_finds ⟨Nat.le_of_ble_eq_true rfl, Nat.le_of_ble_eq_true rfl⟩) hP hK hD hS 0 4 rfl rfl rfl [0, 5] rfl (by decide) (fun _ => rfl) (fun _ => wRo r ik tn j ++ (wA cI (r 1) 100 T ++ (wA cI (r 2) 100 K ++ (wA cI (r 3) 100 X ++ (wA cI (r 4) 100 Y ++ (wA cI (r 5) 8 (fR (bmp 5 F)) ++ (wA cI (r 6) 120 TB ++ (wA cI (r 7) 4 (bR SB) ++ (wA cI (r 8) 4 SS ++ (wA cI (r 9) 160 SN)))))))))) (fun _ => rfl) rfl hl.1 rfl (Nat.le_of_ble_eq_true rfl) dX5_as_49 ⟨Nat.le_of_ble_eq_true rfl, Nat.le_of_ble_eq_true rfl⟩ (fun _ H locs _ hP hD hS => ?_)
        refine W.eq (g2 := F0 m 52 ls [.int (iI (-1000006))]) rfl ?_
        exact kend (((-1000006), T, K, ik, SB, SS, SN, tn, TB, (bmp 5 F)), X, Y, j) hP hS rfl (by unfold m_as; (try simp only [Int.toNat_natCast]); rw [if_neg (by omega), if_pos (by omega)] <;> rfl) dX5_as_52
    · refine lv_aload_n hx hb dX5_as_24 rfl (lv_at hl 0 rfl) ?_
      refine x_ldc hx hb (-1000001) rfl hown (hts (.constant RX5 37 (-1000001)) (by decide +kernel)) dX5_as_25 ?_
      refine x_callV (As := [.int (iI (-1000001))]) (rest := []) ⟨hx, hb, hml, hown, hts⟩ (kX5_finds r ik tn j F (-1000001) 0 (by omega) (by omega)) (cwV 1 hts gX5_as_X5_finds rfl rfl rfl ykVX5_finds ⟨Nat.le_of_ble_eq_true rfl, Nat.le_of_ble_eq_true rfl⟩) hP hK hD hS 0 4 rfl rfl rfl [0, 5] rfl (by decide) (fun _ => rfl) (fun _ => wRo r ik tn j ++ (wA cI (r 1) 100 T ++ (wA cI (r 2) 100 K ++ (wA cI (r 3) 100 X ++ (wA cI (r 4) 100 Y ++ (wA cI (r 5) 8 (fR (bmp 0 F)) ++ (wA cI (r 6) 120 TB ++ (wA cI (r 7) 4 (bR SB) ++ (wA cI (r 8) 4 SS ++ (wA cI (r 9) 160 SN)))))))))) (fun _ => rfl) rfl hl.1 rfl (Nat.le_of_ble_eq_true rfl) dX5_as_27 ⟨Nat.le_of_ble_eq_true rfl, Nat.le_of_ble_eq_true rfl⟩ (fun _ H locs _ hP hD hS => ?_)
      refine W.eq (g2 := F0 m 30 ls [.int (iI (-1000001))]) rfl ?_
      exact kend (((-1000001), T, K, ik, SB, SS, SN, tn, TB, (bmp 0 F)), X, Y, j) hP hS rfl ((if_pos (by omega))).symm dX5_as_30
theorem ykSX5_sheet : yX5_sheet.cls ≠ "java/lang/invoke/MethodHandle" ∧ yX5_sheet.cls ≠ "java/lang/invoke/VarHandle" ∧ (parseMethodDescriptor yX5_sheet.desc).map (fun d => d.parameters.length) = some 3 := by decide +kernel
theorem ykVX5_sheet : yX5_sheet.cls = RX5 ∧ yX5_sheet.cls ≠ "java/lang/invoke/MethodHandle" ∧ yX5_sheet.cls ≠ "java/lang/invoke/VarHandle" ∧ (parseMethodDescriptor yX5_sheet.desc).map (fun d => d.parameters.length) = some 3 := ⟨rfl, ykSX5_sheet⟩
set_option maxRecDepth 20000 in
theorem iT_X5_sheet_X5 : ∀ w ∈ u_ws RX5 TX5 18, w ∈ wsX5_sheet := by decide +kernel
set_option maxHeartbeats 4000000 in
set_option maxRecDepth 100000 in
theorem kX5_sheet {l : Launch} {D : va_G} {cI cB : ClassId} (r : Nat → Nat) (T K : Tb) (ik : Int) (SB SS SN : Nat → Int) (tn : Int) (TB F : Nat → Int) (X Y : Tb) (j : Nat → Int) (s0 bt n : Int) (B : Int) (hG : GI B T K ik SB SS SN tn TB F) (hB : B ≤ 40000) (h_s0 : rI s0) (h_bt : rI bt) (h_n : rI n) : Ct l yX5_sheet wsX5_sheet 1 21 D [(cI, .int), (cB, .byte)] [.ref (r 0), .int (iI s0), .int (iI bt), .int (iI n)] (wM cI r (T, K, ik, SB, SS, SN, tn, TB, F) X Y j) (S := (Int × Gs) × Tb × Tb × (Nat → Int)) (fun u => some (.int (iI u.1.1))) (fun u => u.1 = m_sheet s0 bt n T K ik SB SS SN tn TB F) (fun u => wM cI r u.1.2 u.2.1 u.2.2.1 u.2.2.2) := by
  refine CtI.of (cc := cX5_sheet) (maxL := 5) (by decide +kernel) rfl (Nat.le_of_ble_eq_true rfl) ?_
  intro pg e s m args below meth c Q A hx hb hml hts hown hP hK hD hS ls hl kend
  have hown : s.vm.findClass RX5 = some m.cls := hown
  have hl : lv_has ls 5 [(0, .ref (r 0)), (1, .int (iI s0)), (2, .int (iI bt)), (3, .int (iI n))] := hl
  obtain ⟨hI, hIK, hik, hSB, hSS, hSN, htn, hTB, hF⟩ := id hG
  have hn := Inv_n hI
  have hdy := Inv_d hI
  have hP : va_P D vwCl (wRo r ik tn j ++ (wA cI (r 1) 100 T ++ (wA cI (r 2) 100 K ++ (wA cI (r 3) 100 X ++ (wA cI (r 4) 100 Y ++ (wA cI (r 5) 8 (fR F) ++ (wA cI (r 6) 120 TB ++ (wA cI (r 7) 4 (bR SB) ++ (wA cI (r 8) 4 SS ++ (wA cI (r 9) 160 SN)))))))))) s.heap := hP
  have hD : va_D A (wRo r ik tn j ++ (wA cI (r 1) 100 T ++ (wA cI (r 2) 100 K ++ (wA cI (r 3) 100 X ++ (wA cI (r 4) 100 Y ++ (wA cI (r 5) 8 (fR F) ++ (wA cI (r 6) 120 TB ++ (wA cI (r 7) 4 (bR SB) ++ (wA cI (r 8) 4 SS ++ (wA cI (r 9) 160 SN)))))))))) := hD
  refine lv_iload_n hx hb dX5_sheet_0 rfl (lv_at hl 1 rfl) ?_
  refine x_callS (As := [.int (iI s0)]) (rest := []) ⟨hx, hb, hml, hown, hts⟩ (kX5_isSheet s0 (by omega)) (va_cwS 1 hts gX5_sheet_X5_isSheet rfl rfl rfl ykSX5_isSheet ⟨Nat.le_of_ble_eq_true rfl, Nat.le_of_ble_eq_true rfl⟩) hP hK hD hS [] rfl (by decide) (fun _ => rfl) (fun _ => wRo r ik tn j ++ (wA cI (r 1) 100 T ++ (wA cI (r 2) 100 K ++ (wA cI (r 3) 100 X ++ (wA cI (r 4) 100 Y ++ (wA cI (r 5) 8 (fR F) ++ (wA cI (r 6) 120 TB ++ (wA cI (r 7) 4 (bR SB) ++ (wA cI (r 8) 4 SS ++ (wA cI (r 9) 160 SN)))))))))) (fun _ => rfl) rfl hl.1 rfl (Nat.le_of_ble_eq_true rfl) dX5_sheet_1 ⟨Nat.le_of_ble_eq_true rfl, Nat.le_of_ble_eq_true rfl⟩ (fun _ H locs _ hP hD hS => ?_)
  refine W.eq (g2 := F0 m 4 ls [.int (iI (b2 (decide (0 ≤ s0 ∧ s0 < 4))))]) rfl ?_
  refine x_ifb_eq (tgt := 29) hx hb dX5_sheet_4 (by decide) (fun c_4 => ?_) (fun c_4 => ?_)
  · refine lv_aload_n hx hb dX5_sheet_29 rfl (lv_at hl 0 rfl) ?_
    refine x_ldc hx hb (-1000001) rfl hown (hts (.constant RX5 37 (-1000001)) (by decide +kernel)) dX5_sheet_30 ?_
    refine x_callV (As := [.int (iI (-1000001))]) (rest := []) ⟨hx, hb, hml, hown, hts⟩ (kX5_finds r ik tn j F (-1000001) 0 (by omega) (by omega)) (cwV 1 hts gX5_sheet_X5_finds rfl rfl rfl ykVX5_finds ⟨Nat.le_of_ble_eq_true rfl, Nat.le_of_ble_eq_true rfl⟩) hP hK hD hS 0 4 rfl rfl rfl [0, 5] rfl (by decide) (fun _ => rfl) (fun _ => wRo r ik tn j ++ (wA cI (r 1) 100 T ++ (wA cI (r 2) 100 K ++ (wA cI (r 3) 100 X ++ (wA cI (r 4) 100 Y ++ (wA cI (r 5) 8 (fR (bmp 0 F)) ++ (wA cI (r 6) 120 TB ++ (wA cI (r 7) 4 (bR SB) ++ (wA cI (r 8) 4 SS ++ (wA cI (r 9) 160 SN)))))))))) (fun _ => rfl) rfl hl.1 rfl (Nat.le_of_ble_eq_true rfl) dX5_sheet_32 ⟨Nat.le_of_ble_eq_true rfl, Nat.le_of_ble_eq_true rfl⟩ (fun _ H locs _ hP hD hS => ?_)
    refine W.eq (g2 := F0 m 35 ls [.int (iI (-1000001))]) rfl ?_
    exact kend (((-1000001), T, K, ik, SB, SS, SN, tn, TB, (bmp 0 F)), X, Y, j) hP hS rfl (by first | exact ((if_pos (by omega))).symm | exact (((if_neg (by omega)).trans ((if_neg (by omega)).trans (if_pos (by omega))))).symm) dX5_sheet_35
  · refine lv_iload_n hx hb dX5_sheet_7 rfl (lv_at hl 2 rfl) ?_
    refine x_if_eq (tgt := 36) hx hb (by omega) dX5_sheet_8 (by decide) (fun c_8 => ?_) (fun c_8 => ?_)
    · refine lv_iload_n hx hb dX5_sheet_36 rfl (lv_at hl 3 rfl) ?_
      refine x_if_ge (tgt := 48) hx hb (by omega) dX5_sheet_37 (by decide) (fun c_37 => ?_) (fun c_37 => ?_)
      · refine lv_iload_n hx hb dX5_sheet_48 rfl (lv_at hl 3 rfl) ?_
        refine x_bipush hx hb dX5_sheet_49 (by decide) ?_
        refine x_icmp_le (tgt := 61) hx hb (by omega) (by decide) dX5_sheet_51 (by decide) (fun c_51 => ?_) (fun c_51 => ?_)
        · obtain ⟨s1, rfl⟩ : ∃ s1 : Nat, s0 = (s1 : Int) := ⟨s0.toNat, by omega⟩
          refine lv_aload_n hx hb dX5_sheet_61 rfl (lv_at hl 0 rfl) ?_
          refine va_get (D := D) (ci := 4) (v := .ref (r 7)) (C := RX5) (T := TX5) (N := 18) hx hb hts (iT_X5_sheet_X5) hown hK hP 0 rfl rfl 8 (by decide) (hts (.fieldLink RX5 28 "WordSupperModel" "bitsOf" "[I") (by decide +kernel)) (fun _ h9 => h9) rfl dX5_sheet_62 ?_
          refine lv_iload_n hx hb dX5_sheet_65 rfl (lv_at hl 1 rfl) ?_
          refine lv_iload_n hx hb dX5_sheet_66 rfl (lv_at hl 2 rfl) ?_
          refine x_if_ne (tgt := 74) hx hb (by omega) dX5_sheet_67 (by decide) (fun c_67 => ?_) (fun c_67 => ?_)
          · refine lv_iload_n hx hb dX5_sheet_74 rfl (lv_at hl 2 rfl) ?_
            refine x_iast hx hb hK hP hD hS 7 0 rfl rfl s1 rfl (by omega) (by decide) (wRo r ik tn j ++ (wA cI (r 1) 100 T ++ (wA cI (r 2) 100 K ++ (wA cI (r 3) 100 X ++ (wA cI (r 4) 100 Y ++ (wA cI (r 5) 8 (fR F) ++ (wA cI (r 6) 120 TB ++ (wA cI (r 7) 4 (va_up (bR SB) s1 bt) ++ (wA cI (r 8) 4 SS ++ (wA cI (r 9) 160 SN)))))))))) (by rw [← wA_up cI (r 7) 4 (bR SB) bt s1 (by omega)]; rfl) dX5_sheet_75 (fun H locs hP hD hS => ?_)
            rw [bR_up1 _ _ (show bt ≠ 0 by omega)] at hP hD
            refine lv_aload_n hx hb dX5_sheet_76 rfl (lv_at hl 0 rfl) ?_
            refine va_get (D := D) (ci := 4) (v := .ref (r 8)) (C := RX5) (T := TX5) (N := 18) hx hb hts (iT_X5_sheet_X5) hown hK hP 0 rfl rfl 9 (by decide) (hts (.fieldLink RX5 31 "WordSupperModel" "sizes" "[I") (by decide +kernel)) (fun _ h9 => h9) rfl dX5_sheet_77 ?_
            refine lv_iload_n hx hb dX5_sheet_80 rfl (lv_at hl 1 rfl) ?_
            refine lv_iload_n hx hb dX5_sheet_81 rfl (lv_at hl 2 rfl) ?_
            refine x_if_ne (tgt := 89) hx hb (by omega) dX5_sheet_82 (by decide) (fun c_82 => ?_) (fun c_82 => ?_)
            · refine lv_iload_n hx hb dX5_sheet_89 rfl (lv_at hl 3 rfl) ?_
              refine x_iast hx hb hK hP hD hS 8 0 rfl rfl s1 rfl (by omega) (by decide) (wRo r ik tn j ++ (wA cI (r 1) 100 T ++ (wA cI (r 2) 100 K ++ (wA cI (r 3) 100 X ++ (wA cI (r 4) 100 Y ++ (wA cI (r 5) 8 (fR F) ++ (wA cI (r 6) 120 TB ++ (wA cI (r 7) 4 (bR (va_up SB s1 bt)) ++ (wA cI (r 8) 4 (va_up SS s1 n) ++ (wA cI (r 9) 160 SN)))))))))) (by rw [← wA_up cI (r 8) 4 SS n s1 (by omega)]; rfl) dX5_sheet_90 (fun H locs hP hD hS => ?_)
              refine x_iconst hx hb dX5_sheet_91 ?_
              refine lv_istore (lv' := [(4, .int (iI 0)), (0, .ref (r 0)), (1, .int (iI ((s1 : Nat) : Int))), (2, .int (iI bt)), (3, .int (iI n))]) hx hb dX5_sheet_92 hl (by decide) rfl (fun ls hl => ?_)
              have L94 : ∀ (k t : Nat) (Nt : Nat → Int) (H : Heap) (locs : List Loc) (ls : Array Slot), t + k = 40 → (zeF (40 * s1) k t Nt = zeF (40 * s1) 40 0 SN) → va_P D vwCl (wRo r ik tn j ++ (wA cI (r 1) 100 T ++ (wA cI (r 2) 100 K ++ (wA cI (r 3) 100 X ++ (wA cI (r 4) 100 Y ++ (wA cI (r 5) 8 (fR F) ++ (wA cI (r 6) 120 TB ++ (wA cI (r 7) 4 (bR (va_up SB s1 bt)) ++ (wA cI (r 8) 4 (va_up SS s1 n) ++ (wA cI (r 9) 160 Nt)))))))))) H → va_D A (wRo r ik tn j ++ (wA cI (r 1) 100 T ++ (wA cI (r 2) 100 K ++ (wA cI (r 3) 100 X ++ (wA cI (r 4) 100 Y ++ (wA cI (r 5) 8 (fR F) ++ (wA cI (r 6) 120 TB ++ (wA cI (r 7) 4 (bR (va_up SB s1 bt)) ++ (wA cI (r 8) 4 (va_up SS s1 n) ++ (wA cI (r 9) 160 Nt)))))))))) → va_S A s.heap H locs → lv_has ls 5 [(0, .ref (r 0)), (1, .int (iI ((s1 : Nat) : Int))), (2, .int (iI bt)), (3, .int (iI n)), (4, .int (iI ((t : Nat) : Int)))] → W pg l e { frames := 1, cells := 0, slots := 0, locals := 21 } s m args below meth c H locs 0 0 Q (F0 m 94 ls []) := by
                intro k
                induction k with
                | zero =>
                  intro t Nt H locs ls hkt hr hP hD hS hl
                  refine lv_iload hx hb dX5_sheet_94 (lv_at hl 4 rfl) ?_
                  refine x_bipush hx hb dX5_sheet_96 (by decide) ?_
                  refine x_icmp_ge (tgt := 120) hx hb (by omega) (by decide) dX5_sheet_98 (by decide) (fun c_98 => ?_) (fun c_98 => ?_)
                  · refine lv_aload_n hx hb dX5_sheet_120 rfl (lv_at hl 0 rfl) ?_
                    refine va_get (D := D) (ci := 4) (v := .ref (r 8)) (C := RX5) (T := TX5) (N := 18) hx hb hts (iT_X5_sheet_X5) hown hK hP 0 rfl rfl 9 (by decide) (hts (.fieldLink RX5 31 "WordSupperModel" "sizes" "[I") (by decide +kernel)) (fun _ h9 => h9) rfl dX5_sheet_121 ?_
                    refine lv_iload_n hx hb dX5_sheet_124 rfl (lv_at hl 1 rfl) ?_
                    refine x_iald hx hb hK hP 8 0 rfl rfl s1 rfl (by omega) (by decide) ((va_up SS s1 n) s1) (gd_at _ (by omega)) dX5_sheet_125 ?_
                    exact kend (((va_up SS s1 n) s1, T, K, ik, (va_up SB s1 bt), (va_up SS s1 n), Nt, tn, TB, F), X, Y, j) hP hS rfl (by unfold m_sheet; rw [if_neg (by omega), if_neg (by omega), if_neg (by omega), if_neg (by omega), Int.toNat_natCast, ← hr, up_s] <;> rfl) dX5_sheet_126
                  · exfalso; omega
                | succ k ih =>
                  intro t Nt H locs ls hkt hr hP hD hS hl
                  refine lv_iload hx hb dX5_sheet_94 (lv_at hl 4 rfl) ?_
                  refine x_bipush hx hb dX5_sheet_96 (by decide) ?_
                  refine x_icmp_ge (tgt := 120) hx hb (by omega) (by decide) dX5_sheet_98 (by decide) (fun c_98 => ?_) (fun c_98 => ?_)
                  · exfalso; omega
                  · refine lv_aload_n hx hb dX5_sheet_101 rfl (lv_at hl 0 rfl) ?_
                    refine va_get (D := D) (ci := 4) (v := .ref (r 9)) (C := RX5) (T := TX5) (N := 18) hx hb hts (iT_X5_sheet_X5) hown hK hP 0 rfl rfl 10 (by decide) (hts (.fieldLink RX5 34 "WordSupperModel" "numbers" "[I") (by decide +kernel)) (fun _ h9 => h9) rfl dX5_sheet_102 ?_
                    refine x_bipush hx hb dX5_sheet_105 (by decide) ?_
                    refine lv_iload_n hx hb dX5_sheet_107 rfl (lv_at hl 1 rfl) ?_
                    refine x_imul hx hb dX5_sheet_108 ?_
                    refine x_topi ((40 * s1 : Nat) : Int) (by omega) ?_
                    refine lv_iload hx hb dX5_sheet_109 (lv_at hl 4 rfl) ?_
                    refine x_iadd hx hb dX5_sheet_111 ?_
                    refine x_topi (((40 * s1) + t : Nat) : Int) (by omega) ?_
                    refine x_iconst hx hb dX5_sheet_112 ?_
                    refine x_iast hx hb hK hP hD hS 9 0 rfl rfl ((40 * s1) + t) rfl (by omega) (by decide) (wRo r ik tn j ++ (wA cI (r 1) 100 T ++ (wA cI (r 2) 100 K ++ (wA cI (r 3) 100 X ++ (wA cI (r 4) 100 Y ++ (wA cI (r 5) 8 (fR F) ++ (wA cI (r 6) 120 TB ++ (wA cI (r 7) 4 (bR (va_up SB s1 bt)) ++ (wA cI (r 8) 4 (va_up SS s1 n) ++ (wA cI (r 9) 160 (va_up Nt ((40 * s1) + t) 0))))))))))) (by rw [← wA_up cI (r 9) 160 Nt 0 ((40 * s1) + t) (by omega)]; rfl) dX5_sheet_113 (fun H locs hP hD hS => ?_)
                    refine x_iinc hx hb 4 ((t + 1 : Nat) : Int) (by omega) [(4, .int (iI ((t + 1 : Nat) : Int))), (0, .ref (r 0)), (1, .int (iI ((s1 : Nat) : Int))), (2, .int (iI bt)), (3, .int (iI n))] dX5_sheet_114 hl rfl (by decide) rfl (fun ls hl => ?_)
                    refine lv_goto (tgt := 94) hx hb dX5_sheet_117 (by decide) ?_
                    exact ih (t + 1) (va_up Nt ((40 * s1) + t) 0) _ _ _ (by omega) hr hP hD hS (lv_sub hl [1, 2, 3, 4, 0] rfl)
              exact L94 40 0 SN _ _ _ (by omega) rfl hP hD hS (lv_sub hl [1, 2, 3, 4, 0] rfl)
            · refine x_iconst hx hb dX5_sheet_85 ?_
              refine lv_goto (tgt := 90) hx hb dX5_sheet_86 (by decide) ?_
              refine x_iast hx hb hK hP hD hS 8 0 rfl rfl s1 rfl (by omega) (by decide) (wRo r ik tn j ++ (wA cI (r 1) 100 T ++ (wA cI (r 2) 100 K ++ (wA cI (r 3) 100 X ++ (wA cI (r 4) 100 Y ++ (wA cI (r 5) 8 (fR F) ++ (wA cI (r 6) 120 TB ++ (wA cI (r 7) 4 (bR (va_up SB s1 bt)) ++ (wA cI (r 8) 4 (va_up SS s1 0) ++ (wA cI (r 9) 160 SN)))))))))) (by rw [← wA_up cI (r 8) 4 SS 0 s1 (by omega)]; rfl) dX5_sheet_90 (fun H locs hP hD hS => ?_)
              refine x_iconst hx hb dX5_sheet_91 ?_
              refine lv_istore (lv' := [(4, .int (iI 0)), (0, .ref (r 0)), (1, .int (iI ((s1 : Nat) : Int))), (2, .int (iI bt)), (3, .int (iI n))]) hx hb dX5_sheet_92 hl (by decide) rfl (fun ls hl => ?_)
              have L94 : ∀ (k t : Nat) (Nt : Nat → Int) (H : Heap) (locs : List Loc) (ls : Array Slot), t + k = 40 → (zeF (40 * s1) k t Nt = zeF (40 * s1) 40 0 SN) → va_P D vwCl (wRo r ik tn j ++ (wA cI (r 1) 100 T ++ (wA cI (r 2) 100 K ++ (wA cI (r 3) 100 X ++ (wA cI (r 4) 100 Y ++ (wA cI (r 5) 8 (fR F) ++ (wA cI (r 6) 120 TB ++ (wA cI (r 7) 4 (bR (va_up SB s1 bt)) ++ (wA cI (r 8) 4 (va_up SS s1 0) ++ (wA cI (r 9) 160 Nt)))))))))) H → va_D A (wRo r ik tn j ++ (wA cI (r 1) 100 T ++ (wA cI (r 2) 100 K ++ (wA cI (r 3) 100 X ++ (wA cI (r 4) 100 Y ++ (wA cI (r 5) 8 (fR F) ++ (wA cI (r 6) 120 TB ++ (wA cI (r 7) 4 (bR (va_up SB s1 bt)) ++ (wA cI (r 8) 4 (va_up SS s1 0) ++ (wA cI (r 9) 160 Nt)))))))))) → va_S A s.heap H locs → lv_has ls 5 [(0, .ref (r 0)), (1, .int (iI ((s1 : Nat) : Int))), (2, .int (iI bt)), (3, .int (iI n)), (4, .int (iI ((t : Nat) : Int)))] → W pg l e { frames := 1, cells := 0, slots := 0, locals := 21 } s m args below meth c H locs 0 0 Q (F0 m 94 ls []) := by
                intro k
                induction k with
                | zero =>
                  intro t Nt H locs ls hkt hr hP hD hS hl
                  refine lv_iload hx hb dX5_sheet_94 (lv_at hl 4 rfl) ?_
                  refine x_bipush hx hb dX5_sheet_96 (by decide) ?_
                  refine x_icmp_ge (tgt := 120) hx hb (by omega) (by decide) dX5_sheet_98 (by decide) (fun c_98 => ?_) (fun c_98 => ?_)
                  · refine lv_aload_n hx hb dX5_sheet_120 rfl (lv_at hl 0 rfl) ?_
                    refine va_get (D := D) (ci := 4) (v := .ref (r 8)) (C := RX5) (T := TX5) (N := 18) hx hb hts (iT_X5_sheet_X5) hown hK hP 0 rfl rfl 9 (by decide) (hts (.fieldLink RX5 31 "WordSupperModel" "sizes" "[I") (by decide +kernel)) (fun _ h9 => h9) rfl dX5_sheet_121 ?_
                    refine lv_iload_n hx hb dX5_sheet_124 rfl (lv_at hl 1 rfl) ?_
                    refine x_iald hx hb hK hP 8 0 rfl rfl s1 rfl (by omega) (by decide) ((va_up SS s1 0) s1) (gd_at _ (by omega)) dX5_sheet_125 ?_
                    exact kend (((va_up SS s1 0) s1, T, K, ik, (va_up SB s1 bt), (va_up SS s1 0), Nt, tn, TB, F), X, Y, j) hP hS rfl (by unfold m_sheet; rw [if_neg (by omega), if_neg (by omega), if_neg (by omega), if_neg (by omega), Int.toNat_natCast, ← hr, up_s] <;> rfl) dX5_sheet_126
                  · exfalso; omega
                | succ k ih =>
                  intro t Nt H locs ls hkt hr hP hD hS hl
                  refine lv_iload hx hb dX5_sheet_94 (lv_at hl 4 rfl) ?_
                  refine x_bipush hx hb dX5_sheet_96 (by decide) ?_
                  refine x_icmp_ge (tgt := 120) hx hb (by omega) (by decide) dX5_sheet_98 (by decide) (fun c_98 => ?_) (fun c_98 => ?_)
                  · exfalso; omega
                  · refine lv_aload_n hx hb dX5_sheet_101 rfl (lv_at hl 0 rfl) ?_
                    refine va_get (D := D) (ci := 4) (v := .ref (r 9)) (C := RX5) (T := TX5) (N := 18) hx hb hts (iT_X5_sheet_X5) hown hK hP 0 rfl rfl 10 (by decide) (hts (.fieldLink RX5 34 "WordSupperModel" "numbers" "[I") (by decide +kernel)) (fun _ h9 => h9) rfl dX5_sheet_102 ?_
                    refine x_bipush hx hb dX5_sheet_105 (by decide) ?_
                    refine lv_iload_n hx hb dX5_sheet_107 rfl (lv_at hl 1 rfl) ?_
                    refine x_imul hx hb dX5_sheet_108 ?_
                    refine x_topi ((40 * s1 : Nat) : Int) (by omega) ?_
                    refine lv_iload hx hb dX5_sheet_109 (lv_at hl 4 rfl) ?_
                    refine x_iadd hx hb dX5_sheet_111 ?_
                    refine x_topi (((40 * s1) + t : Nat) : Int) (by omega) ?_
                    refine x_iconst hx hb dX5_sheet_112 ?_
                    refine x_iast hx hb hK hP hD hS 9 0 rfl rfl ((40 * s1) + t) rfl (by omega) (by decide) (wRo r ik tn j ++ (wA cI (r 1) 100 T ++ (wA cI (r 2) 100 K ++ (wA cI (r 3) 100 X ++ (wA cI (r 4) 100 Y ++ (wA cI (r 5) 8 (fR F) ++ (wA cI (r 6) 120 TB ++ (wA cI (r 7) 4 (bR (va_up SB s1 bt)) ++ (wA cI (r 8) 4 (va_up SS s1 0) ++ (wA cI (r 9) 160 (va_up Nt ((40 * s1) + t) 0))))))))))) (by rw [← wA_up cI (r 9) 160 Nt 0 ((40 * s1) + t) (by omega)]; rfl) dX5_sheet_113 (fun H locs hP hD hS => ?_)
                    refine x_iinc hx hb 4 ((t + 1 : Nat) : Int) (by omega) [(4, .int (iI ((t + 1 : Nat) : Int))), (0, .ref (r 0)), (1, .int (iI ((s1 : Nat) : Int))), (2, .int (iI bt)), (3, .int (iI n))] dX5_sheet_114 hl rfl (by decide) rfl (fun ls hl => ?_)
                    refine lv_goto (tgt := 94) hx hb dX5_sheet_117 (by decide) ?_
                    exact ih (t + 1) (va_up Nt ((40 * s1) + t) 0) _ _ _ (by omega) hr hP hD hS (lv_sub hl [1, 2, 3, 4, 0] rfl)
              exact L94 40 0 SN _ _ _ (by omega) rfl hP hD hS (lv_sub hl [1, 2, 3, 4, 0] rfl)
          · obtain rfl : bt = 0 := by omega
            refine x_iconst hx hb dX5_sheet_70 ?_
            refine lv_goto (tgt := 75) hx hb dX5_sheet_71 (by decide) ?_
            refine x_iast hx hb hK hP hD hS 7 0 rfl rfl s1 rfl (by omega) (by decide) (wRo r ik tn j ++ (wA cI (r 1) 100 T ++ (wA cI (r 2) 100 K ++ (wA cI (r 3) 100 X ++ (wA cI (r 4) 100 Y ++ (wA cI (r 5) 8 (fR F) ++ (wA cI (r 6) 120 TB ++ (wA cI (r 7) 4 (va_up (bR SB) s1 (-1)) ++ (wA cI (r 8) 4 SS ++ (wA cI (r 9) 160 SN)))))))))) (by rw [← wA_up cI (r 7) 4 (bR SB) (-1) s1 (by omega)]; rfl) dX5_sheet_75 (fun H locs hP hD hS => ?_)
            rw [bR_up0] at hP hD
            refine lv_aload_n hx hb dX5_sheet_76 rfl (lv_at hl 0 rfl) ?_
            refine va_get (D := D) (ci := 4) (v := .ref (r 8)) (C := RX5) (T := TX5) (N := 18) hx hb hts (iT_X5_sheet_X5) hown hK hP 0 rfl rfl 9 (by decide) (hts (.fieldLink RX5 31 "WordSupperModel" "sizes" "[I") (by decide +kernel)) (fun _ h9 => h9) rfl dX5_sheet_77 ?_
            refine lv_iload_n hx hb dX5_sheet_80 rfl (lv_at hl 1 rfl) ?_
            refine lv_iload_n hx hb dX5_sheet_81 rfl (lv_at hl 2 rfl) ?_
            refine x_if_ne (tgt := 89) hx hb (by decide) dX5_sheet_82 (by decide) (fun c_82 => ?_) (fun c_82 => ?_)
            · exact absurd c_82 (by decide)
            · refine x_iconst hx hb dX5_sheet_85 ?_
              refine lv_goto (tgt := 90) hx hb dX5_sheet_86 (by decide) ?_
              refine x_iast hx hb hK hP hD hS 8 0 rfl rfl s1 rfl (by omega) (by decide) (wRo r ik tn j ++ (wA cI (r 1) 100 T ++ (wA cI (r 2) 100 K ++ (wA cI (r 3) 100 X ++ (wA cI (r 4) 100 Y ++ (wA cI (r 5) 8 (fR F) ++ (wA cI (r 6) 120 TB ++ (wA cI (r 7) 4 (bR (va_up SB s1 0)) ++ (wA cI (r 8) 4 (va_up SS s1 0) ++ (wA cI (r 9) 160 SN)))))))))) (by rw [← wA_up cI (r 8) 4 SS 0 s1 (by omega)]; rfl) dX5_sheet_90 (fun H locs hP hD hS => ?_)
              refine x_iconst hx hb dX5_sheet_91 ?_
              refine lv_istore (lv' := [(4, .int (iI 0)), (0, .ref (r 0)), (1, .int (iI ((s1 : Nat) : Int))), (2, .int (iI 0)), (3, .int (iI n))]) hx hb dX5_sheet_92 hl (by decide) rfl (fun ls hl => ?_)
              have L94 : ∀ (k t : Nat) (Nt : Nat → Int) (H : Heap) (locs : List Loc) (ls : Array Slot), t + k = 40 → (zeF (40 * s1) k t Nt = zeF (40 * s1) 40 0 SN) → va_P D vwCl (wRo r ik tn j ++ (wA cI (r 1) 100 T ++ (wA cI (r 2) 100 K ++ (wA cI (r 3) 100 X ++ (wA cI (r 4) 100 Y ++ (wA cI (r 5) 8 (fR F) ++ (wA cI (r 6) 120 TB ++ (wA cI (r 7) 4 (bR (va_up SB s1 0)) ++ (wA cI (r 8) 4 (va_up SS s1 0) ++ (wA cI (r 9) 160 Nt)))))))))) H → va_D A (wRo r ik tn j ++ (wA cI (r 1) 100 T ++ (wA cI (r 2) 100 K ++ (wA cI (r 3) 100 X ++ (wA cI (r 4) 100 Y ++ (wA cI (r 5) 8 (fR F) ++ (wA cI (r 6) 120 TB ++ (wA cI (r 7) 4 (bR (va_up SB s1 0)) ++ (wA cI (r 8) 4 (va_up SS s1 0) ++ (wA cI (r 9) 160 Nt)))))))))) → va_S A s.heap H locs → lv_has ls 5 [(0, .ref (r 0)), (1, .int (iI ((s1 : Nat) : Int))), (2, .int (iI 0)), (3, .int (iI n)), (4, .int (iI ((t : Nat) : Int)))] → W pg l e { frames := 1, cells := 0, slots := 0, locals := 21 } s m args below meth c H locs 0 0 Q (F0 m 94 ls []) := by
                intro k
                induction k with
                | zero =>
                  intro t Nt H locs ls hkt hr hP hD hS hl
                  refine lv_iload hx hb dX5_sheet_94 (lv_at hl 4 rfl) ?_
                  refine x_bipush hx hb dX5_sheet_96 (by decide) ?_
                  refine x_icmp_ge (tgt := 120) hx hb (by omega) (by decide) dX5_sheet_98 (by decide) (fun c_98 => ?_) (fun c_98 => ?_)
                  · refine lv_aload_n hx hb dX5_sheet_120 rfl (lv_at hl 0 rfl) ?_
                    refine va_get (D := D) (ci := 4) (v := .ref (r 8)) (C := RX5) (T := TX5) (N := 18) hx hb hts (iT_X5_sheet_X5) hown hK hP 0 rfl rfl 9 (by decide) (hts (.fieldLink RX5 31 "WordSupperModel" "sizes" "[I") (by decide +kernel)) (fun _ h9 => h9) rfl dX5_sheet_121 ?_
                    refine lv_iload_n hx hb dX5_sheet_124 rfl (lv_at hl 1 rfl) ?_
                    refine x_iald hx hb hK hP 8 0 rfl rfl s1 rfl (by omega) (by decide) ((va_up SS s1 0) s1) (gd_at _ (by omega)) dX5_sheet_125 ?_
                    exact kend (((va_up SS s1 0) s1, T, K, ik, (va_up SB s1 0), (va_up SS s1 0), Nt, tn, TB, F), X, Y, j) hP hS rfl (by unfold m_sheet; rw [if_neg (by omega), if_neg (by omega), if_neg (by omega), if_pos rfl, Int.toNat_natCast, ← hr, up_s] <;> rfl) dX5_sheet_126
                  · exfalso; omega
                | succ k ih =>
                  intro t Nt H locs ls hkt hr hP hD hS hl
                  refine lv_iload hx hb dX5_sheet_94 (lv_at hl 4 rfl) ?_
                  refine x_bipush hx hb dX5_sheet_96 (by decide) ?_
                  refine x_icmp_ge (tgt := 120) hx hb (by omega) (by decide) dX5_sheet_98 (by decide) (fun c_98 => ?_) (fun c_98 => ?_)
                  · exfalso; omega
                  · refine lv_aload_n hx hb dX5_sheet_101 rfl (lv_at hl 0 rfl) ?_
                    refine va_get (D := D) (ci := 4) (v := .ref (r 9)) (C := RX5) (T := TX5) (N := 18) hx hb hts (iT_X5_sheet_X5) hown hK hP 0 rfl rfl 10 (by decide) (hts (.fieldLink RX5 34 "WordSupperModel" "numbers" "[I") (by decide +kernel)) (fun _ h9 => h9) rfl dX5_sheet_102 ?_
                    refine x_bipush hx hb dX5_sheet_105 (by decide) ?_
                    refine lv_iload_n hx hb dX5_sheet_107 rfl (lv_at hl 1 rfl) ?_
                    refine x_imul hx hb dX5_sheet_108 ?_
                    refine x_topi ((40 * s1 : Nat) : Int) (by omega) ?_
                    refine lv_iload hx hb dX5_sheet_109 (lv_at hl 4 rfl) ?_
                    refine x_iadd hx hb dX5_sheet_111 ?_
                    refine x_topi (((40 * s1) + t : Nat) : Int) (by omega) ?_
                    refine x_iconst hx hb dX5_sheet_112 ?_
                    refine x_iast hx hb hK hP hD hS 9 0 rfl rfl ((40 * s1) + t) rfl (by omega) (by decide) (wRo r ik tn j ++ (wA cI (r 1) 100 T ++ (wA cI (r 2) 100 K ++ (wA cI (r 3) 100 X ++ (wA cI (r 4) 100 Y ++ (wA cI (r 5) 8 (fR F) ++ (wA cI (r 6) 120 TB ++ (wA cI (r 7) 4 (bR (va_up SB s1 0)) ++ (wA cI (r 8) 4 (va_up SS s1 0) ++ (wA cI (r 9) 160 (va_up Nt ((40 * s1) + t) 0))))))))))) (by rw [← wA_up cI (r 9) 160 Nt 0 ((40 * s1) + t) (by omega)]; rfl) dX5_sheet_113 (fun H locs hP hD hS => ?_)
                    refine x_iinc hx hb 4 ((t + 1 : Nat) : Int) (by omega) [(4, .int (iI ((t + 1 : Nat) : Int))), (0, .ref (r 0)), (1, .int (iI ((s1 : Nat) : Int))), (2, .int (iI 0)), (3, .int (iI n))] dX5_sheet_114 hl rfl (by decide) rfl (fun ls hl => ?_)
                    refine lv_goto (tgt := 94) hx hb dX5_sheet_117 (by decide) ?_
                    exact ih (t + 1) (va_up Nt ((40 * s1) + t) 0) _ _ _ (by omega) hr hP hD hS (lv_sub hl [1, 2, 3, 4, 0] rfl)
              exact L94 40 0 SN _ _ _ (by omega) rfl hP hD hS (lv_sub hl [1, 2, 3, 4, 0] rfl)
        · refine lv_aload_n hx hb dX5_sheet_54 rfl (lv_at hl 0 rfl) ?_
          refine x_ldc hx hb (-1000001) rfl hown (hts (.constant RX5 37 (-1000001)) (by decide +kernel)) dX5_sheet_55 ?_
          refine x_callV (As := [.int (iI (-1000001))]) (rest := []) ⟨hx, hb, hml, hown, hts⟩ (kX5_finds r ik tn j F (-1000001) 0 (by omega) (by omega)) (cwV 1 hts gX5_sheet_X5_finds rfl rfl rfl ykVX5_finds ⟨Nat.le_of_ble_eq_true rfl, Nat.le_of_ble_eq_true rfl⟩) hP hK hD hS 0 4 rfl rfl rfl [0, 5] rfl (by decide) (fun _ => rfl) (fun _ => wRo r ik tn j ++ (wA cI (r 1) 100 T ++ (wA cI (r 2) 100 K ++ (wA cI (r 3) 100 X ++ (wA cI (r 4) 100 Y ++ (wA cI (r 5) 8 (fR (bmp 0 F)) ++ (wA cI (r 6) 120 TB ++ (wA cI (r 7) 4 (bR SB) ++ (wA cI (r 8) 4 SS ++ (wA cI (r 9) 160 SN)))))))))) (fun _ => rfl) rfl hl.1 rfl (Nat.le_of_ble_eq_true rfl) dX5_sheet_57 ⟨Nat.le_of_ble_eq_true rfl, Nat.le_of_ble_eq_true rfl⟩ (fun _ H locs _ hP hD hS => ?_)
          refine W.eq (g2 := F0 m 60 ls [.int (iI (-1000001))]) rfl ?_
          exact kend (((-1000001), T, K, ik, SB, SS, SN, tn, TB, (bmp 0 F)), X, Y, j) hP hS rfl (by first | exact ((if_pos (by omega))).symm | exact (((if_neg (by omega)).trans ((if_neg (by omega)).trans (if_pos (by omega))))).symm) dX5_sheet_60
      · refine lv_aload_n hx hb dX5_sheet_40 rfl (lv_at hl 0 rfl) ?_
        refine x_ldcw hx hb (-1000007) rfl hown (hts (.constant RX5 281 (-1000007)) (by decide +kernel)) dX5_sheet_41 ?_
        refine x_callV (As := [.int (iI (-1000007))]) (rest := []) ⟨hx, hb, hml, hown, hts⟩ (kX5_finds r ik tn j F (-1000007) 6 (by omega) (by omega)) (cwV 1 hts gX5_sheet_X5_finds rfl rfl rfl ykVX5_finds ⟨Nat.le_of_ble_eq_true rfl, Nat.le_of_ble_eq_true rfl⟩) hP hK hD hS 0 4 rfl rfl rfl [0, 5] rfl (by decide) (fun _ => rfl) (fun _ => wRo r ik tn j ++ (wA cI (r 1) 100 T ++ (wA cI (r 2) 100 K ++ (wA cI (r 3) 100 X ++ (wA cI (r 4) 100 Y ++ (wA cI (r 5) 8 (fR (bmp 6 F)) ++ (wA cI (r 6) 120 TB ++ (wA cI (r 7) 4 (bR SB) ++ (wA cI (r 8) 4 SS ++ (wA cI (r 9) 160 SN)))))))))) (fun _ => rfl) rfl hl.1 rfl (Nat.le_of_ble_eq_true rfl) dX5_sheet_44 ⟨Nat.le_of_ble_eq_true rfl, Nat.le_of_ble_eq_true rfl⟩ (fun _ H locs _ hP hD hS => ?_)
        refine W.eq (g2 := F0 m 47 ls [.int (iI (-1000007))]) rfl ?_
        exact kend (((-1000007), T, K, ik, SB, SS, SN, tn, TB, (bmp 6 F)), X, Y, j) hP hS rfl (((if_neg (by omega)).trans (if_pos (by omega)))).symm dX5_sheet_47
    · refine lv_iload_n hx hb dX5_sheet_11 rfl (lv_at hl 2 rfl) ?_
      refine x_bipush hx hb dX5_sheet_12 (by decide) ?_
      refine x_icmp_eq (tgt := 36) hx hb (by omega) (by decide) dX5_sheet_14 (by decide) (fun c_14 => ?_) (fun c_14 => ?_)
      · refine lv_iload_n hx hb dX5_sheet_36 rfl (lv_at hl 3 rfl) ?_
        refine x_if_ge (tgt := 48) hx hb (by omega) dX5_sheet_37 (by decide) (fun c_37 => ?_) (fun c_37 => ?_)
        · refine lv_iload_n hx hb dX5_sheet_48 rfl (lv_at hl 3 rfl) ?_
          refine x_bipush hx hb dX5_sheet_49 (by decide) ?_
          refine x_icmp_le (tgt := 61) hx hb (by omega) (by decide) dX5_sheet_51 (by decide) (fun c_51 => ?_) (fun c_51 => ?_)
          · obtain ⟨s1, rfl⟩ : ∃ s1 : Nat, s0 = (s1 : Int) := ⟨s0.toNat, by omega⟩
            refine lv_aload_n hx hb dX5_sheet_61 rfl (lv_at hl 0 rfl) ?_
            refine va_get (D := D) (ci := 4) (v := .ref (r 7)) (C := RX5) (T := TX5) (N := 18) hx hb hts (iT_X5_sheet_X5) hown hK hP 0 rfl rfl 8 (by decide) (hts (.fieldLink RX5 28 "WordSupperModel" "bitsOf" "[I") (by decide +kernel)) (fun _ h9 => h9) rfl dX5_sheet_62 ?_
            refine lv_iload_n hx hb dX5_sheet_65 rfl (lv_at hl 1 rfl) ?_
            refine lv_iload_n hx hb dX5_sheet_66 rfl (lv_at hl 2 rfl) ?_
            refine x_if_ne (tgt := 74) hx hb (by omega) dX5_sheet_67 (by decide) (fun c_67 => ?_) (fun c_67 => ?_)
            · refine lv_iload_n hx hb dX5_sheet_74 rfl (lv_at hl 2 rfl) ?_
              refine x_iast hx hb hK hP hD hS 7 0 rfl rfl s1 rfl (by omega) (by decide) (wRo r ik tn j ++ (wA cI (r 1) 100 T ++ (wA cI (r 2) 100 K ++ (wA cI (r 3) 100 X ++ (wA cI (r 4) 100 Y ++ (wA cI (r 5) 8 (fR F) ++ (wA cI (r 6) 120 TB ++ (wA cI (r 7) 4 (va_up (bR SB) s1 bt) ++ (wA cI (r 8) 4 SS ++ (wA cI (r 9) 160 SN)))))))))) (by rw [← wA_up cI (r 7) 4 (bR SB) bt s1 (by omega)]; rfl) dX5_sheet_75 (fun H locs hP hD hS => ?_)
              rw [bR_up1 _ _ (show bt ≠ 0 by omega)] at hP hD
              refine lv_aload_n hx hb dX5_sheet_76 rfl (lv_at hl 0 rfl) ?_
              refine va_get (D := D) (ci := 4) (v := .ref (r 8)) (C := RX5) (T := TX5) (N := 18) hx hb hts (iT_X5_sheet_X5) hown hK hP 0 rfl rfl 9 (by decide) (hts (.fieldLink RX5 31 "WordSupperModel" "sizes" "[I") (by decide +kernel)) (fun _ h9 => h9) rfl dX5_sheet_77 ?_
              refine lv_iload_n hx hb dX5_sheet_80 rfl (lv_at hl 1 rfl) ?_
              refine lv_iload_n hx hb dX5_sheet_81 rfl (lv_at hl 2 rfl) ?_
              refine x_if_ne (tgt := 89) hx hb (by omega) dX5_sheet_82 (by decide) (fun c_82 => ?_) (fun c_82 => ?_)
              · refine lv_iload_n hx hb dX5_sheet_89 rfl (lv_at hl 3 rfl) ?_
                refine x_iast hx hb hK hP hD hS 8 0 rfl rfl s1 rfl (by omega) (by decide) (wRo r ik tn j ++ (wA cI (r 1) 100 T ++ (wA cI (r 2) 100 K ++ (wA cI (r 3) 100 X ++ (wA cI (r 4) 100 Y ++ (wA cI (r 5) 8 (fR F) ++ (wA cI (r 6) 120 TB ++ (wA cI (r 7) 4 (bR (va_up SB s1 bt)) ++ (wA cI (r 8) 4 (va_up SS s1 n) ++ (wA cI (r 9) 160 SN)))))))))) (by rw [← wA_up cI (r 8) 4 SS n s1 (by omega)]; rfl) dX5_sheet_90 (fun H locs hP hD hS => ?_)
                refine x_iconst hx hb dX5_sheet_91 ?_
                refine lv_istore (lv' := [(4, .int (iI 0)), (0, .ref (r 0)), (1, .int (iI ((s1 : Nat) : Int))), (2, .int (iI bt)), (3, .int (iI n))]) hx hb dX5_sheet_92 hl (by decide) rfl (fun ls hl => ?_)
                have L94 : ∀ (k t : Nat) (Nt : Nat → Int) (H : Heap) (locs : List Loc) (ls : Array Slot), t + k = 40 → (zeF (40 * s1) k t Nt = zeF (40 * s1) 40 0 SN) → va_P D vwCl (wRo r ik tn j ++ (wA cI (r 1) 100 T ++ (wA cI (r 2) 100 K ++ (wA cI (r 3) 100 X ++ (wA cI (r 4) 100 Y ++ (wA cI (r 5) 8 (fR F) ++ (wA cI (r 6) 120 TB ++ (wA cI (r 7) 4 (bR (va_up SB s1 bt)) ++ (wA cI (r 8) 4 (va_up SS s1 n) ++ (wA cI (r 9) 160 Nt)))))))))) H → va_D A (wRo r ik tn j ++ (wA cI (r 1) 100 T ++ (wA cI (r 2) 100 K ++ (wA cI (r 3) 100 X ++ (wA cI (r 4) 100 Y ++ (wA cI (r 5) 8 (fR F) ++ (wA cI (r 6) 120 TB ++ (wA cI (r 7) 4 (bR (va_up SB s1 bt)) ++ (wA cI (r 8) 4 (va_up SS s1 n) ++ (wA cI (r 9) 160 Nt)))))))))) → va_S A s.heap H locs → lv_has ls 5 [(0, .ref (r 0)), (1, .int (iI ((s1 : Nat) : Int))), (2, .int (iI bt)), (3, .int (iI n)), (4, .int (iI ((t : Nat) : Int)))] → W pg l e { frames := 1, cells := 0, slots := 0, locals := 21 } s m args below meth c H locs 0 0 Q (F0 m 94 ls []) := by
                  intro k
                  induction k with
                  | zero =>
                    intro t Nt H locs ls hkt hr hP hD hS hl
                    refine lv_iload hx hb dX5_sheet_94 (lv_at hl 4 rfl) ?_
                    refine x_bipush hx hb dX5_sheet_96 (by decide) ?_
                    refine x_icmp_ge (tgt := 120) hx hb (by omega) (by decide) dX5_sheet_98 (by decide) (fun c_98 => ?_) (fun c_98 => ?_)
                    · refine lv_aload_n hx hb dX5_sheet_120 rfl (lv_at hl 0 rfl) ?_
                      refine va_get (D := D) (ci := 4) (v := .ref (r 8)) (C := RX5) (T := TX5) (N := 18) hx hb hts (iT_X5_sheet_X5) hown hK hP 0 rfl rfl 9 (by decide) (hts (.fieldLink RX5 31 "WordSupperModel" "sizes" "[I") (by decide +kernel)) (fun _ h9 => h9) rfl dX5_sheet_121 ?_
                      refine lv_iload_n hx hb dX5_sheet_124 rfl (lv_at hl 1 rfl) ?_
                      refine x_iald hx hb hK hP 8 0 rfl rfl s1 rfl (by omega) (by decide) ((va_up SS s1 n) s1) (gd_at _ (by omega)) dX5_sheet_125 ?_
                      exact kend (((va_up SS s1 n) s1, T, K, ik, (va_up SB s1 bt), (va_up SS s1 n), Nt, tn, TB, F), X, Y, j) hP hS rfl (by unfold m_sheet; rw [if_neg (by omega), if_neg (by omega), if_neg (by omega), if_neg (by omega), Int.toNat_natCast, ← hr, up_s] <;> rfl) dX5_sheet_126
                    · exfalso; omega
                  | succ k ih =>
                    intro t Nt H locs ls hkt hr hP hD hS hl
                    refine lv_iload hx hb dX5_sheet_94 (lv_at hl 4 rfl) ?_
                    refine x_bipush hx hb dX5_sheet_96 (by decide) ?_
                    refine x_icmp_ge (tgt := 120) hx hb (by omega) (by decide) dX5_sheet_98 (by decide) (fun c_98 => ?_) (fun c_98 => ?_)
                    · exfalso; omega
                    · refine lv_aload_n hx hb dX5_sheet_101 rfl (lv_at hl 0 rfl) ?_
                      refine va_get (D := D) (ci := 4) (v := .ref (r 9)) (C := RX5) (T := TX5) (N := 18) hx hb hts (iT_X5_sheet_X5) hown hK hP 0 rfl rfl 10 (by decide) (hts (.fieldLink RX5 34 "WordSupperModel" "numbers" "[I") (by decide +kernel)) (fun _ h9 => h9) rfl dX5_sheet_102 ?_
                      refine x_bipush hx hb dX5_sheet_105 (by decide) ?_
                      refine lv_iload_n hx hb dX5_sheet_107 rfl (lv_at hl 1 rfl) ?_
                      refine x_imul hx hb dX5_sheet_108 ?_
                      refine x_topi ((40 * s1 : Nat) : Int) (by omega) ?_
                      refine lv_iload hx hb dX5_sheet_109 (lv_at hl 4 rfl) ?_
                      refine x_iadd hx hb dX5_sheet_111 ?_
                      refine x_topi (((40 * s1) + t : Nat) : Int) (by omega) ?_
                      refine x_iconst hx hb dX5_sheet_112 ?_
                      refine x_iast hx hb hK hP hD hS 9 0 rfl rfl ((40 * s1) + t) rfl (by omega) (by decide) (wRo r ik tn j ++ (wA cI (r 1) 100 T ++ (wA cI (r 2) 100 K ++ (wA cI (r 3) 100 X ++ (wA cI (r 4) 100 Y ++ (wA cI (r 5) 8 (fR F) ++ (wA cI (r 6) 120 TB ++ (wA cI (r 7) 4 (bR (va_up SB s1 bt)) ++ (wA cI (r 8) 4 (va_up SS s1 n) ++ (wA cI (r 9) 160 (va_up Nt ((40 * s1) + t) 0))))))))))) (by rw [← wA_up cI (r 9) 160 Nt 0 ((40 * s1) + t) (by omega)]; rfl) dX5_sheet_113 (fun H locs hP hD hS => ?_)
                      refine x_iinc hx hb 4 ((t + 1 : Nat) : Int) (by omega) [(4, .int (iI ((t + 1 : Nat) : Int))), (0, .ref (r 0)), (1, .int (iI ((s1 : Nat) : Int))), (2, .int (iI bt)), (3, .int (iI n))] dX5_sheet_114 hl rfl (by decide) rfl (fun ls hl => ?_)
                      refine lv_goto (tgt := 94) hx hb dX5_sheet_117 (by decide) ?_
                      exact ih (t + 1) (va_up Nt ((40 * s1) + t) 0) _ _ _ (by omega) hr hP hD hS (lv_sub hl [1, 2, 3, 4, 0] rfl)
                exact L94 40 0 SN _ _ _ (by omega) rfl hP hD hS (lv_sub hl [1, 2, 3, 4, 0] rfl)
              · refine x_iconst hx hb dX5_sheet_85 ?_
                refine lv_goto (tgt := 90) hx hb dX5_sheet_86 (by decide) ?_
                refine x_iast hx hb hK hP hD hS 8 0 rfl rfl s1 rfl (by omega) (by decide) (wRo r ik tn j ++ (wA cI (r 1) 100 T ++ (wA cI (r 2) 100 K ++ (wA cI (r 3) 100 X ++ (wA cI (r 4) 100 Y ++ (wA cI (r 5) 8 (fR F) ++ (wA cI (r 6) 120 TB ++ (wA cI (r 7) 4 (bR (va_up SB s1 bt)) ++ (wA cI (r 8) 4 (va_up SS s1 0) ++ (wA cI (r 9) 160 SN)))))))))) (by rw [← wA_up cI (r 8) 4 SS 0 s1 (by omega)]; rfl) dX5_sheet_90 (fun H locs hP hD hS => ?_)
                refine x_iconst hx hb dX5_sheet_91 ?_
                refine lv_istore (lv' := [(4, .int (iI 0)), (0, .ref (r 0)), (1, .int (iI ((s1 : Nat) : Int))), (2, .int (iI bt)), (3, .int (iI n))]) hx hb dX5_sheet_92 hl (by decide) rfl (fun ls hl => ?_)
                have L94 : ∀ (k t : Nat) (Nt : Nat → Int) (H : Heap) (locs : List Loc) (ls : Array Slot), t + k = 40 → (zeF (40 * s1) k t Nt = zeF (40 * s1) 40 0 SN) → va_P D vwCl (wRo r ik tn j ++ (wA cI (r 1) 100 T ++ (wA cI (r 2) 100 K ++ (wA cI (r 3) 100 X ++ (wA cI (r 4) 100 Y ++ (wA cI (r 5) 8 (fR F) ++ (wA cI (r 6) 120 TB ++ (wA cI (r 7) 4 (bR (va_up SB s1 bt)) ++ (wA cI (r 8) 4 (va_up SS s1 0) ++ (wA cI (r 9) 160 Nt)))))))))) H → va_D A (wRo r ik tn j ++ (wA cI (r 1) 100 T ++ (wA cI (r 2) 100 K ++ (wA cI (r 3) 100 X ++ (wA cI (r 4) 100 Y ++ (wA cI (r 5) 8 (fR F) ++ (wA cI (r 6) 120 TB ++ (wA cI (r 7) 4 (bR (va_up SB s1 bt)) ++ (wA cI (r 8) 4 (va_up SS s1 0) ++ (wA cI (r 9) 160 Nt)))))))))) → va_S A s.heap H locs → lv_has ls 5 [(0, .ref (r 0)), (1, .int (iI ((s1 : Nat) : Int))), (2, .int (iI bt)), (3, .int (iI n)), (4, .int (iI ((t : Nat) : Int)))] → W pg l e { frames := 1, cells := 0, slots := 0, locals := 21 } s m args below meth c H locs 0 0 Q (F0 m 94 ls []) := by
                  intro k
                  induction k with
                  | zero =>
                    intro t Nt H locs ls hkt hr hP hD hS hl
                    refine lv_iload hx hb dX5_sheet_94 (lv_at hl 4 rfl) ?_
                    refine x_bipush hx hb dX5_sheet_96 (by decide) ?_
                    refine x_icmp_ge (tgt := 120) hx hb (by omega) (by decide) dX5_sheet_98 (by decide) (fun c_98 => ?_) (fun c_98 => ?_)
                    · refine lv_aload_n hx hb dX5_sheet_120 rfl (lv_at hl 0 rfl) ?_
                      refine va_get (D := D) (ci := 4) (v := .ref (r 8)) (C := RX5) (T := TX5) (N := 18) hx hb hts (iT_X5_sheet_X5) hown hK hP 0 rfl rfl 9 (by decide) (hts (.fieldLink RX5 31 "WordSupperModel" "sizes" "[I") (by decide +kernel)) (fun _ h9 => h9) rfl dX5_sheet_121 ?_
                      refine lv_iload_n hx hb dX5_sheet_124 rfl (lv_at hl 1 rfl) ?_
                      refine x_iald hx hb hK hP 8 0 rfl rfl s1 rfl (by omega) (by decide) ((va_up SS s1 0) s1) (gd_at _ (by omega)) dX5_sheet_125 ?_
                      exact kend (((va_up SS s1 0) s1, T, K, ik, (va_up SB s1 bt), (va_up SS s1 0), Nt, tn, TB, F), X, Y, j) hP hS rfl (by unfold m_sheet; rw [if_neg (by omega), if_neg (by omega), if_neg (by omega), if_neg (by omega), Int.toNat_natCast, ← hr, up_s] <;> rfl) dX5_sheet_126
                    · exfalso; omega
                  | succ k ih =>
                    intro t Nt H locs ls hkt hr hP hD hS hl
                    refine lv_iload hx hb dX5_sheet_94 (lv_at hl 4 rfl) ?_
                    refine x_bipush hx hb dX5_sheet_96 (by decide) ?_
                    refine x_icmp_ge (tgt := 120) hx hb (by omega) (by decide) dX5_sheet_98 (by decide) (fun c_98 => ?_) (fun c_98 => ?_)
                    · exfalso; omega
                    · refine lv_aload_n hx hb dX5_sheet_101 rfl (lv_at hl 0 rfl) ?_
                      refine va_get (D := D) (ci := 4) (v := .ref (r 9)) (C := RX5) (T := TX5) (N := 18) hx hb hts (iT_X5_sheet_X5) hown hK hP 0 rfl rfl 10 (by decide) (hts (.fieldLink RX5 34 "WordSupperModel" "numbers" "[I") (by decide +kernel)) (fun _ h9 => h9) rfl dX5_sheet_102 ?_
                      refine x_bipush hx hb dX5_sheet_105 (by decide) ?_
                      refine lv_iload_n hx hb dX5_sheet_107 rfl (lv_at hl 1 rfl) ?_
                      refine x_imul hx hb dX5_sheet_108 ?_
                      refine x_topi ((40 * s1 : Nat) : Int) (by omega) ?_
                      refine lv_iload hx hb dX5_sheet_109 (lv_at hl 4 rfl) ?_
                      refine x_iadd hx hb dX5_sheet_111 ?_
                      refine x_topi (((40 * s1) + t : Nat) : Int) (by omega) ?_
                      refine x_iconst hx hb dX5_sheet_112 ?_
                      refine x_iast hx hb hK hP hD hS 9 0 rfl rfl ((40 * s1) + t) rfl (by omega) (by decide) (wRo r ik tn j ++ (wA cI (r 1) 100 T ++ (wA cI (r 2) 100 K ++ (wA cI (r 3) 100 X ++ (wA cI (r 4) 100 Y ++ (wA cI (r 5) 8 (fR F) ++ (wA cI (r 6) 120 TB ++ (wA cI (r 7) 4 (bR (va_up SB s1 bt)) ++ (wA cI (r 8) 4 (va_up SS s1 0) ++ (wA cI (r 9) 160 (va_up Nt ((40 * s1) + t) 0))))))))))) (by rw [← wA_up cI (r 9) 160 Nt 0 ((40 * s1) + t) (by omega)]; rfl) dX5_sheet_113 (fun H locs hP hD hS => ?_)
                      refine x_iinc hx hb 4 ((t + 1 : Nat) : Int) (by omega) [(4, .int (iI ((t + 1 : Nat) : Int))), (0, .ref (r 0)), (1, .int (iI ((s1 : Nat) : Int))), (2, .int (iI bt)), (3, .int (iI n))] dX5_sheet_114 hl rfl (by decide) rfl (fun ls hl => ?_)
                      refine lv_goto (tgt := 94) hx hb dX5_sheet_117 (by decide) ?_
                      exact ih (t + 1) (va_up Nt ((40 * s1) + t) 0) _ _ _ (by omega) hr hP hD hS (lv_sub hl [1, 2, 3, 4, 0] rfl)
                exact L94 40 0 SN _ _ _ (by omega) rfl hP hD hS (lv_sub hl [1, 2, 3, 4, 0] rfl)
            · obtain rfl : bt = 0 := by omega
              refine x_iconst hx hb dX5_sheet_70 ?_
              refine lv_goto (tgt := 75) hx hb dX5_sheet_71 (by decide) ?_
              refine x_iast hx hb hK hP hD hS 7 0 rfl rfl s1 rfl (by omega) (by decide) (wRo r ik tn j ++ (wA cI (r 1) 100 T ++ (wA cI (r 2) 100 K ++ (wA cI (r 3) 100 X ++ (wA cI (r 4) 100 Y ++ (wA cI (r 5) 8 (fR F) ++ (wA cI (r 6) 120 TB ++ (wA cI (r 7) 4 (va_up (bR SB) s1 (-1)) ++ (wA cI (r 8) 4 SS ++ (wA cI (r 9) 160 SN)))))))))) (by rw [← wA_up cI (r 7) 4 (bR SB) (-1) s1 (by omega)]; rfl) dX5_sheet_75 (fun H locs hP hD hS => ?_)
              rw [bR_up0] at hP hD
              refine lv_aload_n hx hb dX5_sheet_76 rfl (lv_at hl 0 rfl) ?_
              refine va_get (D := D) (ci := 4) (v := .ref (r 8)) (C := RX5) (T := TX5) (N := 18) hx hb hts (iT_X5_sheet_X5) hown hK hP 0 rfl rfl 9 (by decide) (hts (.fieldLink RX5 31 "WordSupperModel" "sizes" "[I") (by decide +kernel)) (fun _ h9 => h9) rfl dX5_sheet_77 ?_
              refine lv_iload_n hx hb dX5_sheet_80 rfl (lv_at hl 1 rfl) ?_
              refine lv_iload_n hx hb dX5_sheet_81 rfl (lv_at hl 2 rfl) ?_
              refine x_if_ne (tgt := 89) hx hb (by decide) dX5_sheet_82 (by decide) (fun c_82 => ?_) (fun c_82 => ?_)
              · exact absurd c_82 (by decide)
              · refine x_iconst hx hb dX5_sheet_85 ?_
                refine lv_goto (tgt := 90) hx hb dX5_sheet_86 (by decide) ?_
                refine x_iast hx hb hK hP hD hS 8 0 rfl rfl s1 rfl (by omega) (by decide) (wRo r ik tn j ++ (wA cI (r 1) 100 T ++ (wA cI (r 2) 100 K ++ (wA cI (r 3) 100 X ++ (wA cI (r 4) 100 Y ++ (wA cI (r 5) 8 (fR F) ++ (wA cI (r 6) 120 TB ++ (wA cI (r 7) 4 (bR (va_up SB s1 0)) ++ (wA cI (r 8) 4 (va_up SS s1 0) ++ (wA cI (r 9) 160 SN)))))))))) (by rw [← wA_up cI (r 8) 4 SS 0 s1 (by omega)]; rfl) dX5_sheet_90 (fun H locs hP hD hS => ?_)
                refine x_iconst hx hb dX5_sheet_91 ?_
                refine lv_istore (lv' := [(4, .int (iI 0)), (0, .ref (r 0)), (1, .int (iI ((s1 : Nat) : Int))), (2, .int (iI 0)), (3, .int (iI n))]) hx hb dX5_sheet_92 hl (by decide) rfl (fun ls hl => ?_)
                have L94 : ∀ (k t : Nat) (Nt : Nat → Int) (H : Heap) (locs : List Loc) (ls : Array Slot), t + k = 40 → (zeF (40 * s1) k t Nt = zeF (40 * s1) 40 0 SN) → va_P D vwCl (wRo r ik tn j ++ (wA cI (r 1) 100 T ++ (wA cI (r 2) 100 K ++ (wA cI (r 3) 100 X ++ (wA cI (r 4) 100 Y ++ (wA cI (r 5) 8 (fR F) ++ (wA cI (r 6) 120 TB ++ (wA cI (r 7) 4 (bR (va_up SB s1 0)) ++ (wA cI (r 8) 4 (va_up SS s1 0) ++ (wA cI (r 9) 160 Nt)))))))))) H → va_D A (wRo r ik tn j ++ (wA cI (r 1) 100 T ++ (wA cI (r 2) 100 K ++ (wA cI (r 3) 100 X ++ (wA cI (r 4) 100 Y ++ (wA cI (r 5) 8 (fR F) ++ (wA cI (r 6) 120 TB ++ (wA cI (r 7) 4 (bR (va_up SB s1 0)) ++ (wA cI (r 8) 4 (va_up SS s1 0) ++ (wA cI (r 9) 160 Nt)))))))))) → va_S A s.heap H locs → lv_has ls 5 [(0, .ref (r 0)), (1, .int (iI ((s1 : Nat) : Int))), (2, .int (iI 0)), (3, .int (iI n)), (4, .int (iI ((t : Nat) : Int)))] → W pg l e { frames := 1, cells := 0, slots := 0, locals := 21 } s m args below meth c H locs 0 0 Q (F0 m 94 ls []) := by
                  intro k
                  induction k with
                  | zero =>
                    intro t Nt H locs ls hkt hr hP hD hS hl
                    refine lv_iload hx hb dX5_sheet_94 (lv_at hl 4 rfl) ?_
                    refine x_bipush hx hb dX5_sheet_96 (by decide) ?_
                    refine x_icmp_ge (tgt := 120) hx hb (by omega) (by decide) dX5_sheet_98 (by decide) (fun c_98 => ?_) (fun c_98 => ?_)
                    · refine lv_aload_n hx hb dX5_sheet_120 rfl (lv_at hl 0 rfl) ?_
                      refine va_get (D := D) (ci := 4) (v := .ref (r 8)) (C := RX5) (T := TX5) (N := 18) hx hb hts (iT_X5_sheet_X5) hown hK hP 0 rfl rfl 9 (by decide) (hts (.fieldLink RX5 31 "WordSupperModel" "sizes" "[I") (by decide +kernel)) (fun _ h9 => h9) rfl dX5_sheet_121 ?_
                      refine lv_iload_n hx hb dX5_sheet_124 rfl (lv_at hl 1 rfl) ?_
                      refine x_iald hx hb hK hP 8 0 rfl rfl s1 rfl (by omega) (by decide) ((va_up SS s1 0) s1) (gd_at _ (by omega)) dX5_sheet_125 ?_
                      exact kend (((va_up SS s1 0) s1, T, K, ik, (va_up SB s1 0), (va_up SS s1 0), Nt, tn, TB, F), X, Y, j) hP hS rfl (by unfold m_sheet; rw [if_neg (by omega), if_neg (by omega), if_neg (by omega), if_pos rfl, Int.toNat_natCast, ← hr, up_s] <;> rfl) dX5_sheet_126
                    · exfalso; omega
                  | succ k ih =>
                    intro t Nt H locs ls hkt hr hP hD hS hl
                    refine lv_iload hx hb dX5_sheet_94 (lv_at hl 4 rfl) ?_
                    refine x_bipush hx hb dX5_sheet_96 (by decide) ?_
                    refine x_icmp_ge (tgt := 120) hx hb (by omega) (by decide) dX5_sheet_98 (by decide) (fun c_98 => ?_) (fun c_98 => ?_)
                    · exfalso; omega
                    · refine lv_aload_n hx hb dX5_sheet_101 rfl (lv_at hl 0 rfl) ?_
                      refine va_get (D := D) (ci := 4) (v := .ref (r 9)) (C := RX5) (T := TX5) (N := 18) hx hb hts (iT_X5_sheet_X5) hown hK hP 0 rfl rfl 10 (by decide) (hts (.fieldLink RX5 34 "WordSupperModel" "numbers" "[I") (by decide +kernel)) (fun _ h9 => h9) rfl dX5_sheet_102 ?_
                      refine x_bipush hx hb dX5_sheet_105 (by decide) ?_
                      refine lv_iload_n hx hb dX5_sheet_107 rfl (lv_at hl 1 rfl) ?_
                      refine x_imul hx hb dX5_sheet_108 ?_
                      refine x_topi ((40 * s1 : Nat) : Int) (by omega) ?_
                      refine lv_iload hx hb dX5_sheet_109 (lv_at hl 4 rfl) ?_
                      refine x_iadd hx hb dX5_sheet_111 ?_
                      refine x_topi (((40 * s1) + t : Nat) : Int) (by omega) ?_
                      refine x_iconst hx hb dX5_sheet_112 ?_
                      refine x_iast hx hb hK hP hD hS 9 0 rfl rfl ((40 * s1) + t) rfl (by omega) (by decide) (wRo r ik tn j ++ (wA cI (r 1) 100 T ++ (wA cI (r 2) 100 K ++ (wA cI (r 3) 100 X ++ (wA cI (r 4) 100 Y ++ (wA cI (r 5) 8 (fR F) ++ (wA cI (r 6) 120 TB ++ (wA cI (r 7) 4 (bR (va_up SB s1 0)) ++ (wA cI (r 8) 4 (va_up SS s1 0) ++ (wA cI (r 9) 160 (va_up Nt ((40 * s1) + t) 0))))))))))) (by rw [← wA_up cI (r 9) 160 Nt 0 ((40 * s1) + t) (by omega)]; rfl) dX5_sheet_113 (fun H locs hP hD hS => ?_)
                      refine x_iinc hx hb 4 ((t + 1 : Nat) : Int) (by omega) [(4, .int (iI ((t + 1 : Nat) : Int))), (0, .ref (r 0)), (1, .int (iI ((s1 : Nat) : Int))), (2, .int (iI 0)), (3, .int (iI n))] dX5_sheet_114 hl rfl (by decide) rfl (fun ls hl => ?_)
                      refine lv_goto (tgt := 94) hx hb dX5_sheet_117 (by decide) ?_
                      exact ih (t + 1) (va_up Nt ((40 * s1) + t) 0) _ _ _ (by omega) hr hP hD hS (lv_sub hl [1, 2, 3, 4, 0] rfl)
                exact L94 40 0 SN _ _ _ (by omega) rfl hP hD hS (lv_sub hl [1, 2, 3, 4, 0] rfl)
          · refine lv_aload_n hx hb dX5_sheet_54 rfl (lv_at hl 0 rfl) ?_
            refine x_ldc hx hb (-1000001) rfl hown (hts (.constant RX5 37 (-1000001)) (by decide +kernel)) dX5_sheet_55 ?_
            refine x_callV (As := [.int (iI (-1000001))]) (rest := []) ⟨hx, hb, hml, hown, hts⟩ (kX5_finds r ik tn j F (-1000001) 0 (by omega) (by omega)) (cwV 1 hts gX5_sheet_X5_finds rfl rfl rfl ykVX5_finds ⟨Nat.le_of_ble_eq_true rfl, Nat.le_of_ble_eq_true rfl⟩) hP hK hD hS 0 4 rfl rfl rfl [0, 5] rfl (by decide) (fun _ => rfl) (fun _ => wRo r ik tn j ++ (wA cI (r 1) 100 T ++ (wA cI (r 2) 100 K ++ (wA cI (r 3) 100 X ++ (wA cI (r 4) 100 Y ++ (wA cI (r 5) 8 (fR (bmp 0 F)) ++ (wA cI (r 6) 120 TB ++ (wA cI (r 7) 4 (bR SB) ++ (wA cI (r 8) 4 SS ++ (wA cI (r 9) 160 SN)))))))))) (fun _ => rfl) rfl hl.1 rfl (Nat.le_of_ble_eq_true rfl) dX5_sheet_57 ⟨Nat.le_of_ble_eq_true rfl, Nat.le_of_ble_eq_true rfl⟩ (fun _ H locs _ hP hD hS => ?_)
            refine W.eq (g2 := F0 m 60 ls [.int (iI (-1000001))]) rfl ?_
            exact kend (((-1000001), T, K, ik, SB, SS, SN, tn, TB, (bmp 0 F)), X, Y, j) hP hS rfl (by first | exact ((if_pos (by omega))).symm | exact (((if_neg (by omega)).trans ((if_neg (by omega)).trans (if_pos (by omega))))).symm) dX5_sheet_60
        · refine lv_aload_n hx hb dX5_sheet_40 rfl (lv_at hl 0 rfl) ?_
          refine x_ldcw hx hb (-1000007) rfl hown (hts (.constant RX5 281 (-1000007)) (by decide +kernel)) dX5_sheet_41 ?_
          refine x_callV (As := [.int (iI (-1000007))]) (rest := []) ⟨hx, hb, hml, hown, hts⟩ (kX5_finds r ik tn j F (-1000007) 6 (by omega) (by omega)) (cwV 1 hts gX5_sheet_X5_finds rfl rfl rfl ykVX5_finds ⟨Nat.le_of_ble_eq_true rfl, Nat.le_of_ble_eq_true rfl⟩) hP hK hD hS 0 4 rfl rfl rfl [0, 5] rfl (by decide) (fun _ => rfl) (fun _ => wRo r ik tn j ++ (wA cI (r 1) 100 T ++ (wA cI (r 2) 100 K ++ (wA cI (r 3) 100 X ++ (wA cI (r 4) 100 Y ++ (wA cI (r 5) 8 (fR (bmp 6 F)) ++ (wA cI (r 6) 120 TB ++ (wA cI (r 7) 4 (bR SB) ++ (wA cI (r 8) 4 SS ++ (wA cI (r 9) 160 SN)))))))))) (fun _ => rfl) rfl hl.1 rfl (Nat.le_of_ble_eq_true rfl) dX5_sheet_44 ⟨Nat.le_of_ble_eq_true rfl, Nat.le_of_ble_eq_true rfl⟩ (fun _ H locs _ hP hD hS => ?_)
          refine W.eq (g2 := F0 m 47 ls [.int (iI (-1000007))]) rfl ?_
          exact kend (((-1000007), T, K, ik, SB, SS, SN, tn, TB, (bmp 6 F)), X, Y, j) hP hS rfl (((if_neg (by omega)).trans (if_pos (by omega)))).symm dX5_sheet_47
      · refine lv_iload_n hx hb dX5_sheet_17 rfl (lv_at hl 2 rfl) ?_
        refine x_bipush hx hb dX5_sheet_18 (by decide) ?_
        refine x_icmp_eq (tgt := 36) hx hb (by omega) (by decide) dX5_sheet_20 (by decide) (fun c_20 => ?_) (fun c_20 => ?_)
        · refine lv_iload_n hx hb dX5_sheet_36 rfl (lv_at hl 3 rfl) ?_
          refine x_if_ge (tgt := 48) hx hb (by omega) dX5_sheet_37 (by decide) (fun c_37 => ?_) (fun c_37 => ?_)
          · refine lv_iload_n hx hb dX5_sheet_48 rfl (lv_at hl 3 rfl) ?_
            refine x_bipush hx hb dX5_sheet_49 (by decide) ?_
            refine x_icmp_le (tgt := 61) hx hb (by omega) (by decide) dX5_sheet_51 (by decide) (fun c_51 => ?_) (fun c_51 => ?_)
            · obtain ⟨s1, rfl⟩ : ∃ s1 : Nat, s0 = (s1 : Int) := ⟨s0.toNat, by omega⟩
              refine lv_aload_n hx hb dX5_sheet_61 rfl (lv_at hl 0 rfl) ?_
              refine va_get (D := D) (ci := 4) (v := .ref (r 7)) (C := RX5) (T := TX5) (N := 18) hx hb hts (iT_X5_sheet_X5) hown hK hP 0 rfl rfl 8 (by decide) (hts (.fieldLink RX5 28 "WordSupperModel" "bitsOf" "[I") (by decide +kernel)) (fun _ h9 => h9) rfl dX5_sheet_62 ?_
              refine lv_iload_n hx hb dX5_sheet_65 rfl (lv_at hl 1 rfl) ?_
              refine lv_iload_n hx hb dX5_sheet_66 rfl (lv_at hl 2 rfl) ?_
              refine x_if_ne (tgt := 74) hx hb (by omega) dX5_sheet_67 (by decide) (fun c_67 => ?_) (fun c_67 => ?_)
              · refine lv_iload_n hx hb dX5_sheet_74 rfl (lv_at hl 2 rfl) ?_
                refine x_iast hx hb hK hP hD hS 7 0 rfl rfl s1 rfl (by omega) (by decide) (wRo r ik tn j ++ (wA cI (r 1) 100 T ++ (wA cI (r 2) 100 K ++ (wA cI (r 3) 100 X ++ (wA cI (r 4) 100 Y ++ (wA cI (r 5) 8 (fR F) ++ (wA cI (r 6) 120 TB ++ (wA cI (r 7) 4 (va_up (bR SB) s1 bt) ++ (wA cI (r 8) 4 SS ++ (wA cI (r 9) 160 SN)))))))))) (by rw [← wA_up cI (r 7) 4 (bR SB) bt s1 (by omega)]; rfl) dX5_sheet_75 (fun H locs hP hD hS => ?_)
                rw [bR_up1 _ _ (show bt ≠ 0 by omega)] at hP hD
                refine lv_aload_n hx hb dX5_sheet_76 rfl (lv_at hl 0 rfl) ?_
                refine va_get (D := D) (ci := 4) (v := .ref (r 8)) (C := RX5) (T := TX5) (N := 18) hx hb hts (iT_X5_sheet_X5) hown hK hP 0 rfl rfl 9 (by decide) (hts (.fieldLink RX5 31 "WordSupperModel" "sizes" "[I") (by decide +kernel)) (fun _ h9 => h9) rfl dX5_sheet_77 ?_
                refine lv_iload_n hx hb dX5_sheet_80 rfl (lv_at hl 1 rfl) ?_
                refine lv_iload_n hx hb dX5_sheet_81 rfl (lv_at hl 2 rfl) ?_
                refine x_if_ne (tgt := 89) hx hb (by omega) dX5_sheet_82 (by decide) (fun c_82 => ?_) (fun c_82 => ?_)
                · refine lv_iload_n hx hb dX5_sheet_89 rfl (lv_at hl 3 rfl) ?_
                  refine x_iast hx hb hK hP hD hS 8 0 rfl rfl s1 rfl (by omega) (by decide) (wRo r ik tn j ++ (wA cI (r 1) 100 T ++ (wA cI (r 2) 100 K ++ (wA cI (r 3) 100 X ++ (wA cI (r 4) 100 Y ++ (wA cI (r 5) 8 (fR F) ++ (wA cI (r 6) 120 TB ++ (wA cI (r 7) 4 (bR (va_up SB s1 bt)) ++ (wA cI (r 8) 4 (va_up SS s1 n) ++ (wA cI (r 9) 160 SN)))))))))) (by rw [← wA_up cI (r 8) 4 SS n s1 (by omega)]; rfl) dX5_sheet_90 (fun H locs hP hD hS => ?_)
                  refine x_iconst hx hb dX5_sheet_91 ?_
                  refine lv_istore (lv' := [(4, .int (iI 0)), (0, .ref (r 0)), (1, .int (iI ((s1 : Nat) : Int))), (2, .int (iI bt)), (3, .int (iI n))]) hx hb dX5_sheet_92 hl (by decide) rfl (fun ls hl => ?_)
                  have L94 : ∀ (k t : Nat) (Nt : Nat → Int) (H : Heap) (locs : List Loc) (ls : Array Slot), t + k = 40 → (zeF (40 * s1) k t Nt = zeF (40 * s1) 40 0 SN) → va_P D vwCl (wRo r ik tn j ++ (wA cI (r 1) 100 T ++ (wA cI (r 2) 100 K ++ (wA cI (r 3) 100 X ++ (wA cI (r 4) 100 Y ++ (wA cI (r 5) 8 (fR F) ++ (wA cI (r 6) 120 TB ++ (wA cI (r 7) 4 (bR (va_up SB s1 bt)) ++ (wA cI (r 8) 4 (va_up SS s1 n) ++ (wA cI (r 9) 160 Nt)))))))))) H → va_D A (wRo r ik tn j ++ (wA cI (r 1) 100 T ++ (wA cI (r 2) 100 K ++ (wA cI (r 3) 100 X ++ (wA cI (r 4) 100 Y ++ (wA cI (r 5) 8 (fR F) ++ (wA cI (r 6) 120 TB ++ (wA cI (r 7) 4 (bR (va_up SB s1 bt)) ++ (wA cI (r 8) 4 (va_up SS s1 n) ++ (wA cI (r 9) 160 Nt)))))))))) → va_S A s.heap H locs → lv_has ls 5 [(0, .ref (r 0)), (1, .int (iI ((s1 : Nat) : Int))), (2, .int (iI bt)), (3, .int (iI n)), (4, .int (iI ((t : Nat) : Int)))] → W pg l e { frames := 1, cells := 0, slots := 0, locals := 21 } s m args below meth c H locs 0 0 Q (F0 m 94 ls []) := by
                    intro k
                    induction k with
                    | zero =>
                      intro t Nt H locs ls hkt hr hP hD hS hl
                      refine lv_iload hx hb dX5_sheet_94 (lv_at hl 4 rfl) ?_
                      refine x_bipush hx hb dX5_sheet_96 (by decide) ?_
                      refine x_icmp_ge (tgt := 120) hx hb (by omega) (by decide) dX5_sheet_98 (by decide) (fun c_98 => ?_) (fun c_98 => ?_)
                      · refine lv_aload_n hx hb dX5_sheet_120 rfl (lv_at hl 0 rfl) ?_
                        refine va_get (D := D) (ci := 4) (v := .ref (r 8)) (C := RX5) (T := TX5) (N := 18) hx hb hts (iT_X5_sheet_X5) hown hK hP 0 rfl rfl 9 (by decide) (hts (.fieldLink RX5 31 "WordSupperModel" "sizes" "[I") (by decide +kernel)) (fun _ h9 => h9) rfl dX5_sheet_121 ?_
                        refine lv_iload_n hx hb dX5_sheet_124 rfl (lv_at hl 1 rfl) ?_
                        refine x_iald hx hb hK hP 8 0 rfl rfl s1 rfl (by omega) (by decide) ((va_up SS s1 n) s1) (gd_at _ (by omega)) dX5_sheet_125 ?_
                        exact kend (((va_up SS s1 n) s1, T, K, ik, (va_up SB s1 bt), (va_up SS s1 n), Nt, tn, TB, F), X, Y, j) hP hS rfl (by unfold m_sheet; rw [if_neg (by omega), if_neg (by omega), if_neg (by omega), if_neg (by omega), Int.toNat_natCast, ← hr, up_s] <;> rfl) dX5_sheet_126
                      · exfalso; omega
                    | succ k ih =>
                      intro t Nt H locs ls hkt hr hP hD hS hl
                      refine lv_iload hx hb dX5_sheet_94 (lv_at hl 4 rfl) ?_
                      refine x_bipush hx hb dX5_sheet_96 (by decide) ?_
                      refine x_icmp_ge (tgt := 120) hx hb (by omega) (by decide) dX5_sheet_98 (by decide) (fun c_98 => ?_) (fun c_98 => ?_)
                      · exfalso; omega
                      · refine lv_aload_n hx hb dX5_sheet_101 rfl (lv_at hl 0 rfl) ?_
                        refine va_get (D := D) (ci := 4) (v := .ref (r 9)) (C := RX5) (T := TX5) (N := 18) hx hb hts (iT_X5_sheet_X5) hown hK hP 0 rfl rfl 10 (by decide) (hts (.fieldLink RX5 34 "WordSupperModel" "numbers" "[I") (by decide +kernel)) (fun _ h9 => h9) rfl dX5_sheet_102 ?_
                        refine x_bipush hx hb dX5_sheet_105 (by decide) ?_
                        refine lv_iload_n hx hb dX5_sheet_107 rfl (lv_at hl 1 rfl) ?_
                        refine x_imul hx hb dX5_sheet_108 ?_
                        refine x_topi ((40 * s1 : Nat) : Int) (by omega) ?_
                        refine lv_iload hx hb dX5_sheet_109 (lv_at hl 4 rfl) ?_
                        refine x_iadd hx hb dX5_sheet_111 ?_
                        refine x_topi (((40 * s1) + t : Nat) : Int) (by omega) ?_
                        refine x_iconst hx hb dX5_sheet_112 ?_
                        refine x_iast hx hb hK hP hD hS 9 0 rfl rfl ((40 * s1) + t) rfl (by omega) (by decide) (wRo r ik tn j ++ (wA cI (r 1) 100 T ++ (wA cI (r 2) 100 K ++ (wA cI (r 3) 100 X ++ (wA cI (r 4) 100 Y ++ (wA cI (r 5) 8 (fR F) ++ (wA cI (r 6) 120 TB ++ (wA cI (r 7) 4 (bR (va_up SB s1 bt)) ++ (wA cI (r 8) 4 (va_up SS s1 n) ++ (wA cI (r 9) 160 (va_up Nt ((40 * s1) + t) 0))))))))))) (by rw [← wA_up cI (r 9) 160 Nt 0 ((40 * s1) + t) (by omega)]; rfl) dX5_sheet_113 (fun H locs hP hD hS => ?_)
                        refine x_iinc hx hb 4 ((t + 1 : Nat) : Int) (by omega) [(4, .int (iI ((t + 1 : Nat) : Int))), (0, .ref (r 0)), (1, .int (iI ((s1 : Nat) : Int))), (2, .int (iI bt)), (3, .int (iI n))] dX5_sheet_114 hl rfl (by decide) rfl (fun ls hl => ?_)
                        refine lv_goto (tgt := 94) hx hb dX5_sheet_117 (by decide) ?_
                        exact ih (t + 1) (va_up Nt ((40 * s1) + t) 0) _ _ _ (by omega) hr hP hD hS (lv_sub hl [1, 2, 3, 4, 0] rfl)
                  exact L94 40 0 SN _ _ _ (by omega) rfl hP hD hS (lv_sub hl [1, 2, 3, 4, 0] rfl)
                · refine x_iconst hx hb dX5_sheet_85 ?_
                  refine lv_goto (tgt := 90) hx hb dX5_sheet_86 (by decide) ?_
                  refine x_iast hx hb hK hP hD hS 8 0 rfl rfl s1 rfl (by omega) (by decide) (wRo r ik tn j ++ (wA cI (r 1) 100 T ++ (wA cI (r 2) 100 K ++ (wA cI (r 3) 100 X ++ (wA cI (r 4) 100 Y ++ (wA cI (r 5) 8 (fR F) ++ (wA cI (r 6) 120 TB ++ (wA cI (r 7) 4 (bR (va_up SB s1 bt)) ++ (wA cI (r 8) 4 (va_up SS s1 0) ++ (wA cI (r 9) 160 SN)))))))))) (by rw [← wA_up cI (r 8) 4 SS 0 s1 (by omega)]; rfl) dX5_sheet_90 (fun H locs hP hD hS => ?_)
                  refine x_iconst hx hb dX5_sheet_91 ?_
                  refine lv_istore (lv' := [(4, .int (iI 0)), (0, .ref (r 0)), (1, .int (iI ((s1 : Nat) : Int))), (2, .int (iI bt)), (3, .int (iI n))]) hx hb dX5_sheet_92 hl (by decide) rfl (fun ls hl => ?_)
                  have L94 : ∀ (k t : Nat) (Nt : Nat → Int) (H : Heap) (locs : List Loc) (ls : Array Slot), t + k = 40 → (zeF (40 * s1) k t Nt = zeF (40 * s1) 40 0 SN) → va_P D vwCl (wRo r ik tn j ++ (wA cI (r 1) 100 T ++ (wA cI (r 2) 100 K ++ (wA cI (r 3) 100 X ++ (wA cI (r 4) 100 Y ++ (wA cI (r 5) 8 (fR F) ++ (wA cI (r 6) 120 TB ++ (wA cI (r 7) 4 (bR (va_up SB s1 bt)) ++ (wA cI (r 8) 4 (va_up SS s1 0) ++ (wA cI (r 9) 160 Nt)))))))))) H → va_D A (wRo r ik tn j ++ (wA cI (r 1) 100 T ++ (wA cI (r 2) 100 K ++ (wA cI (r 3) 100 X ++ (wA cI (r 4) 100 Y ++ (wA cI (r 5) 8 (fR F) ++ (wA cI (r 6) 120 TB ++ (wA cI (r 7) 4 (bR (va_up SB s1 bt)) ++ (wA cI (r 8) 4 (va_up SS s1 0) ++ (wA cI (r 9) 160 Nt)))))))))) → va_S A s.heap H locs → lv_has ls 5 [(0, .ref (r 0)), (1, .int (iI ((s1 : Nat) : Int))), (2, .int (iI bt)), (3, .int (iI n)), (4, .int (iI ((t : Nat) : Int)))] → W pg l e { frames := 1, cells := 0, slots := 0, locals := 21 } s m args below meth c H locs 0 0 Q (F0 m 94 ls []) := by
                    intro k
                    induction k with
                    | zero =>
                      intro t Nt H locs ls hkt hr hP hD hS hl
                      refine lv_iload hx hb dX5_sheet_94 (lv_at hl 4 rfl) ?_
                      refine x_bipush hx hb dX5_sheet_96 (by decide) ?_
                      refine x_icmp_ge (tgt := 120) hx hb (by omega) (by decide) dX5_sheet_98 (by decide) (fun c_98 => ?_) (fun c_98 => ?_)
                      · refine lv_aload_n hx hb dX5_sheet_120 rfl (lv_at hl 0 rfl) ?_
                        refine va_get (D := D) (ci := 4) (v := .ref (r 8)) (C := RX5) (T := TX5) (N := 18) hx hb hts (iT_X5_sheet_X5) hown hK hP 0 rfl rfl 9 (by decide) (hts (.fieldLink RX5 31 "WordSupperModel" "sizes" "[I") (by decide +kernel)) (fun _ h9 => h9) rfl dX5_sheet_121 ?_
                        refine lv_iload_n hx hb dX5_sheet_124 rfl (lv_at hl 1 rfl) ?_
                        refine x_iald hx hb hK hP 8 0 rfl rfl s1 rfl (by omega) (by decide) ((va_up SS s1 0) s1) (gd_at _ (by omega)) dX5_sheet_125 ?_
                        exact kend (((va_up SS s1 0) s1, T, K, ik, (va_up SB s1 bt), (va_up SS s1 0), Nt, tn, TB, F), X, Y, j) hP hS rfl (by unfold m_sheet; rw [if_neg (by omega), if_neg (by omega), if_neg (by omega), if_neg (by omega), Int.toNat_natCast, ← hr, up_s] <;> rfl) dX5_sheet_126
                      · exfalso; omega
                    | succ k ih =>
                      intro t Nt H locs ls hkt hr hP hD hS hl
                      refine lv_iload hx hb dX5_sheet_94 (lv_at hl 4 rfl) ?_
                      refine x_bipush hx hb dX5_sheet_96 (by decide) ?_
                      refine x_icmp_ge (tgt := 120) hx hb (by omega) (by decide) dX5_sheet_98 (by decide) (fun c_98 => ?_) (fun c_98 => ?_)
                      · exfalso; omega
                      · refine lv_aload_n hx hb dX5_sheet_101 rfl (lv_at hl 0 rfl) ?_
                        refine va_get (D := D) (ci := 4) (v := .ref (r 9)) (C := RX5) (T := TX5) (N := 18) hx hb hts (iT_X5_sheet_X5) hown hK hP 0 rfl rfl 10 (by decide) (hts (.fieldLink RX5 34 "WordSupperModel" "numbers" "[I") (by decide +kernel)) (fun _ h9 => h9) rfl dX5_sheet_102 ?_
                        refine x_bipush hx hb dX5_sheet_105 (by decide) ?_
                        refine lv_iload_n hx hb dX5_sheet_107 rfl (lv_at hl 1 rfl) ?_
                        refine x_imul hx hb dX5_sheet_108 ?_
                        refine x_topi ((40 * s1 : Nat) : Int) (by omega) ?_
                        refine lv_iload hx hb dX5_sheet_109 (lv_at hl 4 rfl) ?_
                        refine x_iadd hx hb dX5_sheet_111 ?_
                        refine x_topi (((40 * s1) + t : Nat) : Int) (by omega) ?_
                        refine x_iconst hx hb dX5_sheet_112 ?_
                        refine x_iast hx hb hK hP hD hS 9 0 rfl rfl ((40 * s1) + t) rfl (by omega) (by decide) (wRo r ik tn j ++ (wA cI (r 1) 100 T ++ (wA cI (r 2) 100 K ++ (wA cI (r 3) 100 X ++ (wA cI (r 4) 100 Y ++ (wA cI (r 5) 8 (fR F) ++ (wA cI (r 6) 120 TB ++ (wA cI (r 7) 4 (bR (va_up SB s1 bt)) ++ (wA cI (r 8) 4 (va_up SS s1 0) ++ (wA cI (r 9) 160 (va_up Nt ((40 * s1) + t) 0))))))))))) (by rw [← wA_up cI (r 9) 160 Nt 0 ((40 * s1) + t) (by omega)]; rfl) dX5_sheet_113 (fun H locs hP hD hS => ?_)
                        refine x_iinc hx hb 4 ((t + 1 : Nat) : Int) (by omega) [(4, .int (iI ((t + 1 : Nat) : Int))), (0, .ref (r 0)), (1, .int (iI ((s1 : Nat) : Int))), (2, .int (iI bt)), (3, .int (iI n))] dX5_sheet_114 hl rfl (by decide) rfl (fun ls hl => ?_)
                        refine lv_goto (tgt := 94) hx hb dX5_sheet_117 (by decide) ?_
                        exact ih (t + 1) (va_up Nt ((40 * s1) + t) 0) _ _ _ (by omega) hr hP hD hS (lv_sub hl [1, 2, 3, 4, 0] rfl)
                  exact L94 40 0 SN _ _ _ (by omega) rfl hP hD hS (lv_sub hl [1, 2, 3, 4, 0] rfl)
              · obtain rfl : bt = 0 := by omega
                refine x_iconst hx hb dX5_sheet_70 ?_
                refine lv_goto (tgt := 75) hx hb dX5_sheet_71 (by decide) ?_
                refine x_iast hx hb hK hP hD hS 7 0 rfl rfl s1 rfl (by omega) (by decide) (wRo r ik tn j ++ (wA cI (r 1) 100 T ++ (wA cI (r 2) 100 K ++ (wA cI (r 3) 100 X ++ (wA cI (r 4) 100 Y ++ (wA cI (r 5) 8 (fR F) ++ (wA cI (r 6) 120 TB ++ (wA cI (r 7) 4 (va_up (bR SB) s1 (-1)) ++ (wA cI (r 8) 4 SS ++ (wA cI (r 9) 160 SN)))))))))) (by rw [← wA_up cI (r 7) 4 (bR SB) (-1) s1 (by omega)]; rfl) dX5_sheet_75 (fun H locs hP hD hS => ?_)
                rw [bR_up0] at hP hD
                refine lv_aload_n hx hb dX5_sheet_76 rfl (lv_at hl 0 rfl) ?_
                refine va_get (D := D) (ci := 4) (v := .ref (r 8)) (C := RX5) (T := TX5) (N := 18) hx hb hts (iT_X5_sheet_X5) hown hK hP 0 rfl rfl 9 (by decide) (hts (.fieldLink RX5 31 "WordSupperModel" "sizes" "[I") (by decide +kernel)) (fun _ h9 => h9) rfl dX5_sheet_77 ?_
                refine lv_iload_n hx hb dX5_sheet_80 rfl (lv_at hl 1 rfl) ?_
                refine lv_iload_n hx hb dX5_sheet_81 rfl (lv_at hl 2 rfl) ?_
                refine x_if_ne (tgt := 89) hx hb (by decide) dX5_sheet_82 (by decide) (fun c_82 => ?_) (fun c_82 => ?_)
                · exact absurd c_82 (by decide)
                · refine x_iconst hx hb dX5_sheet_85 ?_
                  refine lv_goto (tgt := 90) hx hb dX5_sheet_86 (by decide) ?_
                  refine x_iast hx hb hK hP hD hS 8 0 rfl rfl s1 rfl (by omega) (by decide) (wRo r ik tn j ++ (wA cI (r 1) 100 T ++ (wA cI (r 2) 100 K ++ (wA cI (r 3) 100 X ++ (wA cI (r 4) 100 Y ++ (wA cI (r 5) 8 (fR F) ++ (wA cI (r 6) 120 TB ++ (wA cI (r 7) 4 (bR (va_up SB s1 0)) ++ (wA cI (r 8) 4 (va_up SS s1 0) ++ (wA cI (r 9) 160 SN)))))))))) (by rw [← wA_up cI (r 8) 4 SS 0 s1 (by omega)]; rfl) dX5_sheet_90 (fun H locs hP hD hS => ?_)
                  refine x_iconst hx hb dX5_sheet_91 ?_
                  refine lv_istore (lv' := [(4, .int (iI 0)), (0, .ref (r 0)), (1, .int (iI ((s1 : Nat) : Int))), (2, .int (iI 0)), (3, .int (iI n))]) hx hb dX5_sheet_92 hl (by decide) rfl (fun ls hl => ?_)
                  have L94 : ∀ (k t : Nat) (Nt : Nat → Int) (H : Heap) (locs : List Loc) (ls : Array Slot), t + k = 40 → (zeF (40 * s1) k t Nt = zeF (40 * s1) 40 0 SN) → va_P D vwCl (wRo r ik tn j ++ (wA cI (r 1) 100 T ++ (wA cI (r 2) 100 K ++ (wA cI (r 3) 100 X ++ (wA cI (r 4) 100 Y ++ (wA cI (r 5) 8 (fR F) ++ (wA cI (r 6) 120 TB ++ (wA cI (r 7) 4 (bR (va_up SB s1 0)) ++ (wA cI (r 8) 4 (va_up SS s1 0) ++ (wA cI (r 9) 160 Nt)))))))))) H → va_D A (wRo r ik tn j ++ (wA cI (r 1) 100 T ++ (wA cI (r 2) 100 K ++ (wA cI (r 3) 100 X ++ (wA cI (r 4) 100 Y ++ (wA cI (r 5) 8 (fR F) ++ (wA cI (r 6) 120 TB ++ (wA cI (r 7) 4 (bR (va_up SB s1 0)) ++ (wA cI (r 8) 4 (va_up SS s1 0) ++ (wA cI (r 9) 160 Nt)))))))))) → va_S A s.heap H locs → lv_has ls 5 [(0, .ref (r 0)), (1, .int (iI ((s1 : Nat) : Int))), (2, .int (iI 0)), (3, .int (iI n)), (4, .int (iI ((t : Nat) : Int)))] → W pg l e { frames := 1, cells := 0, slots := 0, locals := 21 } s m args below meth c H locs 0 0 Q (F0 m 94 ls []) := by
                    intro k
                    induction k with
                    | zero =>
                      intro t Nt H locs ls hkt hr hP hD hS hl
                      refine lv_iload hx hb dX5_sheet_94 (lv_at hl 4 rfl) ?_
                      refine x_bipush hx hb dX5_sheet_96 (by decide) ?_
                      refine x_icmp_ge (tgt := 120) hx hb (by omega) (by decide) dX5_sheet_98 (by decide) (fun c_98 => ?_) (fun c_98 => ?_)
                      · refine lv_aload_n hx hb dX5_sheet_120 rfl (lv_at hl 0 rfl) ?_
                        refine va_get (D := D) (ci := 4) (v := .ref (r 8)) (C := RX5) (T := TX5) (N := 18) hx hb hts (iT_X5_sheet_X5) hown hK hP 0 rfl rfl 9 (by decide) (hts (.fieldLink RX5 31 "WordSupperModel" "sizes" "[I") (by decide +kernel)) (fun _ h9 => h9) rfl dX5_sheet_121 ?_
                        refine lv_iload_n hx hb dX5_sheet_124 rfl (lv_at hl 1 rfl) ?_
                        refine x_iald hx hb hK hP 8 0 rfl rfl s1 rfl (by omega) (by decide) ((va_up SS s1 0) s1) (gd_at _ (by omega)) dX5_sheet_125 ?_
                        exact kend (((va_up SS s1 0) s1, T, K, ik, (va_up SB s1 0), (va_up SS s1 0), Nt, tn, TB, F), X, Y, j) hP hS rfl (by unfold m_sheet; rw [if_neg (by omega), if_neg (by omega), if_neg (by omega), if_pos rfl, Int.toNat_natCast, ← hr, up_s] <;> rfl) dX5_sheet_126
                      · exfalso; omega
                    | succ k ih =>
                      intro t Nt H locs ls hkt hr hP hD hS hl
                      refine lv_iload hx hb dX5_sheet_94 (lv_at hl 4 rfl) ?_
                      refine x_bipush hx hb dX5_sheet_96 (by decide) ?_
                      refine x_icmp_ge (tgt := 120) hx hb (by omega) (by decide) dX5_sheet_98 (by decide) (fun c_98 => ?_) (fun c_98 => ?_)
                      · exfalso; omega
                      · refine lv_aload_n hx hb dX5_sheet_101 rfl (lv_at hl 0 rfl) ?_
                        refine va_get (D := D) (ci := 4) (v := .ref (r 9)) (C := RX5) (T := TX5) (N := 18) hx hb hts (iT_X5_sheet_X5) hown hK hP 0 rfl rfl 10 (by decide) (hts (.fieldLink RX5 34 "WordSupperModel" "numbers" "[I") (by decide +kernel)) (fun _ h9 => h9) rfl dX5_sheet_102 ?_
                        refine x_bipush hx hb dX5_sheet_105 (by decide) ?_
                        refine lv_iload_n hx hb dX5_sheet_107 rfl (lv_at hl 1 rfl) ?_
                        refine x_imul hx hb dX5_sheet_108 ?_
                        refine x_topi ((40 * s1 : Nat) : Int) (by omega) ?_
                        refine lv_iload hx hb dX5_sheet_109 (lv_at hl 4 rfl) ?_
                        refine x_iadd hx hb dX5_sheet_111 ?_
                        refine x_topi (((40 * s1) + t : Nat) : Int) (by omega) ?_
                        refine x_iconst hx hb dX5_sheet_112 ?_
                        refine x_iast hx hb hK hP hD hS 9 0 rfl rfl ((40 * s1) + t) rfl (by omega) (by decide) (wRo r ik tn j ++ (wA cI (r 1) 100 T ++ (wA cI (r 2) 100 K ++ (wA cI (r 3) 100 X ++ (wA cI (r 4) 100 Y ++ (wA cI (r 5) 8 (fR F) ++ (wA cI (r 6) 120 TB ++ (wA cI (r 7) 4 (bR (va_up SB s1 0)) ++ (wA cI (r 8) 4 (va_up SS s1 0) ++ (wA cI (r 9) 160 (va_up Nt ((40 * s1) + t) 0))))))))))) (by rw [← wA_up cI (r 9) 160 Nt 0 ((40 * s1) + t) (by omega)]; rfl) dX5_sheet_113 (fun H locs hP hD hS => ?_)
                        refine x_iinc hx hb 4 ((t + 1 : Nat) : Int) (by omega) [(4, .int (iI ((t + 1 : Nat) : Int))), (0, .ref (r 0)), (1, .int (iI ((s1 : Nat) : Int))), (2, .int (iI 0)), (3, .int (iI n))] dX5_sheet_114 hl rfl (by decide) rfl (fun ls hl => ?_)
                        refine lv_goto (tgt := 94) hx hb dX5_sheet_117 (by decide) ?_
                        exact ih (t + 1) (va_up Nt ((40 * s1) + t) 0) _ _ _ (by omega) hr hP hD hS (lv_sub hl [1, 2, 3, 4, 0] rfl)
                  exact L94 40 0 SN _ _ _ (by omega) rfl hP hD hS (lv_sub hl [1, 2, 3, 4, 0] rfl)
            · refine lv_aload_n hx hb dX5_sheet_54 rfl (lv_at hl 0 rfl) ?_
              refine x_ldc hx hb (-1000001) rfl hown (hts (.constant RX5 37 (-1000001)) (by decide +kernel)) dX5_sheet_55 ?_
              refine x_callV (As := [.int (iI (-1000001))]) (rest := []) ⟨hx, hb, hml, hown, hts⟩ (kX5_finds r ik tn j F (-1000001) 0 (by omega) (by omega)) (cwV 1 hts gX5_sheet_X5_finds rfl rfl rfl ykVX5_finds ⟨Nat.le_of_ble_eq_true rfl, Nat.le_of_ble_eq_true rfl⟩) hP hK hD hS 0 4 rfl rfl rfl [0, 5] rfl (by decide) (fun _ => rfl) (fun _ => wRo r ik tn j ++ (wA cI (r 1) 100 T ++ (wA cI (r 2) 100 K ++ (wA cI (r 3) 100 X ++ (wA cI (r 4) 100 Y ++ (wA cI (r 5) 8 (fR (bmp 0 F)) ++ (wA cI (r 6) 120 TB ++ (wA cI (r 7) 4 (bR SB) ++ (wA cI (r 8) 4 SS ++ (wA cI (r 9) 160 SN)))))))))) (fun _ => rfl) rfl hl.1 rfl (Nat.le_of_ble_eq_true rfl) dX5_sheet_57 ⟨Nat.le_of_ble_eq_true rfl, Nat.le_of_ble_eq_true rfl⟩ (fun _ H locs _ hP hD hS => ?_)
              refine W.eq (g2 := F0 m 60 ls [.int (iI (-1000001))]) rfl ?_
              exact kend (((-1000001), T, K, ik, SB, SS, SN, tn, TB, (bmp 0 F)), X, Y, j) hP hS rfl (by first | exact ((if_pos (by omega))).symm | exact (((if_neg (by omega)).trans ((if_neg (by omega)).trans (if_pos (by omega))))).symm) dX5_sheet_60
          · refine lv_aload_n hx hb dX5_sheet_40 rfl (lv_at hl 0 rfl) ?_
            refine x_ldcw hx hb (-1000007) rfl hown (hts (.constant RX5 281 (-1000007)) (by decide +kernel)) dX5_sheet_41 ?_
            refine x_callV (As := [.int (iI (-1000007))]) (rest := []) ⟨hx, hb, hml, hown, hts⟩ (kX5_finds r ik tn j F (-1000007) 6 (by omega) (by omega)) (cwV 1 hts gX5_sheet_X5_finds rfl rfl rfl ykVX5_finds ⟨Nat.le_of_ble_eq_true rfl, Nat.le_of_ble_eq_true rfl⟩) hP hK hD hS 0 4 rfl rfl rfl [0, 5] rfl (by decide) (fun _ => rfl) (fun _ => wRo r ik tn j ++ (wA cI (r 1) 100 T ++ (wA cI (r 2) 100 K ++ (wA cI (r 3) 100 X ++ (wA cI (r 4) 100 Y ++ (wA cI (r 5) 8 (fR (bmp 6 F)) ++ (wA cI (r 6) 120 TB ++ (wA cI (r 7) 4 (bR SB) ++ (wA cI (r 8) 4 SS ++ (wA cI (r 9) 160 SN)))))))))) (fun _ => rfl) rfl hl.1 rfl (Nat.le_of_ble_eq_true rfl) dX5_sheet_44 ⟨Nat.le_of_ble_eq_true rfl, Nat.le_of_ble_eq_true rfl⟩ (fun _ H locs _ hP hD hS => ?_)
            refine W.eq (g2 := F0 m 47 ls [.int (iI (-1000007))]) rfl ?_
            exact kend (((-1000007), T, K, ik, SB, SS, SN, tn, TB, (bmp 6 F)), X, Y, j) hP hS rfl (((if_neg (by omega)).trans (if_pos (by omega)))).symm dX5_sheet_47
        · refine lv_iload_n hx hb dX5_sheet_23 rfl (lv_at hl 2 rfl) ?_
          refine x_bipush hx hb dX5_sheet_24 (by decide) ?_
          refine x_icmp_eq (tgt := 36) hx hb (by omega) (by decide) dX5_sheet_26 (by decide) (fun c_26 => ?_) (fun c_26 => ?_)
          · refine lv_iload_n hx hb dX5_sheet_36 rfl (lv_at hl 3 rfl) ?_
            refine x_if_ge (tgt := 48) hx hb (by omega) dX5_sheet_37 (by decide) (fun c_37 => ?_) (fun c_37 => ?_)
            · refine lv_iload_n hx hb dX5_sheet_48 rfl (lv_at hl 3 rfl) ?_
              refine x_bipush hx hb dX5_sheet_49 (by decide) ?_
              refine x_icmp_le (tgt := 61) hx hb (by omega) (by decide) dX5_sheet_51 (by decide) (fun c_51 => ?_) (fun c_51 => ?_)
              · obtain ⟨s1, rfl⟩ : ∃ s1 : Nat, s0 = (s1 : Int) := ⟨s0.toNat, by omega⟩
                refine lv_aload_n hx hb dX5_sheet_61 rfl (lv_at hl 0 rfl) ?_
                refine va_get (D := D) (ci := 4) (v := .ref (r 7)) (C := RX5) (T := TX5) (N := 18) hx hb hts (iT_X5_sheet_X5) hown hK hP 0 rfl rfl 8 (by decide) (hts (.fieldLink RX5 28 "WordSupperModel" "bitsOf" "[I") (by decide +kernel)) (fun _ h9 => h9) rfl dX5_sheet_62 ?_
                refine lv_iload_n hx hb dX5_sheet_65 rfl (lv_at hl 1 rfl) ?_
                refine lv_iload_n hx hb dX5_sheet_66 rfl (lv_at hl 2 rfl) ?_
                refine x_if_ne (tgt := 74) hx hb (by omega) dX5_sheet_67 (by decide) (fun c_67 => ?_) (fun c_67 => ?_)
                · refine lv_iload_n hx hb dX5_sheet_74 rfl (lv_at hl 2 rfl) ?_
                  refine x_iast hx hb hK hP hD hS 7 0 rfl rfl s1 rfl (by omega) (by decide) (wRo r ik tn j ++ (wA cI (r 1) 100 T ++ (wA cI (r 2) 100 K ++ (wA cI (r 3) 100 X ++ (wA cI (r 4) 100 Y ++ (wA cI (r 5) 8 (fR F) ++ (wA cI (r 6) 120 TB ++ (wA cI (r 7) 4 (va_up (bR SB) s1 bt) ++ (wA cI (r 8) 4 SS ++ (wA cI (r 9) 160 SN)))))))))) (by rw [← wA_up cI (r 7) 4 (bR SB) bt s1 (by omega)]; rfl) dX5_sheet_75 (fun H locs hP hD hS => ?_)
                  rw [bR_up1 _ _ (show bt ≠ 0 by omega)] at hP hD
                  refine lv_aload_n hx hb dX5_sheet_76 rfl (lv_at hl 0 rfl) ?_
                  refine va_get (D := D) (ci := 4) (v := .ref (r 8)) (C := RX5) (T := TX5) (N := 18) hx hb hts (iT_X5_sheet_X5) hown hK hP 0 rfl rfl 9 (by decide) (hts (.fieldLink RX5 31 "WordSupperModel" "sizes" "[I") (by decide +kernel)) (fun _ h9 => h9) rfl dX5_sheet_77 ?_
                  refine lv_iload_n hx hb dX5_sheet_80 rfl (lv_at hl 1 rfl) ?_
                  refine lv_iload_n hx hb dX5_sheet_81 rfl (lv_at hl 2 rfl) ?_
                  refine x_if_ne (tgt := 89) hx hb (by omega) dX5_sheet_82 (by decide) (fun c_82 => ?_) (fun c_82 => ?_)
                  · refine lv_iload_n hx hb dX5_sheet_89 rfl (lv_at hl 3 rfl) ?_
                    refine x_iast hx hb hK hP hD hS 8 0 rfl rfl s1 rfl (by omega) (by decide) (wRo r ik tn j ++ (wA cI (r 1) 100 T ++ (wA cI (r 2) 100 K ++ (wA cI (r 3) 100 X ++ (wA cI (r 4) 100 Y ++ (wA cI (r 5) 8 (fR F) ++ (wA cI (r 6) 120 TB ++ (wA cI (r 7) 4 (bR (va_up SB s1 bt)) ++ (wA cI (r 8) 4 (va_up SS s1 n) ++ (wA cI (r 9) 160 SN)))))))))) (by rw [← wA_up cI (r 8) 4 SS n s1 (by omega)]; rfl) dX5_sheet_90 (fun H locs hP hD hS => ?_)
                    refine x_iconst hx hb dX5_sheet_91 ?_
                    refine lv_istore (lv' := [(4, .int (iI 0)), (0, .ref (r 0)), (1, .int (iI ((s1 : Nat) : Int))), (2, .int (iI bt)), (3, .int (iI n))]) hx hb dX5_sheet_92 hl (by decide) rfl (fun ls hl => ?_)
                    have L94 : ∀ (k t : Nat) (Nt : Nat → Int) (H : Heap) (locs : List Loc) (ls : Array Slot), t + k = 40 → (zeF (40 * s1) k t Nt = zeF (40 * s1) 40 0 SN) → va_P D vwCl (wRo r ik tn j ++ (wA cI (r 1) 100 T ++ (wA cI (r 2) 100 K ++ (wA cI (r 3) 100 X ++ (wA cI (r 4) 100 Y ++ (wA cI (r 5) 8 (fR F) ++ (wA cI (r 6) 120 TB ++ (wA cI (r 7) 4 (bR (va_up SB s1 bt)) ++ (wA cI (r 8) 4 (va_up SS s1 n) ++ (wA cI (r 9) 160 Nt)))))))))) H → va_D A (wRo r ik tn j ++ (wA cI (r 1) 100 T ++ (wA cI (r 2) 100 K ++ (wA cI (r 3) 100 X ++ (wA cI (r 4) 100 Y ++ (wA cI (r 5) 8 (fR F) ++ (wA cI (r 6) 120 TB ++ (wA cI (r 7) 4 (bR (va_up SB s1 bt)) ++ (wA cI (r 8) 4 (va_up SS s1 n) ++ (wA cI (r 9) 160 Nt)))))))))) → va_S A s.heap H locs → lv_has ls 5 [(0, .ref (r 0)), (1, .int (iI ((s1 : Nat) : Int))), (2, .int (iI bt)), (3, .int (iI n)), (4, .int (iI ((t : Nat) : Int)))] → W pg l e { frames := 1, cells := 0, slots := 0, locals := 21 } s m args below meth c H locs 0 0 Q (F0 m 94 ls []) := by
                      intro k
                      induction k with
                      | zero =>
                        intro t Nt H locs ls hkt hr hP hD hS hl
                        refine lv_iload hx hb dX5_sheet_94 (lv_at hl 4 rfl) ?_
                        refine x_bipush hx hb dX5_sheet_96 (by decide) ?_
                        refine x_icmp_ge (tgt := 120) hx hb (by omega) (by decide) dX5_sheet_98 (by decide) (fun c_98 => ?_) (fun c_98 => ?_)
                        · refine lv_aload_n hx hb dX5_sheet_120 rfl (lv_at hl 0 rfl) ?_
                          refine va_get (D := D) (ci := 4) (v := .ref (r 8)) (C := RX5) (T := TX5) (N := 18) hx hb hts (iT_X5_sheet_X5) hown hK hP 0 rfl rfl 9 (by decide) (hts (.fieldLink RX5 31 "WordSupperModel" "sizes" "[I") (by decide +kernel)) (fun _ h9 => h9) rfl dX5_sheet_121 ?_
                          refine lv_iload_n hx hb dX5_sheet_124 rfl (lv_at hl 1 rfl) ?_
                          refine x_iald hx hb hK hP 8 0 rfl rfl s1 rfl (by omega) (by decide) ((va_up SS s1 n) s1) (gd_at _ (by omega)) dX5_sheet_125 ?_
                          exact kend (((va_up SS s1 n) s1, T, K, ik, (va_up SB s1 bt), (va_up SS s1 n), Nt, tn, TB, F), X, Y, j) hP hS rfl (by unfold m_sheet; rw [if_neg (by omega), if_neg (by omega), if_neg (by omega), if_neg (by omega), Int.toNat_natCast, ← hr, up_s] <;> rfl) dX5_sheet_126
                        · exfalso; omega
                      | succ k ih =>
                        intro t Nt H locs ls hkt hr hP hD hS hl
                        refine lv_iload hx hb dX5_sheet_94 (lv_at hl 4 rfl) ?_
                        refine x_bipush hx hb dX5_sheet_96 (by decide) ?_
                        refine x_icmp_ge (tgt := 120) hx hb (by omega) (by decide) dX5_sheet_98 (by decide) (fun c_98 => ?_) (fun c_98 => ?_)
                        · exfalso; omega
                        · refine lv_aload_n hx hb dX5_sheet_101 rfl (lv_at hl 0 rfl) ?_
                          refine va_get (D := D) (ci := 4) (v := .ref (r 9)) (C := RX5) (T := TX5) (N := 18) hx hb hts (iT_X5_sheet_X5) hown hK hP 0 rfl rfl 10 (by decide) (hts (.fieldLink RX5 34 "WordSupperModel" "numbers" "[I") (by decide +kernel)) (fun _ h9 => h9) rfl dX5_sheet_102 ?_
                          refine x_bipush hx hb dX5_sheet_105 (by decide) ?_
                          refine lv_iload_n hx hb dX5_sheet_107 rfl (lv_at hl 1 rfl) ?_
                          refine x_imul hx hb dX5_sheet_108 ?_
                          refine x_topi ((40 * s1 : Nat) : Int) (by omega) ?_
                          refine lv_iload hx hb dX5_sheet_109 (lv_at hl 4 rfl) ?_
                          refine x_iadd hx hb dX5_sheet_111 ?_
                          refine x_topi (((40 * s1) + t : Nat) : Int) (by omega) ?_
                          refine x_iconst hx hb dX5_sheet_112 ?_
                          refine x_iast hx hb hK hP hD hS 9 0 rfl rfl ((40 * s1) + t) rfl (by omega) (by decide) (wRo r ik tn j ++ (wA cI (r 1) 100 T ++ (wA cI (r 2) 100 K ++ (wA cI (r 3) 100 X ++ (wA cI (r 4) 100 Y ++ (wA cI (r 5) 8 (fR F) ++ (wA cI (r 6) 120 TB ++ (wA cI (r 7) 4 (bR (va_up SB s1 bt)) ++ (wA cI (r 8) 4 (va_up SS s1 n) ++ (wA cI (r 9) 160 (va_up Nt ((40 * s1) + t) 0))))))))))) (by rw [← wA_up cI (r 9) 160 Nt 0 ((40 * s1) + t) (by omega)]; rfl) dX5_sheet_113 (fun H locs hP hD hS => ?_)
                          refine x_iinc hx hb 4 ((t + 1 : Nat) : Int) (by omega) [(4, .int (iI ((t + 1 : Nat) : Int))), (0, .ref (r 0)), (1, .int (iI ((s1 : Nat) : Int))), (2, .int (iI bt)), (3, .int (iI n))] dX5_sheet_114 hl rfl (by decide) rfl (fun ls hl => ?_)
                          refine lv_goto (tgt := 94) hx hb dX5_sheet_117 (by decide) ?_
                          exact ih (t + 1) (va_up Nt ((40 * s1) + t) 0) _ _ _ (by omega) hr hP hD hS (lv_sub hl [1, 2, 3, 4, 0] rfl)
                    exact L94 40 0 SN _ _ _ (by omega) rfl hP hD hS (lv_sub hl [1, 2, 3, 4, 0] rfl)
                  · refine x_iconst hx hb dX5_sheet_85 ?_
                    refine lv_goto (tgt := 90) hx hb dX5_sheet_86 (by decide) ?_
                    refine x_iast hx hb hK hP hD hS 8 0 rfl rfl s1 rfl (by omega) (by decide) (wRo r ik tn j ++ (wA cI (r 1) 100 T ++ (wA cI (r 2) 100 K ++ (wA cI (r 3) 100 X ++ (wA cI (r 4) 100 Y ++ (wA cI (r 5) 8 (fR F) ++ (wA cI (r 6) 120 TB ++ (wA cI (r 7) 4 (bR (va_up SB s1 bt)) ++ (wA cI (r 8) 4 (va_up SS s1 0) ++ (wA cI (r 9) 160 SN)))))))))) (by rw [← wA_up cI (r 8) 4 SS 0 s1 (by omega)]; rfl) dX5_sheet_90 (fun H locs hP hD hS => ?_)
                    refine x_iconst hx hb dX5_sheet_91 ?_
                    refine lv_istore (lv' := [(4, .int (iI 0)), (0, .ref (r 0)), (1, .int (iI ((s1 : Nat) : Int))), (2, .int (iI bt)), (3, .int (iI n))]) hx hb dX5_sheet_92 hl (by decide) rfl (fun ls hl => ?_)
                    have L94 : ∀ (k t : Nat) (Nt : Nat → Int) (H : Heap) (locs : List Loc) (ls : Array Slot), t + k = 40 → (zeF (40 * s1) k t Nt = zeF (40 * s1) 40 0 SN) → va_P D vwCl (wRo r ik tn j ++ (wA cI (r 1) 100 T ++ (wA cI (r 2) 100 K ++ (wA cI (r 3) 100 X ++ (wA cI (r 4) 100 Y ++ (wA cI (r 5) 8 (fR F) ++ (wA cI (r 6) 120 TB ++ (wA cI (r 7) 4 (bR (va_up SB s1 bt)) ++ (wA cI (r 8) 4 (va_up SS s1 0) ++ (wA cI (r 9) 160 Nt)))))))))) H → va_D A (wRo r ik tn j ++ (wA cI (r 1) 100 T ++ (wA cI (r 2) 100 K ++ (wA cI (r 3) 100 X ++ (wA cI (r 4) 100 Y ++ (wA cI (r 5) 8 (fR F) ++ (wA cI (r 6) 120 TB ++ (wA cI (r 7) 4 (bR (va_up SB s1 bt)) ++ (wA cI (r 8) 4 (va_up SS s1 0) ++ (wA cI (r 9) 160 Nt)))))))))) → va_S A s.heap H locs → lv_has ls 5 [(0, .ref (r 0)), (1, .int (iI ((s1 : Nat) : Int))), (2, .int (iI bt)), (3, .int (iI n)), (4, .int (iI ((t : Nat) : Int)))] → W pg l e { frames := 1, cells := 0, slots := 0, locals := 21 } s m args below meth c H locs 0 0 Q (F0 m 94 ls []) := by
                      intro k
                      induction k with
                      | zero =>
                        intro t Nt H locs ls hkt hr hP hD hS hl
                        refine lv_iload hx hb dX5_sheet_94 (lv_at hl 4 rfl) ?_
                        refine x_bipush hx hb dX5_sheet_96 (by decide) ?_
                        refine x_icmp_ge (tgt := 120) hx hb (by omega) (by decide) dX5_sheet_98 (by decide) (fun c_98 => ?_) (fun c_98 => ?_)
                        · refine lv_aload_n hx hb dX5_sheet_120 rfl (lv_at hl 0 rfl) ?_
                          refine va_get (D := D) (ci := 4) (v := .ref (r 8)) (C := RX5) (T := TX5) (N := 18) hx hb hts (iT_X5_sheet_X5) hown hK hP 0 rfl rfl 9 (by decide) (hts (.fieldLink RX5 31 "WordSupperModel" "sizes" "[I") (by decide +kernel)) (fun _ h9 => h9) rfl dX5_sheet_121 ?_
                          refine lv_iload_n hx hb dX5_sheet_124 rfl (lv_at hl 1 rfl) ?_
                          refine x_iald hx hb hK hP 8 0 rfl rfl s1 rfl (by omega) (by decide) ((va_up SS s1 0) s1) (gd_at _ (by omega)) dX5_sheet_125 ?_
                          exact kend (((va_up SS s1 0) s1, T, K, ik, (va_up SB s1 bt), (va_up SS s1 0), Nt, tn, TB, F), X, Y, j) hP hS rfl (by unfold m_sheet; rw [if_neg (by omega), if_neg (by omega), if_neg (by omega), if_neg (by omega), Int.toNat_natCast, ← hr, up_s] <;> rfl) dX5_sheet_126
                        · exfalso; omega
                      | succ k ih =>
                        intro t Nt H locs ls hkt hr hP hD hS hl
                        refine lv_iload hx hb dX5_sheet_94 (lv_at hl 4 rfl) ?_
                        refine x_bipush hx hb dX5_sheet_96 (by decide) ?_
                        refine x_icmp_ge (tgt := 120) hx hb (by omega) (by decide) dX5_sheet_98 (by decide) (fun c_98 => ?_) (fun c_98 => ?_)
                        · exfalso; omega
                        · refine lv_aload_n hx hb dX5_sheet_101 rfl (lv_at hl 0 rfl) ?_
                          refine va_get (D := D) (ci := 4) (v := .ref (r 9)) (C := RX5) (T := TX5) (N := 18) hx hb hts (iT_X5_sheet_X5) hown hK hP 0 rfl rfl 10 (by decide) (hts (.fieldLink RX5 34 "WordSupperModel" "numbers" "[I") (by decide +kernel)) (fun _ h9 => h9) rfl dX5_sheet_102 ?_
                          refine x_bipush hx hb dX5_sheet_105 (by decide) ?_
                          refine lv_iload_n hx hb dX5_sheet_107 rfl (lv_at hl 1 rfl) ?_
                          refine x_imul hx hb dX5_sheet_108 ?_
                          refine x_topi ((40 * s1 : Nat) : Int) (by omega) ?_
                          refine lv_iload hx hb dX5_sheet_109 (lv_at hl 4 rfl) ?_
                          refine x_iadd hx hb dX5_sheet_111 ?_
                          refine x_topi (((40 * s1) + t : Nat) : Int) (by omega) ?_
                          refine x_iconst hx hb dX5_sheet_112 ?_
                          refine x_iast hx hb hK hP hD hS 9 0 rfl rfl ((40 * s1) + t) rfl (by omega) (by decide) (wRo r ik tn j ++ (wA cI (r 1) 100 T ++ (wA cI (r 2) 100 K ++ (wA cI (r 3) 100 X ++ (wA cI (r 4) 100 Y ++ (wA cI (r 5) 8 (fR F) ++ (wA cI (r 6) 120 TB ++ (wA cI (r 7) 4 (bR (va_up SB s1 bt)) ++ (wA cI (r 8) 4 (va_up SS s1 0) ++ (wA cI (r 9) 160 (va_up Nt ((40 * s1) + t) 0))))))))))) (by rw [← wA_up cI (r 9) 160 Nt 0 ((40 * s1) + t) (by omega)]; rfl) dX5_sheet_113 (fun H locs hP hD hS => ?_)
                          refine x_iinc hx hb 4 ((t + 1 : Nat) : Int) (by omega) [(4, .int (iI ((t + 1 : Nat) : Int))), (0, .ref (r 0)), (1, .int (iI ((s1 : Nat) : Int))), (2, .int (iI bt)), (3, .int (iI n))] dX5_sheet_114 hl rfl (by decide) rfl (fun ls hl => ?_)
                          refine lv_goto (tgt := 94) hx hb dX5_sheet_117 (by decide) ?_
                          exact ih (t + 1) (va_up Nt ((40 * s1) + t) 0) _ _ _ (by omega) hr hP hD hS (lv_sub hl [1, 2, 3, 4, 0] rfl)
                    exact L94 40 0 SN _ _ _ (by omega) rfl hP hD hS (lv_sub hl [1, 2, 3, 4, 0] rfl)
                · obtain rfl : bt = 0 := by omega
                  refine x_iconst hx hb dX5_sheet_70 ?_
                  refine lv_goto (tgt := 75) hx hb dX5_sheet_71 (by decide) ?_
                  refine x_iast hx hb hK hP hD hS 7 0 rfl rfl s1 rfl (by omega) (by decide) (wRo r ik tn j ++ (wA cI (r 1) 100 T ++ (wA cI (r 2) 100 K ++ (wA cI (r 3) 100 X ++ (wA cI (r 4) 100 Y ++ (wA cI (r 5) 8 (fR F) ++ (wA cI (r 6) 120 TB ++ (wA cI (r 7) 4 (va_up (bR SB) s1 (-1)) ++ (wA cI (r 8) 4 SS ++ (wA cI (r 9) 160 SN)))))))))) (by rw [← wA_up cI (r 7) 4 (bR SB) (-1) s1 (by omega)]; rfl) dX5_sheet_75 (fun H locs hP hD hS => ?_)
                  rw [bR_up0] at hP hD
                  refine lv_aload_n hx hb dX5_sheet_76 rfl (lv_at hl 0 rfl) ?_
                  refine va_get (D := D) (ci := 4) (v := .ref (r 8)) (C := RX5) (T := TX5) (N := 18) hx hb hts (iT_X5_sheet_X5) hown hK hP 0 rfl rfl 9 (by decide) (hts (.fieldLink RX5 31 "WordSupperModel" "sizes" "[I") (by decide +kernel)) (fun _ h9 => h9) rfl dX5_sheet_77 ?_
                  refine lv_iload_n hx hb dX5_sheet_80 rfl (lv_at hl 1 rfl) ?_
                  refine lv_iload_n hx hb dX5_sheet_81 rfl (lv_at hl 2 rfl) ?_
                  refine x_if_ne (tgt := 89) hx hb (by decide) dX5_sheet_82 (by decide) (fun c_82 => ?_) (fun c_82 => ?_)
                  · exact absurd c_82 (by decide)
                  · refine x_iconst hx hb dX5_sheet_85 ?_
                    refine lv_goto (tgt := 90) hx hb dX5_sheet_86 (by decide) ?_
                    refine x_iast hx hb hK hP hD hS 8 0 rfl rfl s1 rfl (by omega) (by decide) (wRo r ik tn j ++ (wA cI (r 1) 100 T ++ (wA cI (r 2) 100 K ++ (wA cI (r 3) 100 X ++ (wA cI (r 4) 100 Y ++ (wA cI (r 5) 8 (fR F) ++ (wA cI (r 6) 120 TB ++ (wA cI (r 7) 4 (bR (va_up SB s1 0)) ++ (wA cI (r 8) 4 (va_up SS s1 0) ++ (wA cI (r 9) 160 SN)))))))))) (by rw [← wA_up cI (r 8) 4 SS 0 s1 (by omega)]; rfl) dX5_sheet_90 (fun H locs hP hD hS => ?_)
                    refine x_iconst hx hb dX5_sheet_91 ?_
                    refine lv_istore (lv' := [(4, .int (iI 0)), (0, .ref (r 0)), (1, .int (iI ((s1 : Nat) : Int))), (2, .int (iI 0)), (3, .int (iI n))]) hx hb dX5_sheet_92 hl (by decide) rfl (fun ls hl => ?_)
                    have L94 : ∀ (k t : Nat) (Nt : Nat → Int) (H : Heap) (locs : List Loc) (ls : Array Slot), t + k = 40 → (zeF (40 * s1) k t Nt = zeF (40 * s1) 40 0 SN) → va_P D vwCl (wRo r ik tn j ++ (wA cI (r 1) 100 T ++ (wA cI (r 2) 100 K ++ (wA cI (r 3) 100 X ++ (wA cI (r 4) 100 Y ++ (wA cI (r 5) 8 (fR F) ++ (wA cI (r 6) 120 TB ++ (wA cI (r 7) 4 (bR (va_up SB s1 0)) ++ (wA cI (r 8) 4 (va_up SS s1 0) ++ (wA cI (r 9) 160 Nt)))))))))) H → va_D A (wRo r ik tn j ++ (wA cI (r 1) 100 T ++ (wA cI (r 2) 100 K ++ (wA cI (r 3) 100 X ++ (wA cI (r 4) 100 Y ++ (wA cI (r 5) 8 (fR F) ++ (wA cI (r 6) 120 TB ++ (wA cI (r 7) 4 (bR (va_up SB s1 0)) ++ (wA cI (r 8) 4 (va_up SS s1 0) ++ (wA cI (r 9) 160 Nt)))))))))) → va_S A s.heap H locs → lv_has ls 5 [(0, .ref (r 0)), (1, .int (iI ((s1 : Nat) : Int))), (2, .int (iI 0)), (3, .int (iI n)), (4, .int (iI ((t : Nat) : Int)))] → W pg l e { frames := 1, cells := 0, slots := 0, locals := 21 } s m args below meth c H locs 0 0 Q (F0 m 94 ls []) := by
                      intro k
                      induction k with
                      | zero =>
                        intro t Nt H locs ls hkt hr hP hD hS hl
                        refine lv_iload hx hb dX5_sheet_94 (lv_at hl 4 rfl) ?_
                        refine x_bipush hx hb dX5_sheet_96 (by decide) ?_
                        refine x_icmp_ge (tgt := 120) hx hb (by omega) (by decide) dX5_sheet_98 (by decide) (fun c_98 => ?_) (fun c_98 => ?_)
                        · refine lv_aload_n hx hb dX5_sheet_120 rfl (lv_at hl 0 rfl) ?_
                          refine va_get (D := D) (ci := 4) (v := .ref (r 8)) (C := RX5) (T := TX5) (N := 18) hx hb hts (iT_X5_sheet_X5) hown hK hP 0 rfl rfl 9 (by decide) (hts (.fieldLink RX5 31 "WordSupperModel" "sizes" "[I") (by decide +kernel)) (fun _ h9 => h9) rfl dX5_sheet_121 ?_
                          refine lv_iload_n hx hb dX5_sheet_124 rfl (lv_at hl 1 rfl) ?_
                          refine x_iald hx hb hK hP 8 0 rfl rfl s1 rfl (by omega) (by decide) ((va_up SS s1 0) s1) (gd_at _ (by omega)) dX5_sheet_125 ?_
                          exact kend (((va_up SS s1 0) s1, T, K, ik, (va_up SB s1 0), (va_up SS s1 0), Nt, tn, TB, F), X, Y, j) hP hS rfl (by unfold m_sheet; rw [if_neg (by omega), if_neg (by omega), if_neg (by omega), if_pos rfl, Int.toNat_natCast, ← hr, up_s] <;> rfl) dX5_sheet_126
                        · exfalso; omega
                      | succ k ih =>
                        intro t Nt H locs ls hkt hr hP hD hS hl
                        refine lv_iload hx hb dX5_sheet_94 (lv_at hl 4 rfl) ?_
                        refine x_bipush hx hb dX5_sheet_96 (by decide) ?_
                        refine x_icmp_ge (tgt := 120) hx hb (by omega) (by decide) dX5_sheet_98 (by decide) (fun c_98 => ?_) (fun c_98 => ?_)
                        · exfalso; omega
                        · refine lv_aload_n hx hb dX5_sheet_101 rfl (lv_at hl 0 rfl) ?_
                          refine va_get (D := D) (ci := 4) (v := .ref (r 9)) (C := RX5) (T := TX5) (N := 18) hx hb hts (iT_X5_sheet_X5) hown hK hP 0 rfl rfl 10 (by decide) (hts (.fieldLink RX5 34 "WordSupperModel" "numbers" "[I") (by decide +kernel)) (fun _ h9 => h9) rfl dX5_sheet_102 ?_
                          refine x_bipush hx hb dX5_sheet_105 (by decide) ?_
                          refine lv_iload_n hx hb dX5_sheet_107 rfl (lv_at hl 1 rfl) ?_
                          refine x_imul hx hb dX5_sheet_108 ?_
                          refine x_topi ((40 * s1 : Nat) : Int) (by omega) ?_
                          refine lv_iload hx hb dX5_sheet_109 (lv_at hl 4 rfl) ?_
                          refine x_iadd hx hb dX5_sheet_111 ?_
                          refine x_topi (((40 * s1) + t : Nat) : Int) (by omega) ?_
                          refine x_iconst hx hb dX5_sheet_112 ?_
                          refine x_iast hx hb hK hP hD hS 9 0 rfl rfl ((40 * s1) + t) rfl (by omega) (by decide) (wRo r ik tn j ++ (wA cI (r 1) 100 T ++ (wA cI (r 2) 100 K ++ (wA cI (r 3) 100 X ++ (wA cI (r 4) 100 Y ++ (wA cI (r 5) 8 (fR F) ++ (wA cI (r 6) 120 TB ++ (wA cI (r 7) 4 (bR (va_up SB s1 0)) ++ (wA cI (r 8) 4 (va_up SS s1 0) ++ (wA cI (r 9) 160 (va_up Nt ((40 * s1) + t) 0))))))))))) (by rw [← wA_up cI (r 9) 160 Nt 0 ((40 * s1) + t) (by omega)]; rfl) dX5_sheet_113 (fun H locs hP hD hS => ?_)
                          refine x_iinc hx hb 4 ((t + 1 : Nat) : Int) (by omega) [(4, .int (iI ((t + 1 : Nat) : Int))), (0, .ref (r 0)), (1, .int (iI ((s1 : Nat) : Int))), (2, .int (iI 0)), (3, .int (iI n))] dX5_sheet_114 hl rfl (by decide) rfl (fun ls hl => ?_)
                          refine lv_goto (tgt := 94) hx hb dX5_sheet_117 (by decide) ?_
                          exact ih (t + 1) (va_up Nt ((40 * s1) + t) 0) _ _ _ (by omega) hr hP hD hS (lv_sub hl [1, 2, 3, 4, 0] rfl)
                    exact L94 40 0 SN _ _ _ (by omega) rfl hP hD hS (lv_sub hl [1, 2, 3, 4, 0] rfl)
              · refine lv_aload_n hx hb dX5_sheet_54 rfl (lv_at hl 0 rfl) ?_
                refine x_ldc hx hb (-1000001) rfl hown (hts (.constant RX5 37 (-1000001)) (by decide +kernel)) dX5_sheet_55 ?_
                refine x_callV (As := [.int (iI (-1000001))]) (rest := []) ⟨hx, hb, hml, hown, hts⟩ (kX5_finds r ik tn j F (-1000001) 0 (by omega) (by omega)) (cwV 1 hts gX5_sheet_X5_finds rfl rfl rfl ykVX5_finds ⟨Nat.le_of_ble_eq_true rfl, Nat.le_of_ble_eq_true rfl⟩) hP hK hD hS 0 4 rfl rfl rfl [0, 5] rfl (by decide) (fun _ => rfl) (fun _ => wRo r ik tn j ++ (wA cI (r 1) 100 T ++ (wA cI (r 2) 100 K ++ (wA cI (r 3) 100 X ++ (wA cI (r 4) 100 Y ++ (wA cI (r 5) 8 (fR (bmp 0 F)) ++ (wA cI (r 6) 120 TB ++ (wA cI (r 7) 4 (bR SB) ++ (wA cI (r 8) 4 SS ++ (wA cI (r 9) 160 SN)))))))))) (fun _ => rfl) rfl hl.1 rfl (Nat.le_of_ble_eq_true rfl) dX5_sheet_57 ⟨Nat.le_of_ble_eq_true rfl, Nat.le_of_ble_eq_true rfl⟩ (fun _ H locs _ hP hD hS => ?_)
                refine W.eq (g2 := F0 m 60 ls [.int (iI (-1000001))]) rfl ?_
                exact kend (((-1000001), T, K, ik, SB, SS, SN, tn, TB, (bmp 0 F)), X, Y, j) hP hS rfl (by first | exact ((if_pos (by omega))).symm | exact (((if_neg (by omega)).trans ((if_neg (by omega)).trans (if_pos (by omega))))).symm) dX5_sheet_60
            · refine lv_aload_n hx hb dX5_sheet_40 rfl (lv_at hl 0 rfl) ?_
              refine x_ldcw hx hb (-1000007) rfl hown (hts (.constant RX5 281 (-1000007)) (by decide +kernel)) dX5_sheet_41 ?_
              refine x_callV (As := [.int (iI (-1000007))]) (rest := []) ⟨hx, hb, hml, hown, hts⟩ (kX5_finds r ik tn j F (-1000007) 6 (by omega) (by omega)) (cwV 1 hts gX5_sheet_X5_finds rfl rfl rfl ykVX5_finds ⟨Nat.le_of_ble_eq_true rfl, Nat.le_of_ble_eq_true rfl⟩) hP hK hD hS 0 4 rfl rfl rfl [0, 5] rfl (by decide) (fun _ => rfl) (fun _ => wRo r ik tn j ++ (wA cI (r 1) 100 T ++ (wA cI (r 2) 100 K ++ (wA cI (r 3) 100 X ++ (wA cI (r 4) 100 Y ++ (wA cI (r 5) 8 (fR (bmp 6 F)) ++ (wA cI (r 6) 120 TB ++ (wA cI (r 7) 4 (bR SB) ++ (wA cI (r 8) 4 SS ++ (wA cI (r 9) 160 SN)))))))))) (fun _ => rfl) rfl hl.1 rfl (Nat.le_of_ble_eq_true rfl) dX5_sheet_44 ⟨Nat.le_of_ble_eq_true rfl, Nat.le_of_ble_eq_true rfl⟩ (fun _ H locs _ hP hD hS => ?_)
              refine W.eq (g2 := F0 m 47 ls [.int (iI (-1000007))]) rfl ?_
              exact kend (((-1000007), T, K, ik, SB, SS, SN, tn, TB, (bmp 6 F)), X, Y, j) hP hS rfl (((if_neg (by omega)).trans (if_pos (by omega)))).symm dX5_sheet_47
          · refine lv_aload_n hx hb dX5_sheet_29 rfl (lv_at hl 0 rfl) ?_
            refine x_ldc hx hb (-1000001) rfl hown (hts (.constant RX5 37 (-1000001)) (by decide +kernel)) dX5_sheet_30 ?_
            refine x_callV (As := [.int (iI (-1000001))]) (rest := []) ⟨hx, hb, hml, hown, hts⟩ (kX5_finds r ik tn j F (-1000001) 0 (by omega) (by omega)) (cwV 1 hts gX5_sheet_X5_finds rfl rfl rfl ykVX5_finds ⟨Nat.le_of_ble_eq_true rfl, Nat.le_of_ble_eq_true rfl⟩) hP hK hD hS 0 4 rfl rfl rfl [0, 5] rfl (by decide) (fun _ => rfl) (fun _ => wRo r ik tn j ++ (wA cI (r 1) 100 T ++ (wA cI (r 2) 100 K ++ (wA cI (r 3) 100 X ++ (wA cI (r 4) 100 Y ++ (wA cI (r 5) 8 (fR (bmp 0 F)) ++ (wA cI (r 6) 120 TB ++ (wA cI (r 7) 4 (bR SB) ++ (wA cI (r 8) 4 SS ++ (wA cI (r 9) 160 SN)))))))))) (fun _ => rfl) rfl hl.1 rfl (Nat.le_of_ble_eq_true rfl) dX5_sheet_32 ⟨Nat.le_of_ble_eq_true rfl, Nat.le_of_ble_eq_true rfl⟩ (fun _ H locs _ hP hD hS => ?_)
            refine W.eq (g2 := F0 m 35 ls [.int (iI (-1000001))]) rfl ?_
            exact kend (((-1000001), T, K, ik, SB, SS, SN, tn, TB, (bmp 0 F)), X, Y, j) hP hS rfl (by first | exact ((if_pos (by omega))).symm | exact (((if_neg (by omega)).trans ((if_neg (by omega)).trans (if_pos (by omega))))).symm) dX5_sheet_35
theorem ykSX5_write : yX5_write.cls ≠ "java/lang/invoke/MethodHandle" ∧ yX5_write.cls ≠ "java/lang/invoke/VarHandle" ∧ (parseMethodDescriptor yX5_write.desc).map (fun d => d.parameters.length) = some 3 := by decide +kernel
theorem ykVX5_write : yX5_write.cls = RX5 ∧ yX5_write.cls ≠ "java/lang/invoke/MethodHandle" ∧ yX5_write.cls ≠ "java/lang/invoke/VarHandle" ∧ (parseMethodDescriptor yX5_write.desc).map (fun d => d.parameters.length) = some 3 := ⟨rfl, ykSX5_write⟩
set_option maxRecDepth 20000 in
theorem iT_X5_write_X5 : ∀ w ∈ u_ws RX5 TX5 18, w ∈ wsX5_write := by decide +kernel
set_option maxHeartbeats 4000000 in
set_option maxRecDepth 100000 in
theorem kX5_write {l : Launch} {D : va_G} {cI cB : ClassId} (r : Nat → Nat) (T K : Tb) (ik : Int) (SB SS SN : Nat → Int) (tn : Int) (TB F : Nat → Int) (X Y : Tb) (j : Nat → Int) (s0 i v : Int) (B : Int) (hG : GI B T K ik SB SS SN tn TB F) (hB : B ≤ 40000) (h_s0 : rI s0) (h_i : rI i) (h_v : rI v) : Ct l yX5_write wsX5_write 1 25 D [(cI, .int), (cB, .byte)] [.ref (r 0), .int (iI s0), .int (iI i), .int (iI v)] (wM cI r (T, K, ik, SB, SS, SN, tn, TB, F) X Y j) (S := (Int × Gs) × Tb × Tb × (Nat → Int)) (fun u => some (.int (iI u.1.1))) (fun u => u.1 = m_write s0 i v T K ik SB SS SN tn TB F) (fun u => wM cI r u.1.2 u.2.1 u.2.2.1 u.2.2.2) := by
  refine CtI.of (cc := cX5_write) (maxL := 4) (by decide +kernel) rfl (Nat.le_of_ble_eq_true rfl) ?_
  intro pg e s m args below meth c Q A hx hb hml hts hown hP hK hD hS ls hl kend
  have hown : s.vm.findClass RX5 = some m.cls := hown
  have hl : lv_has ls 4 [(0, .ref (r 0)), (1, .int (iI s0)), (2, .int (iI i)), (3, .int (iI v))] := hl
  obtain ⟨hI, hIK, hik, hSB, hSS, hSN, htn, hTB, hF⟩ := id hG
  have hn := Inv_n hI
  have hdy := Inv_d hI
  have hP : va_P D vwCl (wRo r ik tn j ++ (wA cI (r 1) 100 T ++ (wA cI (r 2) 100 K ++ (wA cI (r 3) 100 X ++ (wA cI (r 4) 100 Y ++ (wA cI (r 5) 8 (fR F) ++ (wA cI (r 6) 120 TB ++ (wA cI (r 7) 4 (bR SB) ++ (wA cI (r 8) 4 SS ++ (wA cI (r 9) 160 SN)))))))))) s.heap := hP
  have hD : va_D A (wRo r ik tn j ++ (wA cI (r 1) 100 T ++ (wA cI (r 2) 100 K ++ (wA cI (r 3) 100 X ++ (wA cI (r 4) 100 Y ++ (wA cI (r 5) 8 (fR F) ++ (wA cI (r 6) 120 TB ++ (wA cI (r 7) 4 (bR SB) ++ (wA cI (r 8) 4 SS ++ (wA cI (r 9) 160 SN)))))))))) := hD
  refine lv_iload_n hx hb dX5_write_0 rfl (lv_at hl 1 rfl) ?_
  refine x_callS (As := [.int (iI s0)]) (rest := []) ⟨hx, hb, hml, hown, hts⟩ (kX5_isSheet s0 (by omega)) (va_cwS 1 hts gX5_write_X5_isSheet rfl rfl rfl ykSX5_isSheet ⟨Nat.le_of_ble_eq_true rfl, Nat.le_of_ble_eq_true rfl⟩) hP hK hD hS [] rfl (by decide) (fun _ => rfl) (fun _ => wRo r ik tn j ++ (wA cI (r 1) 100 T ++ (wA cI (r 2) 100 K ++ (wA cI (r 3) 100 X ++ (wA cI (r 4) 100 Y ++ (wA cI (r 5) 8 (fR F) ++ (wA cI (r 6) 120 TB ++ (wA cI (r 7) 4 (bR SB) ++ (wA cI (r 8) 4 SS ++ (wA cI (r 9) 160 SN)))))))))) (fun _ => rfl) rfl hl.1 rfl (Nat.le_of_ble_eq_true rfl) dX5_write_1 ⟨Nat.le_of_ble_eq_true rfl, Nat.le_of_ble_eq_true rfl⟩ (fun _ H locs _ hP hD hS => ?_)
  refine W.eq (g2 := F0 m 4 ls [.int (iI (b2 (decide (0 ≤ s0 ∧ s0 < 4))))]) rfl ?_
  refine x_ifb_ne (tgt := 14) hx hb dX5_write_4 (by decide) (fun c_4 => ?_) (fun c_4 => ?_)
  · obtain ⟨s1, rfl⟩ : ∃ s1 : Nat, s0 = (s1 : Int) := ⟨s0.toNat, by omega⟩
    have hbr := bR_c SB s1
    have hv := hSB s1 (by omega)
    have hz := hSS s1 (by omega)
    refine lv_aload_n hx hb dX5_write_14 rfl (lv_at hl 0 rfl) ?_
    refine va_get (D := D) (ci := 4) (v := .ref (r 7)) (C := RX5) (T := TX5) (N := 18) hx hb hts (iT_X5_write_X5) hown hK hP 0 rfl rfl 8 (by decide) (hts (.fieldLink RX5 28 "WordSupperModel" "bitsOf" "[I") (by decide +kernel)) (fun _ h9 => h9) rfl dX5_write_15 ?_
    refine lv_iload_n hx hb dX5_write_18 rfl (lv_at hl 1 rfl) ?_
    refine x_iald hx hb hK hP 7 0 rfl rfl s1 rfl (by omega) (by decide) ((bR SB) s1) (gd_at _ (by omega)) dX5_write_19 ?_
    refine x_if_ge (tgt := 31) hx hb (by omega) dX5_write_20 (by decide) (fun c_20 => ?_) (fun c_20 => ?_)
    · refine lv_iload_n hx hb dX5_write_31 rfl (lv_at hl 2 rfl) ?_
      refine x_i2l hx hb (by omega) dX5_write_32 ?_
      refine x_lconst hx hb 0 rfl dX5_write_33 ?_
      refine lv_aload_n hx hb dX5_write_34 rfl (lv_at hl 0 rfl) ?_
      refine va_get (D := D) (ci := 4) (v := .ref (r 8)) (C := RX5) (T := TX5) (N := 18) hx hb hts (iT_X5_write_X5) hown hK hP 0 rfl rfl 9 (by decide) (hts (.fieldLink RX5 31 "WordSupperModel" "sizes" "[I") (by decide +kernel)) (fun _ h9 => h9) rfl dX5_write_35 ?_
      refine lv_iload_n hx hb dX5_write_38 rfl (lv_at hl 1 rfl) ?_
      refine x_iald hx hb hK hP 8 0 rfl rfl s1 rfl (by omega) (by decide) (SS s1) (gd_at _ (by omega)) dX5_write_39 ?_
      refine x_iconst hx hb dX5_write_40 ?_
      refine x_isub hx hb dX5_write_41 ?_
      refine x_i2l hx hb (by omega) dX5_write_42 ?_
      refine x_callS (As := [.long (lI i), .long (lI 0), .long (lI ((SS s1) - 1))]) (rest := []) ⟨hx, hb, hml, hown, hts⟩ (kX5_isIn i 0 ((SS s1) - 1) (by omega) (by omega) (by omega)) (va_cwS 3 hts gX5_write_X5_isIn rfl rfl rfl ykSX5_isIn ⟨Nat.le_of_ble_eq_true rfl, Nat.le_of_ble_eq_true rfl⟩) hP hK hD hS [] rfl (by decide) (fun _ => rfl) (fun _ => wRo r ik tn j ++ (wA cI (r 1) 100 T ++ (wA cI (r 2) 100 K ++ (wA cI (r 3) 100 X ++ (wA cI (r 4) 100 Y ++ (wA cI (r 5) 8 (fR F) ++ (wA cI (r 6) 120 TB ++ (wA cI (r 7) 4 (bR SB) ++ (wA cI (r 8) 4 SS ++ (wA cI (r 9) 160 SN)))))))))) (fun _ => rfl) rfl hl.1 rfl (Nat.le_of_ble_eq_true rfl) dX5_write_43 ⟨Nat.le_of_ble_eq_true rfl, Nat.le_of_ble_eq_true rfl⟩ (fun _ H locs _ hP hD hS => ?_)
      refine W.eq (g2 := F0 m 46 ls [.int (iI (b2 (decide (0 ≤ i ∧ i ≤ ((SS s1) - 1)))))]) rfl ?_
      refine x_ifb_ne (tgt := 56) hx hb dX5_write_46 (by decide) (fun c_46 => ?_) (fun c_46 => ?_)
      · obtain ⟨i1, rfl⟩ : ∃ i1 : Nat, i = (i1 : Int) := ⟨i.toNat, by omega⟩
        refine lv_aload_n hx hb dX5_write_56 rfl (lv_at hl 0 rfl) ?_
        refine va_get (D := D) (ci := 4) (v := .ref (r 9)) (C := RX5) (T := TX5) (N := 18) hx hb hts (iT_X5_write_X5) hown hK hP 0 rfl rfl 10 (by decide) (hts (.fieldLink RX5 34 "WordSupperModel" "numbers" "[I") (by decide +kernel)) (fun _ h9 => h9) rfl dX5_write_57 ?_
        refine x_bipush hx hb dX5_write_60 (by decide) ?_
        refine lv_iload_n hx hb dX5_write_62 rfl (lv_at hl 1 rfl) ?_
        refine x_imul hx hb dX5_write_63 ?_
        refine x_topi ((40 * s1 : Nat) : Int) (by omega) ?_
        refine lv_iload_n hx hb dX5_write_64 rfl (lv_at hl 2 rfl) ?_
        refine x_iadd hx hb dX5_write_65 ?_
        refine x_topi (((40 * s1) + i1 : Nat) : Int) (by omega) ?_
        refine lv_aload_n hx hb dX5_write_66 rfl (lv_at hl 0 rfl) ?_
        refine va_get (D := D) (ci := 4) (v := .ref (r 7)) (C := RX5) (T := TX5) (N := 18) hx hb hts (iT_X5_write_X5) hown hK hP 0 rfl rfl 8 (by decide) (hts (.fieldLink RX5 28 "WordSupperModel" "bitsOf" "[I") (by decide +kernel)) (fun _ h9 => h9) rfl dX5_write_67 ?_
        refine lv_iload_n hx hb dX5_write_70 rfl (lv_at hl 1 rfl) ?_
        refine x_iald hx hb hK hP 7 0 rfl rfl s1 rfl (by omega) (by decide) ((bR SB) s1) (gd_at _ (by omega)) dX5_write_71 ?_
        refine x_bipush hx hb dX5_write_72 (by decide) ?_
        refine x_icmp_ne (tgt := 82) hx hb (by omega) (by decide) dX5_write_74 (by decide) (fun c_74 => ?_) (fun c_74 => ?_)
        · refine lv_aload_n hx hb dX5_write_82 rfl (lv_at hl 0 rfl) ?_
          refine va_get (D := D) (ci := 4) (v := .ref (r 7)) (C := RX5) (T := TX5) (N := 18) hx hb hts (iT_X5_write_X5) hown hK hP 0 rfl rfl 8 (by decide) (hts (.fieldLink RX5 28 "WordSupperModel" "bitsOf" "[I") (by decide +kernel)) (fun _ h9 => h9) rfl dX5_write_83 ?_
          refine lv_iload_n hx hb dX5_write_86 rfl (lv_at hl 1 rfl) ?_
          refine x_iald hx hb hK hP 7 0 rfl rfl s1 rfl (by omega) (by decide) ((bR SB) s1) (gd_at _ (by omega)) dX5_write_87 ?_
          refine x_bipush hx hb dX5_write_88 (by decide) ?_
          refine x_icmp_ne (tgt := 98) hx hb (by omega) (by decide) dX5_write_90 (by decide) (fun c_90 => ?_) (fun c_90 => ?_)
          · refine lv_iload_n hx hb dX5_write_98 rfl (lv_at hl 3 rfl) ?_
            refine x_iast hx hb hK hP hD hS 9 0 rfl rfl ((40 * s1) + i1) rfl (by omega) (by decide) (wRo r ik tn j ++ (wA cI (r 1) 100 T ++ (wA cI (r 2) 100 K ++ (wA cI (r 3) 100 X ++ (wA cI (r 4) 100 Y ++ (wA cI (r 5) 8 (fR F) ++ (wA cI (r 6) 120 TB ++ (wA cI (r 7) 4 (bR SB) ++ (wA cI (r 8) 4 SS ++ (wA cI (r 9) 160 (va_up SN ((40 * s1) + i1) v))))))))))) (by rw [← wA_up cI (r 9) 160 SN v ((40 * s1) + i1) (by omega)]; rfl) dX5_write_99 (fun H locs hP hD hS => ?_)
            refine x_iconst hx hb dX5_write_100 ?_
            exact kend ((1, T, K, ik, SB, SS, (va_up SN ((40 * s1) + i1) v), tn, TB, F), X, Y, j) hP hS rfl (by unfold m_write; rw [waF_00 (by omega) (show SB s1 ≠ 0 by omega)]; simp only [Int.toNat_natCast]; rw [if_neg (by decide), if_pos (by omega)]; unfold ctF; rw [if_neg (show ¬ SB s1 = 8 by omega), if_neg (show ¬ SB s1 = 16 by omega)]) dX5_write_101
          · refine lv_iload_n hx hb dX5_write_93 rfl (lv_at hl 3 rfl) ?_
            refine x_i2s hx hb dX5_write_94 ?_
            refine lv_goto (tgt := 99) hx hb dX5_write_95 (by decide) ?_
            refine x_iast hx hb hK hP hD hS 9 0 rfl rfl ((40 * s1) + i1) rfl (by omega) (by decide) (wRo r ik tn j ++ (wA cI (r 1) 100 T ++ (wA cI (r 2) 100 K ++ (wA cI (r 3) 100 X ++ (wA cI (r 4) 100 Y ++ (wA cI (r 5) 8 (fR F) ++ (wA cI (r 6) 120 TB ++ (wA cI (r 7) 4 (bR SB) ++ (wA cI (r 8) 4 SS ++ (wA cI (r 9) 160 (va_up SN ((40 * s1) + i1) (shortI v)))))))))))) (by rw [← wA_up cI (r 9) 160 SN (shortI v) ((40 * s1) + i1) (by omega)]; rfl) dX5_write_99 (fun H locs hP hD hS => ?_)
            refine x_iconst hx hb dX5_write_100 ?_
            exact kend ((1, T, K, ik, SB, SS, (va_up SN ((40 * s1) + i1) (shortI v)), tn, TB, F), X, Y, j) hP hS rfl (by unfold m_write; rw [waF_00 (by omega) (show SB s1 ≠ 0 by omega)]; simp only [Int.toNat_natCast]; rw [if_neg (by decide), if_pos (by omega)]; unfold ctF; rw [if_neg (show ¬ SB s1 = 8 by omega), if_pos (show SB s1 = 16 by omega)]) dX5_write_101
        · refine lv_iload_n hx hb dX5_write_77 rfl (lv_at hl 3 rfl) ?_
          refine x_i2b hx hb dX5_write_78 ?_
          refine lv_goto (tgt := 99) hx hb dX5_write_79 (by decide) ?_
          refine x_iast hx hb hK hP hD hS 9 0 rfl rfl ((40 * s1) + i1) rfl (by omega) (by decide) (wRo r ik tn j ++ (wA cI (r 1) 100 T ++ (wA cI (r 2) 100 K ++ (wA cI (r 3) 100 X ++ (wA cI (r 4) 100 Y ++ (wA cI (r 5) 8 (fR F) ++ (wA cI (r 6) 120 TB ++ (wA cI (r 7) 4 (bR SB) ++ (wA cI (r 8) 4 SS ++ (wA cI (r 9) 160 (va_up SN ((40 * s1) + i1) (byteI v)))))))))))) (by rw [← wA_up cI (r 9) 160 SN (byteI v) ((40 * s1) + i1) (by omega)]; rfl) dX5_write_99 (fun H locs hP hD hS => ?_)
          refine x_iconst hx hb dX5_write_100 ?_
          exact kend ((1, T, K, ik, SB, SS, (va_up SN ((40 * s1) + i1) (byteI v)), tn, TB, F), X, Y, j) hP hS rfl (by unfold m_write; rw [waF_00 (by omega) (show SB s1 ≠ 0 by omega)]; simp only [Int.toNat_natCast]; rw [if_neg (by decide), if_pos (by omega)]; unfold ctF; rw [if_pos (show SB s1 = 8 by omega)]) dX5_write_101
      · refine lv_aload_n hx hb dX5_write_49 rfl (lv_at hl 0 rfl) ?_
        refine x_ldc hx hb (-1000001) rfl hown (hts (.constant RX5 37 (-1000001)) (by decide +kernel)) dX5_write_50 ?_
        refine x_callV (As := [.int (iI (-1000001))]) (rest := []) ⟨hx, hb, hml, hown, hts⟩ (kX5_finds r ik tn j F (-1000001) 0 (by omega) (by omega)) (cwV 1 hts gX5_write_X5_finds rfl rfl rfl ykVX5_finds ⟨Nat.le_of_ble_eq_true rfl, Nat.le_of_ble_eq_true rfl⟩) hP hK hD hS 0 4 rfl rfl rfl [0, 5] rfl (by decide) (fun _ => rfl) (fun _ => wRo r ik tn j ++ (wA cI (r 1) 100 T ++ (wA cI (r 2) 100 K ++ (wA cI (r 3) 100 X ++ (wA cI (r 4) 100 Y ++ (wA cI (r 5) 8 (fR (bmp 0 F)) ++ (wA cI (r 6) 120 TB ++ (wA cI (r 7) 4 (bR SB) ++ (wA cI (r 8) 4 SS ++ (wA cI (r 9) 160 SN)))))))))) (fun _ => rfl) rfl hl.1 rfl (Nat.le_of_ble_eq_true rfl) dX5_write_52 ⟨Nat.le_of_ble_eq_true rfl, Nat.le_of_ble_eq_true rfl⟩ (fun _ H locs _ hP hD hS => ?_)
        refine W.eq (g2 := F0 m 55 ls [.int (iI (-1000001))]) rfl ?_
        exact kend (((-1000001), T, K, ik, SB, SS, SN, tn, TB, (bmp 0 F)), X, Y, j) hP hS rfl (by unfold m_write; rw [waF_00 (by omega) (show SB s1 ≠ 0 by omega)]; simp only [Int.toNat_natCast]; rw [if_neg (by decide), if_neg (by omega)]) dX5_write_55
    · refine lv_aload_n hx hb dX5_write_23 rfl (lv_at hl 0 rfl) ?_
      refine x_ldcw hx hb (-1000006) rfl hown (hts (.constant RX5 273 (-1000006)) (by decide +kernel)) dX5_write_24 ?_
      refine x_callV (As := [.int (iI (-1000006))]) (rest := []) ⟨hx, hb, hml, hown, hts⟩ (kX5_finds r ik tn j F (-1000006) 5 (by omega) (by omega)) (cwV 1 hts gX5_write_X5_finds rfl rfl rfl ykVX5_finds ⟨Nat.le_of_ble_eq_true rfl, Nat.le_of_ble_eq_true rfl⟩) hP hK hD hS 0 4 rfl rfl rfl [0, 5] rfl (by decide) (fun _ => rfl) (fun _ => wRo r ik tn j ++ (wA cI (r 1) 100 T ++ (wA cI (r 2) 100 K ++ (wA cI (r 3) 100 X ++ (wA cI (r 4) 100 Y ++ (wA cI (r 5) 8 (fR (bmp 5 F)) ++ (wA cI (r 6) 120 TB ++ (wA cI (r 7) 4 (bR SB) ++ (wA cI (r 8) 4 SS ++ (wA cI (r 9) 160 SN)))))))))) (fun _ => rfl) rfl hl.1 rfl (Nat.le_of_ble_eq_true rfl) dX5_write_27 ⟨Nat.le_of_ble_eq_true rfl, Nat.le_of_ble_eq_true rfl⟩ (fun _ H locs _ hP hD hS => ?_)
      refine W.eq (g2 := F0 m 30 ls [.int (iI (-1000006))]) rfl ?_
      exact kend (((-1000006), T, K, ik, SB, SS, SN, tn, TB, (bmp 5 F)), X, Y, j) hP hS rfl (by unfold m_write; rw [waF_6 (by omega) (show SB s1 = 0 by omega)]; rfl) dX5_write_30
  · refine lv_aload_n hx hb dX5_write_7 rfl (lv_at hl 0 rfl) ?_
    refine x_ldc hx hb (-1000001) rfl hown (hts (.constant RX5 37 (-1000001)) (by decide +kernel)) dX5_write_8 ?_
    refine x_callV (As := [.int (iI (-1000001))]) (rest := []) ⟨hx, hb, hml, hown, hts⟩ (kX5_finds r ik tn j F (-1000001) 0 (by omega) (by omega)) (cwV 1 hts gX5_write_X5_finds rfl rfl rfl ykVX5_finds ⟨Nat.le_of_ble_eq_true rfl, Nat.le_of_ble_eq_true rfl⟩) hP hK hD hS 0 4 rfl rfl rfl [0, 5] rfl (by decide) (fun _ => rfl) (fun _ => wRo r ik tn j ++ (wA cI (r 1) 100 T ++ (wA cI (r 2) 100 K ++ (wA cI (r 3) 100 X ++ (wA cI (r 4) 100 Y ++ (wA cI (r 5) 8 (fR (bmp 0 F)) ++ (wA cI (r 6) 120 TB ++ (wA cI (r 7) 4 (bR SB) ++ (wA cI (r 8) 4 SS ++ (wA cI (r 9) 160 SN)))))))))) (fun _ => rfl) rfl hl.1 rfl (Nat.le_of_ble_eq_true rfl) dX5_write_10 ⟨Nat.le_of_ble_eq_true rfl, Nat.le_of_ble_eq_true rfl⟩ (fun _ H locs _ hP hD hS => ?_)
    refine W.eq (g2 := F0 m 13 ls [.int (iI (-1000001))]) rfl ?_
    exact kend (((-1000001), T, K, ik, SB, SS, SN, tn, TB, (bmp 0 F)), X, Y, j) hP hS rfl (by unfold m_write; rw [waF_1 (by omega)]; rfl) dX5_write_13
theorem ykSX5_copy : yX5_copy.cls ≠ "java/lang/invoke/MethodHandle" ∧ yX5_copy.cls ≠ "java/lang/invoke/VarHandle" ∧ (parseMethodDescriptor yX5_copy.desc).map (fun d => d.parameters.length) = some 5 := by decide +kernel
theorem ykVX5_copy : yX5_copy.cls = RX5 ∧ yX5_copy.cls ≠ "java/lang/invoke/MethodHandle" ∧ yX5_copy.cls ≠ "java/lang/invoke/VarHandle" ∧ (parseMethodDescriptor yX5_copy.desc).map (fun d => d.parameters.length) = some 5 := ⟨rfl, ykSX5_copy⟩
set_option maxRecDepth 20000 in
theorem iT_X5_copy_X5 : ∀ w ∈ u_ws RX5 TX5 18, w ∈ wsX5_copy := by decide +kernel
set_option maxHeartbeats 4000000 in
set_option maxRecDepth 100000 in
theorem kX5_copy {l : Launch} {D : va_G} {cI cB : ClassId} (r : Nat → Nat) (T K : Tb) (ik : Int) (SB SS SN : Nat → Int) (tn : Int) (TB F : Nat → Int) (X Y : Tb) (j : Nat → Int) (s0 a0 t2 c0 n : Int) (B : Int) (hG : GI B T K ik SB SS SN tn TB F) (hB : B ≤ 40000) (h_s0 : rI s0) (h_a0 : rI a0) (h_t2 : rI t2) (h_c0 : rI c0) (h_n : rI n) : Ct l yX5_copy wsX5_copy 1 21 D [(cI, .int), (cB, .byte)] [.ref (r 0), .int (iI s0), .int (iI a0), .int (iI t2), .int (iI c0), .int (iI n)] (wM cI r (T, K, ik, SB, SS, SN, tn, TB, F) X Y j) (S := (Int × Gs) × Tb × Tb × (Nat → Int)) (fun u => some (.int (iI u.1.1))) (fun u => u.1 = m_copy s0 a0 t2 c0 n T K ik SB SS SN tn TB F) (fun u => wM cI r u.1.2 u.2.1 u.2.2.1 u.2.2.2) := by
  refine CtI.of (cc := cX5_copy) (maxL := 10) (by decide +kernel) rfl (Nat.le_of_ble_eq_true rfl) ?_
  intro pg e s m args below meth c Q A hx hb hml hts hown hP hK hD hS ls hl kend
  have hown : s.vm.findClass RX5 = some m.cls := hown
  have hl : lv_has ls 10 [(0, .ref (r 0)), (1, .int (iI s0)), (2, .int (iI a0)), (3, .int (iI t2)), (4, .int (iI c0)), (5, .int (iI n))] := hl
  obtain ⟨hI, hIK, hik, hSB, hSS, hSN, htn, hTB, hF⟩ := id hG
  have hn := Inv_n hI
  have hdy := Inv_d hI
  have hP : va_P D vwCl (wRo r ik tn j ++ (wA cI (r 1) 100 T ++ (wA cI (r 2) 100 K ++ (wA cI (r 3) 100 X ++ (wA cI (r 4) 100 Y ++ (wA cI (r 5) 8 (fR F) ++ (wA cI (r 6) 120 TB ++ (wA cI (r 7) 4 (bR SB) ++ (wA cI (r 8) 4 SS ++ (wA cI (r 9) 160 SN)))))))))) s.heap := hP
  have hD : va_D A (wRo r ik tn j ++ (wA cI (r 1) 100 T ++ (wA cI (r 2) 100 K ++ (wA cI (r 3) 100 X ++ (wA cI (r 4) 100 Y ++ (wA cI (r 5) 8 (fR F) ++ (wA cI (r 6) 120 TB ++ (wA cI (r 7) 4 (bR SB) ++ (wA cI (r 8) 4 SS ++ (wA cI (r 9) 160 SN)))))))))) := hD
  refine lv_iload_n hx hb dX5_copy_0 rfl (lv_at hl 1 rfl) ?_
  refine x_callS (As := [.int (iI s0)]) (rest := []) ⟨hx, hb, hml, hown, hts⟩ (kX5_isSheet s0 (by omega)) (va_cwS 1 hts gX5_copy_X5_isSheet rfl rfl rfl ykSX5_isSheet ⟨Nat.le_of_ble_eq_true rfl, Nat.le_of_ble_eq_true rfl⟩) hP hK hD hS [] rfl (by decide) (fun _ => rfl) (fun _ => wRo r ik tn j ++ (wA cI (r 1) 100 T ++ (wA cI (r 2) 100 K ++ (wA cI (r 3) 100 X ++ (wA cI (r 4) 100 Y ++ (wA cI (r 5) 8 (fR F) ++ (wA cI (r 6) 120 TB ++ (wA cI (r 7) 4 (bR SB) ++ (wA cI (r 8) 4 SS ++ (wA cI (r 9) 160 SN)))))))))) (fun _ => rfl) rfl hl.1 rfl (Nat.le_of_ble_eq_true rfl) dX5_copy_1 ⟨Nat.le_of_ble_eq_true rfl, Nat.le_of_ble_eq_true rfl⟩ (fun _ H locs _ hP hD hS => ?_)
  refine W.eq (g2 := F0 m 4 ls [.int (iI (b2 (decide (0 ≤ s0 ∧ s0 < 4))))]) rfl ?_
  refine x_ifb_eq (tgt := 14) hx hb dX5_copy_4 (by decide) (fun c_4 => ?_) (fun c_4 => ?_)
  · refine lv_aload_n hx hb dX5_copy_14 rfl (lv_at hl 0 rfl) ?_
    refine x_ldc hx hb (-1000001) rfl hown (hts (.constant RX5 37 (-1000001)) (by decide +kernel)) dX5_copy_15 ?_
    refine x_callV (As := [.int (iI (-1000001))]) (rest := []) ⟨hx, hb, hml, hown, hts⟩ (kX5_finds r ik tn j F (-1000001) 0 (by omega) (by omega)) (cwV 1 hts gX5_copy_X5_finds rfl rfl rfl ykVX5_finds ⟨Nat.le_of_ble_eq_true rfl, Nat.le_of_ble_eq_true rfl⟩) hP hK hD hS 0 4 rfl rfl rfl [0, 5] rfl (by decide) (fun _ => rfl) (fun _ => wRo r ik tn j ++ (wA cI (r 1) 100 T ++ (wA cI (r 2) 100 K ++ (wA cI (r 3) 100 X ++ (wA cI (r 4) 100 Y ++ (wA cI (r 5) 8 (fR (bmp 0 F)) ++ (wA cI (r 6) 120 TB ++ (wA cI (r 7) 4 (bR SB) ++ (wA cI (r 8) 4 SS ++ (wA cI (r 9) 160 SN)))))))))) (fun _ => rfl) rfl hl.1 rfl (Nat.le_of_ble_eq_true rfl) dX5_copy_17 ⟨Nat.le_of_ble_eq_true rfl, Nat.le_of_ble_eq_true rfl⟩ (fun _ H locs _ hP hD hS => ?_)
    refine W.eq (g2 := F0 m 20 ls [.int (iI (-1000001))]) rfl ?_
    exact kend (((-1000001), T, K, ik, SB, SS, SN, tn, TB, (bmp 0 F)), X, Y, j) hP hS rfl (by first | exact ((if_pos (by omega))).symm | (unfold m_copy; (try simp only [Int.toNat_natCast]); rw [if_neg (by omega), if_neg (by omega), if_neg (by omega), if_neg (by omega)] <;> rfl)) dX5_copy_20
  · refine lv_iload_n hx hb dX5_copy_7 rfl (lv_at hl 3 rfl) ?_
    refine x_callS (As := [.int (iI t2)]) (rest := []) ⟨hx, hb, hml, hown, hts⟩ (kX5_isSheet t2 (by omega)) (va_cwS 1 hts gX5_copy_X5_isSheet rfl rfl rfl ykSX5_isSheet ⟨Nat.le_of_ble_eq_true rfl, Nat.le_of_ble_eq_true rfl⟩) hP hK hD hS [] rfl (by decide) (fun _ => rfl) (fun _ => wRo r ik tn j ++ (wA cI (r 1) 100 T ++ (wA cI (r 2) 100 K ++ (wA cI (r 3) 100 X ++ (wA cI (r 4) 100 Y ++ (wA cI (r 5) 8 (fR F) ++ (wA cI (r 6) 120 TB ++ (wA cI (r 7) 4 (bR SB) ++ (wA cI (r 8) 4 SS ++ (wA cI (r 9) 160 SN)))))))))) (fun _ => rfl) rfl hl.1 rfl (Nat.le_of_ble_eq_true rfl) dX5_copy_8 ⟨Nat.le_of_ble_eq_true rfl, Nat.le_of_ble_eq_true rfl⟩ (fun _ H locs _ hP hD hS => ?_)
    refine W.eq (g2 := F0 m 11 ls [.int (iI (b2 (decide (0 ≤ t2 ∧ t2 < 4))))]) rfl ?_
    refine x_ifb_ne (tgt := 21) hx hb dX5_copy_11 (by decide) (fun c_11 => ?_) (fun c_11 => ?_)
    · obtain ⟨s1, rfl⟩ : ∃ s1 : Nat, s0 = (s1 : Int) := ⟨s0.toNat, by omega⟩
      obtain ⟨t1, rfl⟩ : ∃ t1 : Nat, t2 = (t1 : Int) := ⟨t2.toNat, by omega⟩
      have hz := hSS s1 (by omega)
      have hz2 := hSS t1 (by omega)
      have hz3 := hSB s1 (by omega)
      have hz4 := hSB t1 (by omega)
      have hbr := bR_c SB s1
      have hbr2 := bR_c SB t1
      refine lv_aload_n hx hb dX5_copy_21 rfl (lv_at hl 0 rfl) ?_
      refine va_get (D := D) (ci := 4) (v := .ref (r 7)) (C := RX5) (T := TX5) (N := 18) hx hb hts (iT_X5_copy_X5) hown hK hP 0 rfl rfl 8 (by decide) (hts (.fieldLink RX5 28 "WordSupperModel" "bitsOf" "[I") (by decide +kernel)) (fun _ h9 => h9) rfl dX5_copy_22 ?_
      refine lv_iload_n hx hb dX5_copy_25 rfl (lv_at hl 1 rfl) ?_
      refine x_iald hx hb hK hP 7 0 rfl rfl s1 rfl (by omega) (by decide) ((bR SB) s1) (gd_at _ (by omega)) dX5_copy_26 ?_
      refine x_if_lt (tgt := 39) hx hb (by omega) dX5_copy_27 (by decide) (fun c_27 => ?_) (fun c_27 => ?_)
      · refine lv_aload_n hx hb dX5_copy_39 rfl (lv_at hl 0 rfl) ?_
        refine x_ldcw hx hb (-1000006) rfl hown (hts (.constant RX5 273 (-1000006)) (by decide +kernel)) dX5_copy_40 ?_
        refine x_callV (As := [.int (iI (-1000006))]) (rest := []) ⟨hx, hb, hml, hown, hts⟩ (kX5_finds r ik tn j F (-1000006) 5 (by omega) (by omega)) (cwV 1 hts gX5_copy_X5_finds rfl rfl rfl ykVX5_finds ⟨Nat.le_of_ble_eq_true rfl, Nat.le_of_ble_eq_true rfl⟩) hP hK hD hS 0 4 rfl rfl rfl [0, 5] rfl (by decide) (fun _ => rfl) (fun _ => wRo r ik tn j ++ (wA cI (r 1) 100 T ++ (wA cI (r 2) 100 K ++ (wA cI (r 3) 100 X ++ (wA cI (r 4) 100 Y ++ (wA cI (r 5) 8 (fR (bmp 5 F)) ++ (wA cI (r 6) 120 TB ++ (wA cI (r 7) 4 (bR SB) ++ (wA cI (r 8) 4 SS ++ (wA cI (r 9) 160 SN)))))))))) (fun _ => rfl) rfl hl.1 rfl (Nat.le_of_ble_eq_true rfl) dX5_copy_43 ⟨Nat.le_of_ble_eq_true rfl, Nat.le_of_ble_eq_true rfl⟩ (fun _ H locs _ hP hD hS => ?_)
        refine W.eq (g2 := F0 m 46 ls [.int (iI (-1000006))]) rfl ?_
        exact kend (((-1000006), T, K, ik, SB, SS, SN, tn, TB, (bmp 5 F)), X, Y, j) hP hS rfl (by unfold m_copy; (try simp only [Int.toNat_natCast]); rw [if_neg (by omega), if_pos (by omega)] <;> rfl) dX5_copy_46
      · refine lv_aload_n hx hb dX5_copy_30 rfl (lv_at hl 0 rfl) ?_
        refine va_get (D := D) (ci := 4) (v := .ref (r 7)) (C := RX5) (T := TX5) (N := 18) hx hb hts (iT_X5_copy_X5) hown hK hP 0 rfl rfl 8 (by decide) (hts (.fieldLink RX5 28 "WordSupperModel" "bitsOf" "[I") (by decide +kernel)) (fun _ h9 => h9) rfl dX5_copy_31 ?_
        refine lv_iload_n hx hb dX5_copy_34 rfl (lv_at hl 3 rfl) ?_
        refine x_iald hx hb hK hP 7 0 rfl rfl t1 rfl (by omega) (by decide) ((bR SB) t1) (gd_at _ (by omega)) dX5_copy_35 ?_
        refine x_if_ge (tgt := 47) hx hb (by omega) dX5_copy_36 (by decide) (fun c_36 => ?_) (fun c_36 => ?_)
        · refine lv_aload_n hx hb dX5_copy_47 rfl (lv_at hl 0 rfl) ?_
          refine va_get (D := D) (ci := 4) (v := .ref (r 7)) (C := RX5) (T := TX5) (N := 18) hx hb hts (iT_X5_copy_X5) hown hK hP 0 rfl rfl 8 (by decide) (hts (.fieldLink RX5 28 "WordSupperModel" "bitsOf" "[I") (by decide +kernel)) (fun _ h9 => h9) rfl dX5_copy_48 ?_
          refine lv_iload_n hx hb dX5_copy_51 rfl (lv_at hl 1 rfl) ?_
          refine x_iald hx hb hK hP 7 0 rfl rfl s1 rfl (by omega) (by decide) ((bR SB) s1) (gd_at _ (by omega)) dX5_copy_52 ?_
          refine lv_aload_n hx hb dX5_copy_53 rfl (lv_at hl 0 rfl) ?_
          refine va_get (D := D) (ci := 4) (v := .ref (r 7)) (C := RX5) (T := TX5) (N := 18) hx hb hts (iT_X5_copy_X5) hown hK hP 0 rfl rfl 8 (by decide) (hts (.fieldLink RX5 28 "WordSupperModel" "bitsOf" "[I") (by decide +kernel)) (fun _ h9 => h9) rfl dX5_copy_54 ?_
          refine lv_iload_n hx hb dX5_copy_57 rfl (lv_at hl 3 rfl) ?_
          refine x_iald hx hb hK hP 7 0 rfl rfl t1 rfl (by omega) (by decide) ((bR SB) t1) (gd_at _ (by omega)) dX5_copy_58 ?_
          refine x_icmp_eq (tgt := 70) hx hb (by omega) (by omega) dX5_copy_59 (by decide) (fun c_59 => ?_) (fun c_59 => ?_)
          · refine lv_iload_n hx hb dX5_copy_70 rfl (lv_at hl 2 rfl) ?_
            refine x_if_lt (tgt := 111) hx hb (by omega) dX5_copy_71 (by decide) (fun c_71 => ?_) (fun c_71 => ?_)
            · refine lv_aload_n hx hb dX5_copy_111 rfl (lv_at hl 0 rfl) ?_
              refine x_ldc hx hb (-1000001) rfl hown (hts (.constant RX5 37 (-1000001)) (by decide +kernel)) dX5_copy_112 ?_
              refine x_callV (As := [.int (iI (-1000001))]) (rest := []) ⟨hx, hb, hml, hown, hts⟩ (kX5_finds r ik tn j F (-1000001) 0 (by omega) (by omega)) (cwV 1 hts gX5_copy_X5_finds rfl rfl rfl ykVX5_finds ⟨Nat.le_of_ble_eq_true rfl, Nat.le_of_ble_eq_true rfl⟩) hP hK hD hS 0 4 rfl rfl rfl [0, 5] rfl (by decide) (fun _ => rfl) (fun _ => wRo r ik tn j ++ (wA cI (r 1) 100 T ++ (wA cI (r 2) 100 K ++ (wA cI (r 3) 100 X ++ (wA cI (r 4) 100 Y ++ (wA cI (r 5) 8 (fR (bmp 0 F)) ++ (wA cI (r 6) 120 TB ++ (wA cI (r 7) 4 (bR SB) ++ (wA cI (r 8) 4 SS ++ (wA cI (r 9) 160 SN)))))))))) (fun _ => rfl) rfl hl.1 rfl (Nat.le_of_ble_eq_true rfl) dX5_copy_114 ⟨Nat.le_of_ble_eq_true rfl, Nat.le_of_ble_eq_true rfl⟩ (fun _ H locs _ hP hD hS => ?_)
              refine W.eq (g2 := F0 m 117 ls [.int (iI (-1000001))]) rfl ?_
              exact kend (((-1000001), T, K, ik, SB, SS, SN, tn, TB, (bmp 0 F)), X, Y, j) hP hS rfl (by first | exact ((if_pos (by omega))).symm | (unfold m_copy; (try simp only [Int.toNat_natCast]); rw [if_neg (by omega), if_neg (by omega), if_neg (by omega), if_neg (by omega)] <;> rfl)) dX5_copy_117
            · refine lv_iload hx hb dX5_copy_74 (lv_at hl 4 rfl) ?_
              refine x_if_lt (tgt := 111) hx hb (by omega) dX5_copy_76 (by decide) (fun c_76 => ?_) (fun c_76 => ?_)
              · refine lv_aload_n hx hb dX5_copy_111 rfl (lv_at hl 0 rfl) ?_
                refine x_ldc hx hb (-1000001) rfl hown (hts (.constant RX5 37 (-1000001)) (by decide +kernel)) dX5_copy_112 ?_
                refine x_callV (As := [.int (iI (-1000001))]) (rest := []) ⟨hx, hb, hml, hown, hts⟩ (kX5_finds r ik tn j F (-1000001) 0 (by omega) (by omega)) (cwV 1 hts gX5_copy_X5_finds rfl rfl rfl ykVX5_finds ⟨Nat.le_of_ble_eq_true rfl, Nat.le_of_ble_eq_true rfl⟩) hP hK hD hS 0 4 rfl rfl rfl [0, 5] rfl (by decide) (fun _ => rfl) (fun _ => wRo r ik tn j ++ (wA cI (r 1) 100 T ++ (wA cI (r 2) 100 K ++ (wA cI (r 3) 100 X ++ (wA cI (r 4) 100 Y ++ (wA cI (r 5) 8 (fR (bmp 0 F)) ++ (wA cI (r 6) 120 TB ++ (wA cI (r 7) 4 (bR SB) ++ (wA cI (r 8) 4 SS ++ (wA cI (r 9) 160 SN)))))))))) (fun _ => rfl) rfl hl.1 rfl (Nat.le_of_ble_eq_true rfl) dX5_copy_114 ⟨Nat.le_of_ble_eq_true rfl, Nat.le_of_ble_eq_true rfl⟩ (fun _ H locs _ hP hD hS => ?_)
                refine W.eq (g2 := F0 m 117 ls [.int (iI (-1000001))]) rfl ?_
                exact kend (((-1000001), T, K, ik, SB, SS, SN, tn, TB, (bmp 0 F)), X, Y, j) hP hS rfl (by first | exact ((if_pos (by omega))).symm | (unfold m_copy; (try simp only [Int.toNat_natCast]); rw [if_neg (by omega), if_neg (by omega), if_neg (by omega), if_neg (by omega)] <;> rfl)) dX5_copy_117
              · refine lv_iload hx hb dX5_copy_79 (lv_at hl 5 rfl) ?_
                refine x_if_lt (tgt := 111) hx hb (by omega) dX5_copy_81 (by decide) (fun c_81 => ?_) (fun c_81 => ?_)
                · refine lv_aload_n hx hb dX5_copy_111 rfl (lv_at hl 0 rfl) ?_
                  refine x_ldc hx hb (-1000001) rfl hown (hts (.constant RX5 37 (-1000001)) (by decide +kernel)) dX5_copy_112 ?_
                  refine x_callV (As := [.int (iI (-1000001))]) (rest := []) ⟨hx, hb, hml, hown, hts⟩ (kX5_finds r ik tn j F (-1000001) 0 (by omega) (by omega)) (cwV 1 hts gX5_copy_X5_finds rfl rfl rfl ykVX5_finds ⟨Nat.le_of_ble_eq_true rfl, Nat.le_of_ble_eq_true rfl⟩) hP hK hD hS 0 4 rfl rfl rfl [0, 5] rfl (by decide) (fun _ => rfl) (fun _ => wRo r ik tn j ++ (wA cI (r 1) 100 T ++ (wA cI (r 2) 100 K ++ (wA cI (r 3) 100 X ++ (wA cI (r 4) 100 Y ++ (wA cI (r 5) 8 (fR (bmp 0 F)) ++ (wA cI (r 6) 120 TB ++ (wA cI (r 7) 4 (bR SB) ++ (wA cI (r 8) 4 SS ++ (wA cI (r 9) 160 SN)))))))))) (fun _ => rfl) rfl hl.1 rfl (Nat.le_of_ble_eq_true rfl) dX5_copy_114 ⟨Nat.le_of_ble_eq_true rfl, Nat.le_of_ble_eq_true rfl⟩ (fun _ H locs _ hP hD hS => ?_)
                  refine W.eq (g2 := F0 m 117 ls [.int (iI (-1000001))]) rfl ?_
                  exact kend (((-1000001), T, K, ik, SB, SS, SN, tn, TB, (bmp 0 F)), X, Y, j) hP hS rfl (by first | exact ((if_pos (by omega))).symm | (unfold m_copy; (try simp only [Int.toNat_natCast]); rw [if_neg (by omega), if_neg (by omega), if_neg (by omega), if_neg (by omega)] <;> rfl)) dX5_copy_117
                · refine lv_iload hx hb dX5_copy_84 (lv_at hl 5 rfl) ?_
                  refine lv_aload_n hx hb dX5_copy_86 rfl (lv_at hl 0 rfl) ?_
                  refine va_get (D := D) (ci := 4) (v := .ref (r 8)) (C := RX5) (T := TX5) (N := 18) hx hb hts (iT_X5_copy_X5) hown hK hP 0 rfl rfl 9 (by decide) (hts (.fieldLink RX5 31 "WordSupperModel" "sizes" "[I") (by decide +kernel)) (fun _ h9 => h9) rfl dX5_copy_87 ?_
                  refine lv_iload_n hx hb dX5_copy_90 rfl (lv_at hl 1 rfl) ?_
                  refine x_iald hx hb hK hP 8 0 rfl rfl s1 rfl (by omega) (by decide) (SS s1) (gd_at _ (by omega)) dX5_copy_91 ?_
                  refine lv_iload_n hx hb dX5_copy_92 rfl (lv_at hl 2 rfl) ?_
                  refine x_isub hx hb dX5_copy_93 ?_
                  refine x_icmp_gt (tgt := 111) hx hb (by omega) (by omega) dX5_copy_94 (by decide) (fun c_94 => ?_) (fun c_94 => ?_)
                  · refine lv_aload_n hx hb dX5_copy_111 rfl (lv_at hl 0 rfl) ?_
                    refine x_ldc hx hb (-1000001) rfl hown (hts (.constant RX5 37 (-1000001)) (by decide +kernel)) dX5_copy_112 ?_
                    refine x_callV (As := [.int (iI (-1000001))]) (rest := []) ⟨hx, hb, hml, hown, hts⟩ (kX5_finds r ik tn j F (-1000001) 0 (by omega) (by omega)) (cwV 1 hts gX5_copy_X5_finds rfl rfl rfl ykVX5_finds ⟨Nat.le_of_ble_eq_true rfl, Nat.le_of_ble_eq_true rfl⟩) hP hK hD hS 0 4 rfl rfl rfl [0, 5] rfl (by decide) (fun _ => rfl) (fun _ => wRo r ik tn j ++ (wA cI (r 1) 100 T ++ (wA cI (r 2) 100 K ++ (wA cI (r 3) 100 X ++ (wA cI (r 4) 100 Y ++ (wA cI (r 5) 8 (fR (bmp 0 F)) ++ (wA cI (r 6) 120 TB ++ (wA cI (r 7) 4 (bR SB) ++ (wA cI (r 8) 4 SS ++ (wA cI (r 9) 160 SN)))))))))) (fun _ => rfl) rfl hl.1 rfl (Nat.le_of_ble_eq_true rfl) dX5_copy_114 ⟨Nat.le_of_ble_eq_true rfl, Nat.le_of_ble_eq_true rfl⟩ (fun _ H locs _ hP hD hS => ?_)
                    refine W.eq (g2 := F0 m 117 ls [.int (iI (-1000001))]) rfl ?_
                    exact kend (((-1000001), T, K, ik, SB, SS, SN, tn, TB, (bmp 0 F)), X, Y, j) hP hS rfl (by first | exact ((if_pos (by omega))).symm | (unfold m_copy; (try simp only [Int.toNat_natCast]); rw [if_neg (by omega), if_neg (by omega), if_neg (by omega), if_neg (by omega)] <;> rfl)) dX5_copy_117
                  · refine lv_iload hx hb dX5_copy_97 (lv_at hl 5 rfl) ?_
                    refine lv_aload_n hx hb dX5_copy_99 rfl (lv_at hl 0 rfl) ?_
                    refine va_get (D := D) (ci := 4) (v := .ref (r 8)) (C := RX5) (T := TX5) (N := 18) hx hb hts (iT_X5_copy_X5) hown hK hP 0 rfl rfl 9 (by decide) (hts (.fieldLink RX5 31 "WordSupperModel" "sizes" "[I") (by decide +kernel)) (fun _ h9 => h9) rfl dX5_copy_100 ?_
                    refine lv_iload_n hx hb dX5_copy_103 rfl (lv_at hl 3 rfl) ?_
                    refine x_iald hx hb hK hP 8 0 rfl rfl t1 rfl (by omega) (by decide) (SS t1) (gd_at _ (by omega)) dX5_copy_104 ?_
                    refine lv_iload hx hb dX5_copy_105 (lv_at hl 4 rfl) ?_
                    refine x_isub hx hb dX5_copy_107 ?_
                    refine x_icmp_le (tgt := 118) hx hb (by omega) (by omega) dX5_copy_108 (by decide) (fun c_108 => ?_) (fun c_108 => ?_)
                    · obtain ⟨a1, rfl⟩ : ∃ a1 : Nat, a0 = (a1 : Int) := ⟨a0.toNat, by omega⟩
                      obtain ⟨c1, rfl⟩ : ∃ c1 : Nat, c0 = (c1 : Int) := ⟨c0.toNat, by omega⟩
                      obtain ⟨n0, rfl⟩ : ∃ n0 : Nat, n = (n0 : Int) := ⟨n.toNat, by omega⟩
                      refine x_bipush hx hb dX5_copy_118 (by decide) ?_
                      refine lv_iload_n hx hb dX5_copy_120 rfl (lv_at hl 1 rfl) ?_
                      refine x_imul hx hb dX5_copy_121 ?_
                      refine x_topi ((40 * s1 : Nat) : Int) (by omega) ?_
                      refine lv_iload_n hx hb dX5_copy_122 rfl (lv_at hl 2 rfl) ?_
                      refine x_iadd hx hb dX5_copy_123 ?_
                      refine x_topi (((40 * s1) + a1 : Nat) : Int) (by omega) ?_
                      refine lv_istore (lv' := [(6, .int (iI (((40 * s1) + a1 : Nat) : Int))), (0, .ref (r 0)), (1, .int (iI ((s1 : Nat) : Int))), (2, .int (iI ((a1 : Nat) : Int))), (3, .int (iI ((t1 : Nat) : Int))), (4, .int (iI ((c1 : Nat) : Int))), (5, .int (iI ((n0 : Nat) : Int)))]) hx hb dX5_copy_124 hl (by decide) rfl (fun ls hl => ?_)
                      refine x_bipush hx hb dX5_copy_126 (by decide) ?_
                      refine lv_iload_n hx hb dX5_copy_128 rfl (lv_at hl 4 rfl) ?_
                      refine x_imul hx hb dX5_copy_129 ?_
                      refine x_topi ((40 * t1 : Nat) : Int) (by omega) ?_
                      refine lv_iload hx hb dX5_copy_130 (lv_at hl 5 rfl) ?_
                      refine x_iadd hx hb dX5_copy_132 ?_
                      refine x_topi (((40 * t1) + c1 : Nat) : Int) (by omega) ?_
                      refine lv_istore (lv' := [(7, .int (iI (((40 * t1) + c1 : Nat) : Int))), (6, .int (iI (((40 * s1) + a1 : Nat) : Int))), (0, .ref (r 0)), (1, .int (iI ((s1 : Nat) : Int))), (2, .int (iI ((a1 : Nat) : Int))), (3, .int (iI ((t1 : Nat) : Int))), (4, .int (iI ((c1 : Nat) : Int))), (5, .int (iI ((n0 : Nat) : Int)))]) hx hb dX5_copy_133 hl (by decide) rfl (fun ls hl => ?_)
                      refine x_iconst hx hb dX5_copy_135 ?_
                      refine lv_istore (lv' := [(8, .int (iI 0)), (7, .int (iI (((40 * t1) + c1 : Nat) : Int))), (6, .int (iI (((40 * s1) + a1 : Nat) : Int))), (0, .ref (r 0)), (1, .int (iI ((s1 : Nat) : Int))), (2, .int (iI ((a1 : Nat) : Int))), (3, .int (iI ((t1 : Nat) : Int))), (4, .int (iI ((c1 : Nat) : Int))), (5, .int (iI ((n0 : Nat) : Int)))]) hx hb dX5_copy_136 hl (by decide) rfl (fun ls hl => ?_)
                      have L138 : ∀ (k t : Nat) (Nt : Nat → Int) (H : Heap) (locs : List Loc) (ls : Array Slot), t + k = n0 → (cpJ SN Nt (40 * s1 + a1) (40 * t1 + c1) n0 t) → va_P D vwCl (wRo r ik tn j ++ (wA cI (r 1) 100 T ++ (wA cI (r 2) 100 K ++ (wA cI (r 3) 100 X ++ (wA cI (r 4) 100 Y ++ (wA cI (r 5) 8 (fR F) ++ (wA cI (r 6) 120 TB ++ (wA cI (r 7) 4 (bR SB) ++ (wA cI (r 8) 4 SS ++ (wA cI (r 9) 160 Nt)))))))))) H → va_D A (wRo r ik tn j ++ (wA cI (r 1) 100 T ++ (wA cI (r 2) 100 K ++ (wA cI (r 3) 100 X ++ (wA cI (r 4) 100 Y ++ (wA cI (r 5) 8 (fR F) ++ (wA cI (r 6) 120 TB ++ (wA cI (r 7) 4 (bR SB) ++ (wA cI (r 8) 4 SS ++ (wA cI (r 9) 160 Nt)))))))))) → va_S A s.heap H locs → lv_has ls 10 [(0, .ref (r 0)), (1, .int (iI ((s1 : Nat) : Int))), (2, .int (iI ((a1 : Nat) : Int))), (3, .int (iI ((t1 : Nat) : Int))), (4, .int (iI ((c1 : Nat) : Int))), (5, .int (iI ((n0 : Nat) : Int))), (6, .int (iI ((40 * s1 + a1 : Nat) : Int))), (7, .int (iI ((40 * t1 + c1 : Nat) : Int))), (8, .int (iI ((t : Nat) : Int)))] → W pg l e { frames := 1, cells := 0, slots := 0, locals := 21 } s m args below meth c H locs 0 0 Q (F0 m 138 ls []) := by
                        intro k
                        induction k with
                        | zero =>
                          intro t Nt H locs ls hkt hj hP hD hS hl
                          refine lv_iload hx hb dX5_copy_138 (lv_at hl 8 rfl) ?_
                          refine lv_iload hx hb dX5_copy_140 (lv_at hl 5 rfl) ?_
                          refine x_icmp_ge (tgt := 192) hx hb (by omega) (by omega) dX5_copy_142 (by decide) (fun c_142 => ?_) (fun c_142 => ?_)
                          · rw [show t = n0 by omega] at hj
                            refine lv_iload hx hb dX5_copy_192 (lv_at hl 5 rfl) ?_
                            exact kend ((((n0 : Nat) : Int), T, K, ik, SB, SS, Nt, tn, TB, F), X, Y, j) hP hS rfl (by unfold m_copy; simp only [Int.toNat_natCast]; rw [if_neg (by omega), if_neg (by omega), if_neg (by omega), if_pos (by omega), cpJ_n hj]) dX5_copy_194
                          · exfalso; omega
                        | succ k ih =>
                          intro t Nt H locs ls hkt hj hP hD hS hl
                          refine lv_iload hx hb dX5_copy_138 (lv_at hl 8 rfl) ?_
                          refine lv_iload hx hb dX5_copy_140 (lv_at hl 5 rfl) ?_
                          refine x_icmp_ge (tgt := 192) hx hb (by omega) (by omega) dX5_copy_142 (by decide) (fun c_142 => ?_) (fun c_142 => ?_)
                          · exfalso; omega
                          · refine lv_iload hx hb dX5_copy_145 (lv_at hl 6 rfl) ?_
                            refine lv_iload hx hb dX5_copy_147 (lv_at hl 7 rfl) ?_
                            refine x_icmp_ge (tgt := 162) hx hb (by omega) (by omega) dX5_copy_149 (by decide) (fun c_149 => ?_) (fun c_149 => ?_)
                            · refine lv_iload hx hb dX5_copy_162 (lv_at hl 8 rfl) ?_
                              refine lv_istore (lv' := [(9, .int (iI ((t : Nat) : Int))), (0, .ref (r 0)), (1, .int (iI ((s1 : Nat) : Int))), (2, .int (iI ((a1 : Nat) : Int))), (3, .int (iI ((t1 : Nat) : Int))), (4, .int (iI ((c1 : Nat) : Int))), (5, .int (iI ((n0 : Nat) : Int))), (6, .int (iI ((40 * s1 + a1 : Nat) : Int))), (7, .int (iI ((40 * t1 + c1 : Nat) : Int))), (8, .int (iI ((t : Nat) : Int)))]) hx hb dX5_copy_164 hl (by decide) rfl (fun ls hl => ?_)
                              refine lv_aload_n hx hb dX5_copy_166 rfl (lv_at hl 1 rfl) ?_
                              refine va_get (D := D) (ci := 4) (v := .ref (r 9)) (C := RX5) (T := TX5) (N := 18) hx hb hts (iT_X5_copy_X5) hown hK hP 0 rfl rfl 10 (by decide) (hts (.fieldLink RX5 34 "WordSupperModel" "numbers" "[I") (by decide +kernel)) (fun _ h9 => h9) rfl dX5_copy_167 ?_
                              refine lv_iload hx hb dX5_copy_170 (lv_at hl 8 rfl) ?_
                              refine lv_iload hx hb dX5_copy_172 (lv_at hl 0 rfl) ?_
                              refine x_iadd hx hb dX5_copy_174 ?_
                              refine x_topi (((40 * t1 + c1) + t : Nat) : Int) (by omega) ?_
                              refine lv_aload_n hx hb dX5_copy_175 rfl (lv_at hl 1 rfl) ?_
                              refine va_get (D := D) (ci := 4) (v := .ref (r 9)) (C := RX5) (T := TX5) (N := 18) hx hb hts (iT_X5_copy_X5) hown hK hP 0 rfl rfl 10 (by decide) (hts (.fieldLink RX5 34 "WordSupperModel" "numbers" "[I") (by decide +kernel)) (fun _ h9 => h9) rfl dX5_copy_176 ?_
                              refine lv_iload hx hb dX5_copy_179 (lv_at hl 7 rfl) ?_
                              refine lv_iload hx hb dX5_copy_181 (lv_at hl 0 rfl) ?_
                              refine x_iadd hx hb dX5_copy_183 ?_
                              refine x_topi (((40 * s1 + a1) + t : Nat) : Int) (by omega) ?_
                              refine x_iald hx hb hK hP 9 0 rfl rfl ((40 * s1 + a1) + t) rfl (by omega) (by decide) (Nt ((40 * s1 + a1) + t)) (gd_at _ (by omega)) dX5_copy_184 ?_
                              refine x_iast hx hb hK hP hD hS 9 0 rfl rfl ((40 * t1 + c1) + t) rfl (by omega) (by decide) (wRo r ik tn j ++ (wA cI (r 1) 100 T ++ (wA cI (r 2) 100 K ++ (wA cI (r 3) 100 X ++ (wA cI (r 4) 100 Y ++ (wA cI (r 5) 8 (fR F) ++ (wA cI (r 6) 120 TB ++ (wA cI (r 7) 4 (bR SB) ++ (wA cI (r 8) 4 SS ++ (wA cI (r 9) 160 (va_up Nt ((40 * t1 + c1) + t) (Nt ((40 * s1 + a1) + t))))))))))))) (by rw [← wA_up cI (r 9) 160 Nt (Nt ((40 * s1 + a1) + t)) ((40 * t1 + c1) + t) (by omega)]; rfl) dX5_copy_185 (fun H locs hP hD hS => ?_)
                              refine x_iinc hx hb 9 ((t + 1 : Nat) : Int) (by omega) [(8, .int (iI ((t + 1 : Nat) : Int))), (9, .int (iI ((t : Nat) : Int))), (0, .ref (r 0)), (1, .int (iI ((s1 : Nat) : Int))), (2, .int (iI ((a1 : Nat) : Int))), (3, .int (iI ((t1 : Nat) : Int))), (4, .int (iI ((c1 : Nat) : Int))), (5, .int (iI ((n0 : Nat) : Int))), (6, .int (iI ((40 * s1 + a1 : Nat) : Int))), (7, .int (iI ((40 * t1 + c1 : Nat) : Int)))] dX5_copy_186 hl rfl (by decide) rfl (fun ls hl => ?_)
                              refine lv_goto (tgt := 138) hx hb dX5_copy_189 (by decide) ?_
                              exact ih (t + 1) (va_up Nt ((40 * t1 + c1) + t) (Nt ((40 * s1 + a1) + t))) _ _ _ (by omega) (cpJ_f hj (by omega)) hP hD hS (lv_sub hl [2, 3, 4, 5, 6, 7, 8, 9, 0] rfl)
                            · refine lv_iload hx hb dX5_copy_152 (lv_at hl 5 rfl) ?_
                              refine x_iconst hx hb dX5_copy_154 ?_
                              refine x_isub hx hb dX5_copy_155 ?_
                              refine lv_iload hx hb dX5_copy_156 (lv_at hl 8 rfl) ?_
                              refine x_isub hx hb dX5_copy_158 ?_
                              refine x_topi ((n0 - 1 - t : Nat) : Int) (by omega) ?_
                              refine lv_goto (tgt := 164) hx hb dX5_copy_159 (by decide) ?_
                              refine lv_istore (lv' := [(9, .int (iI ((n0 - 1 - t : Nat) : Int))), (0, .ref (r 0)), (1, .int (iI ((s1 : Nat) : Int))), (2, .int (iI ((a1 : Nat) : Int))), (3, .int (iI ((t1 : Nat) : Int))), (4, .int (iI ((c1 : Nat) : Int))), (5, .int (iI ((n0 : Nat) : Int))), (6, .int (iI ((40 * s1 + a1 : Nat) : Int))), (7, .int (iI ((40 * t1 + c1 : Nat) : Int))), (8, .int (iI ((t : Nat) : Int)))]) hx hb dX5_copy_164 hl (by decide) rfl (fun ls hl => ?_)
                              refine lv_aload_n hx hb dX5_copy_166 rfl (lv_at hl 1 rfl) ?_
                              refine va_get (D := D) (ci := 4) (v := .ref (r 9)) (C := RX5) (T := TX5) (N := 18) hx hb hts (iT_X5_copy_X5) hown hK hP 0 rfl rfl 10 (by decide) (hts (.fieldLink RX5 34 "WordSupperModel" "numbers" "[I") (by decide +kernel)) (fun _ h9 => h9) rfl dX5_copy_167 ?_
                              refine lv_iload hx hb dX5_copy_170 (lv_at hl 8 rfl) ?_
                              refine lv_iload hx hb dX5_copy_172 (lv_at hl 0 rfl) ?_
                              refine x_iadd hx hb dX5_copy_174 ?_
                              refine x_topi (((40 * t1 + c1) + (n0 - 1 - t) : Nat) : Int) (by omega) ?_
                              refine lv_aload_n hx hb dX5_copy_175 rfl (lv_at hl 1 rfl) ?_
                              refine va_get (D := D) (ci := 4) (v := .ref (r 9)) (C := RX5) (T := TX5) (N := 18) hx hb hts (iT_X5_copy_X5) hown hK hP 0 rfl rfl 10 (by decide) (hts (.fieldLink RX5 34 "WordSupperModel" "numbers" "[I") (by decide +kernel)) (fun _ h9 => h9) rfl dX5_copy_176 ?_
                              refine lv_iload hx hb dX5_copy_179 (lv_at hl 7 rfl) ?_
                              refine lv_iload hx hb dX5_copy_181 (lv_at hl 0 rfl) ?_
                              refine x_iadd hx hb dX5_copy_183 ?_
                              refine x_topi (((40 * s1 + a1) + (n0 - 1 - t) : Nat) : Int) (by omega) ?_
                              refine x_iald hx hb hK hP 9 0 rfl rfl ((40 * s1 + a1) + (n0 - 1 - t)) rfl (by omega) (by decide) (Nt ((40 * s1 + a1) + (n0 - 1 - t))) (gd_at _ (by omega)) dX5_copy_184 ?_
                              refine x_iast hx hb hK hP hD hS 9 0 rfl rfl ((40 * t1 + c1) + (n0 - 1 - t)) rfl (by omega) (by decide) (wRo r ik tn j ++ (wA cI (r 1) 100 T ++ (wA cI (r 2) 100 K ++ (wA cI (r 3) 100 X ++ (wA cI (r 4) 100 Y ++ (wA cI (r 5) 8 (fR F) ++ (wA cI (r 6) 120 TB ++ (wA cI (r 7) 4 (bR SB) ++ (wA cI (r 8) 4 SS ++ (wA cI (r 9) 160 (va_up Nt ((40 * t1 + c1) + (n0 - 1 - t)) (Nt ((40 * s1 + a1) + (n0 - 1 - t)))))))))))))) (by rw [← wA_up cI (r 9) 160 Nt (Nt ((40 * s1 + a1) + (n0 - 1 - t))) ((40 * t1 + c1) + (n0 - 1 - t)) (by omega)]; rfl) dX5_copy_185 (fun H locs hP hD hS => ?_)
                              refine x_iinc hx hb 9 ((t + 1 : Nat) : Int) (by omega) [(8, .int (iI ((t + 1 : Nat) : Int))), (9, .int (iI ((n0 - 1 - t : Nat) : Int))), (0, .ref (r 0)), (1, .int (iI ((s1 : Nat) : Int))), (2, .int (iI ((a1 : Nat) : Int))), (3, .int (iI ((t1 : Nat) : Int))), (4, .int (iI ((c1 : Nat) : Int))), (5, .int (iI ((n0 : Nat) : Int))), (6, .int (iI ((40 * s1 + a1 : Nat) : Int))), (7, .int (iI ((40 * t1 + c1 : Nat) : Int)))] dX5_copy_186 hl rfl (by decide) rfl (fun ls hl => ?_)
                              refine lv_goto (tgt := 138) hx hb dX5_copy_189 (by decide) ?_
                              exact ih (t + 1) (va_up Nt ((40 * t1 + c1) + (n0 - 1 - t)) (Nt ((40 * s1 + a1) + (n0 - 1 - t)))) _ _ _ (by omega) (cpJ_b hj (by omega) (by omega)) hP hD hS (lv_sub hl [2, 3, 4, 5, 6, 7, 8, 9, 0] rfl)
                      exact L138 n0 0 SN _ _ _ (by omega) (cpJ_0 _ _ _ _) hP hD hS (lv_sub hl [3, 4, 5, 6, 7, 8, 2, 1, 0] rfl)
                    · refine lv_aload_n hx hb dX5_copy_111 rfl (lv_at hl 0 rfl) ?_
                      refine x_ldc hx hb (-1000001) rfl hown (hts (.constant RX5 37 (-1000001)) (by decide +kernel)) dX5_copy_112 ?_
                      refine x_callV (As := [.int (iI (-1000001))]) (rest := []) ⟨hx, hb, hml, hown, hts⟩ (kX5_finds r ik tn j F (-1000001) 0 (by omega) (by omega)) (cwV 1 hts gX5_copy_X5_finds rfl rfl rfl ykVX5_finds ⟨Nat.le_of_ble_eq_true rfl, Nat.le_of_ble_eq_true rfl⟩) hP hK hD hS 0 4 rfl rfl rfl [0, 5] rfl (by decide) (fun _ => rfl) (fun _ => wRo r ik tn j ++ (wA cI (r 1) 100 T ++ (wA cI (r 2) 100 K ++ (wA cI (r 3) 100 X ++ (wA cI (r 4) 100 Y ++ (wA cI (r 5) 8 (fR (bmp 0 F)) ++ (wA cI (r 6) 120 TB ++ (wA cI (r 7) 4 (bR SB) ++ (wA cI (r 8) 4 SS ++ (wA cI (r 9) 160 SN)))))))))) (fun _ => rfl) rfl hl.1 rfl (Nat.le_of_ble_eq_true rfl) dX5_copy_114 ⟨Nat.le_of_ble_eq_true rfl, Nat.le_of_ble_eq_true rfl⟩ (fun _ H locs _ hP hD hS => ?_)
                      refine W.eq (g2 := F0 m 117 ls [.int (iI (-1000001))]) rfl ?_
                      exact kend (((-1000001), T, K, ik, SB, SS, SN, tn, TB, (bmp 0 F)), X, Y, j) hP hS rfl (by first | exact ((if_pos (by omega))).symm | (unfold m_copy; (try simp only [Int.toNat_natCast]); rw [if_neg (by omega), if_neg (by omega), if_neg (by omega), if_neg (by omega)] <;> rfl)) dX5_copy_117
          · refine lv_aload_n hx hb dX5_copy_62 rfl (lv_at hl 0 rfl) ?_
            refine x_ldcw hx hb (-1000003) rfl hown (hts (.constant RX5 277 (-1000003)) (by decide +kernel)) dX5_copy_63 ?_
            refine x_callV (As := [.int (iI (-1000003))]) (rest := []) ⟨hx, hb, hml, hown, hts⟩ (kX5_finds r ik tn j F (-1000003) 2 (by omega) (by omega)) (cwV 1 hts gX5_copy_X5_finds rfl rfl rfl ykVX5_finds ⟨Nat.le_of_ble_eq_true rfl, Nat.le_of_ble_eq_true rfl⟩) hP hK hD hS 0 4 rfl rfl rfl [0, 5] rfl (by decide) (fun _ => rfl) (fun _ => wRo r ik tn j ++ (wA cI (r 1) 100 T ++ (wA cI (r 2) 100 K ++ (wA cI (r 3) 100 X ++ (wA cI (r 4) 100 Y ++ (wA cI (r 5) 8 (fR (bmp 2 F)) ++ (wA cI (r 6) 120 TB ++ (wA cI (r 7) 4 (bR SB) ++ (wA cI (r 8) 4 SS ++ (wA cI (r 9) 160 SN)))))))))) (fun _ => rfl) rfl hl.1 rfl (Nat.le_of_ble_eq_true rfl) dX5_copy_66 ⟨Nat.le_of_ble_eq_true rfl, Nat.le_of_ble_eq_true rfl⟩ (fun _ H locs _ hP hD hS => ?_)
            refine W.eq (g2 := F0 m 69 ls [.int (iI (-1000003))]) rfl ?_
            exact kend (((-1000003), T, K, ik, SB, SS, SN, tn, TB, (bmp 2 F)), X, Y, j) hP hS rfl (by unfold m_copy; (try simp only [Int.toNat_natCast]); rw [if_neg (by omega), if_neg (by omega), if_pos (by omega)] <;> rfl) dX5_copy_69
        · refine lv_aload_n hx hb dX5_copy_39 rfl (lv_at hl 0 rfl) ?_
          refine x_ldcw hx hb (-1000006) rfl hown (hts (.constant RX5 273 (-1000006)) (by decide +kernel)) dX5_copy_40 ?_
          refine x_callV (As := [.int (iI (-1000006))]) (rest := []) ⟨hx, hb, hml, hown, hts⟩ (kX5_finds r ik tn j F (-1000006) 5 (by omega) (by omega)) (cwV 1 hts gX5_copy_X5_finds rfl rfl rfl ykVX5_finds ⟨Nat.le_of_ble_eq_true rfl, Nat.le_of_ble_eq_true rfl⟩) hP hK hD hS 0 4 rfl rfl rfl [0, 5] rfl (by decide) (fun _ => rfl) (fun _ => wRo r ik tn j ++ (wA cI (r 1) 100 T ++ (wA cI (r 2) 100 K ++ (wA cI (r 3) 100 X ++ (wA cI (r 4) 100 Y ++ (wA cI (r 5) 8 (fR (bmp 5 F)) ++ (wA cI (r 6) 120 TB ++ (wA cI (r 7) 4 (bR SB) ++ (wA cI (r 8) 4 SS ++ (wA cI (r 9) 160 SN)))))))))) (fun _ => rfl) rfl hl.1 rfl (Nat.le_of_ble_eq_true rfl) dX5_copy_43 ⟨Nat.le_of_ble_eq_true rfl, Nat.le_of_ble_eq_true rfl⟩ (fun _ H locs _ hP hD hS => ?_)
          refine W.eq (g2 := F0 m 46 ls [.int (iI (-1000006))]) rfl ?_
          exact kend (((-1000006), T, K, ik, SB, SS, SN, tn, TB, (bmp 5 F)), X, Y, j) hP hS rfl (by unfold m_copy; (try simp only [Int.toNat_natCast]); rw [if_neg (by omega), if_pos (by omega)] <;> rfl) dX5_copy_46
    · refine lv_aload_n hx hb dX5_copy_14 rfl (lv_at hl 0 rfl) ?_
      refine x_ldc hx hb (-1000001) rfl hown (hts (.constant RX5 37 (-1000001)) (by decide +kernel)) dX5_copy_15 ?_
      refine x_callV (As := [.int (iI (-1000001))]) (rest := []) ⟨hx, hb, hml, hown, hts⟩ (kX5_finds r ik tn j F (-1000001) 0 (by omega) (by omega)) (cwV 1 hts gX5_copy_X5_finds rfl rfl rfl ykVX5_finds ⟨Nat.le_of_ble_eq_true rfl, Nat.le_of_ble_eq_true rfl⟩) hP hK hD hS 0 4 rfl rfl rfl [0, 5] rfl (by decide) (fun _ => rfl) (fun _ => wRo r ik tn j ++ (wA cI (r 1) 100 T ++ (wA cI (r 2) 100 K ++ (wA cI (r 3) 100 X ++ (wA cI (r 4) 100 Y ++ (wA cI (r 5) 8 (fR (bmp 0 F)) ++ (wA cI (r 6) 120 TB ++ (wA cI (r 7) 4 (bR SB) ++ (wA cI (r 8) 4 SS ++ (wA cI (r 9) 160 SN)))))))))) (fun _ => rfl) rfl hl.1 rfl (Nat.le_of_ble_eq_true rfl) dX5_copy_17 ⟨Nat.le_of_ble_eq_true rfl, Nat.le_of_ble_eq_true rfl⟩ (fun _ H locs _ hP hD hS => ?_)
      refine W.eq (g2 := F0 m 20 ls [.int (iI (-1000001))]) rfl ?_
      exact kend (((-1000001), T, K, ik, SB, SS, SN, tn, TB, (bmp 0 F)), X, Y, j) hP hS rfl (by first | exact ((if_pos (by omega))).symm | (unfold m_copy; (try simp only [Int.toNat_natCast]); rw [if_neg (by omega), if_neg (by omega), if_neg (by omega), if_neg (by omega)] <;> rfl)) dX5_copy_20
theorem ykSX5_load : yX5_load.cls ≠ "java/lang/invoke/MethodHandle" ∧ yX5_load.cls ≠ "java/lang/invoke/VarHandle" ∧ (parseMethodDescriptor yX5_load.desc).map (fun d => d.parameters.length) = some 1 := by decide +kernel
theorem ykVX5_load : yX5_load.cls = RX5 ∧ yX5_load.cls ≠ "java/lang/invoke/MethodHandle" ∧ yX5_load.cls ≠ "java/lang/invoke/VarHandle" ∧ (parseMethodDescriptor yX5_load.desc).map (fun d => d.parameters.length) = some 1 := ⟨rfl, ykSX5_load⟩
set_option maxRecDepth 20000 in
theorem iT_X5_load_X5 : ∀ w ∈ u_ws RX5 TX5 18, w ∈ wsX5_load := by decide +kernel
set_option maxHeartbeats 4000000 in
set_option maxRecDepth 100000 in
theorem kX5_load {l : Launch} {D : va_G} {cI cB : ClassId} (r : Nat → Nat) (T K : Tb) (ik : Int) (SB SS SN : Nat → Int) (tn : Int) (TB F : Nat → Int) (X Y : Tb) (j : Nat → Int) (s0 : Int) (B : Int) (hG : GI B T K ik SB SS SN tn TB F) (hB : B ≤ 40000) (h_s0 : rI s0) : Ct l yX5_load wsX5_load 2 41 D [(cI, .int), (cB, .byte)] [.ref (r 0), .int (iI s0)] (wM cI r (T, K, ik, SB, SS, SN, tn, TB, F) X Y j) (S := (Int × Gs) × Tb × Tb × (Nat → Int)) (fun u => some (.int (iI u.1.1))) (fun u => u.1 = m_load s0 T K ik SB SS SN tn TB F) (fun u => wM cI r u.1.2 u.2.1 u.2.2.1 u.2.2.2) := by
  refine CtI.of (cc := cX5_load) (maxL := 3) (by decide +kernel) rfl (Nat.le_of_ble_eq_true rfl) ?_
  intro pg e s m args below meth c Q A hx hb hml hts hown hP hK hD hS ls hl kend
  have hown : s.vm.findClass RX5 = some m.cls := hown
  have hl : lv_has ls 3 [(0, .ref (r 0)), (1, .int (iI s0))] := hl
  obtain ⟨hI, hIK, hik, hSB, hSS, hSN, htn, hTB, hF⟩ := id hG
  have hn := Inv_n hI
  have hdy := Inv_d hI
  have hP : va_P D vwCl (wRo r ik tn j ++ (wA cI (r 1) 100 T ++ (wA cI (r 2) 100 K ++ (wA cI (r 3) 100 X ++ (wA cI (r 4) 100 Y ++ (wA cI (r 5) 8 (fR F) ++ (wA cI (r 6) 120 TB ++ (wA cI (r 7) 4 (bR SB) ++ (wA cI (r 8) 4 SS ++ (wA cI (r 9) 160 SN)))))))))) s.heap := hP
  have hD : va_D A (wRo r ik tn j ++ (wA cI (r 1) 100 T ++ (wA cI (r 2) 100 K ++ (wA cI (r 3) 100 X ++ (wA cI (r 4) 100 Y ++ (wA cI (r 5) 8 (fR F) ++ (wA cI (r 6) 120 TB ++ (wA cI (r 7) 4 (bR SB) ++ (wA cI (r 8) 4 SS ++ (wA cI (r 9) 160 SN)))))))))) := hD
  have hwa := waF_c SB s0
  refine lv_aload_n hx hb dX5_load_0 rfl (lv_at hl 0 rfl) ?_
  refine lv_iload_n hx hb dX5_load_1 rfl (lv_at hl 1 rfl) ?_
  refine x_callV (As := [.int (iI s0)]) (rest := []) ⟨hx, hb, hml, hown, hts⟩ (kX5_wants r ik tn j SB s0 (by omega) hSB) (cwV 1 hts gX5_load_X5_wants rfl rfl rfl ykVX5_wants ⟨Nat.le_of_ble_eq_true rfl, Nat.le_of_ble_eq_true rfl⟩) hP hK hD hS 0 4 rfl rfl rfl [0, 7] rfl (by decide) (fun _ => rfl) (fun _ => wRo r ik tn j ++ (wA cI (r 1) 100 T ++ (wA cI (r 2) 100 K ++ (wA cI (r 3) 100 X ++ (wA cI (r 4) 100 Y ++ (wA cI (r 5) 8 (fR F) ++ (wA cI (r 6) 120 TB ++ (wA cI (r 7) 4 (bR SB) ++ (wA cI (r 8) 4 SS ++ (wA cI (r 9) 160 SN)))))))))) (fun _ => rfl) rfl hl.1 rfl (Nat.le_of_ble_eq_true rfl) dX5_load_2 ⟨Nat.le_of_ble_eq_true rfl, Nat.le_of_ble_eq_true rfl⟩ (fun _ H locs _ hP hD hS => ?_)
  refine W.eq (g2 := F0 m 5 ls [.int (iI (waF SB s0))]) rfl ?_
  refine x_if_eq (tgt := 18) hx hb (by omega) dX5_load_5 (by decide) (fun c_5 => ?_) (fun c_5 => ?_)
  · have hs9 := waF_0 (show waF SB s0 = 0 by omega)
    obtain ⟨s1, rfl⟩ : ∃ s1 : Nat, s0 = (s1 : Int) := ⟨s0.toNat, by omega⟩
    have hz := hSS s1 (by omega)
    refine x_iconst hx hb dX5_load_18 ?_
    refine lv_istore_n (lv' := [(2, .int (iI 0)), (0, .ref (r 0)), (1, .int (iI ((s1 : Nat) : Int)))]) hx hb dX5_load_19 rfl hl (by decide) rfl (fun ls hl => ?_)
    have L20 : ∀ (k t : Nat) (Tt : Tb) (H : Heap) (locs : List Loc) (ls : Array Slot), t + k = (min 6 (SS s1)).toNat → (ldF SN (40 * s1) k t Tt = ldF SN (40 * s1) (min 6 (SS s1)).toNat 0 T) → va_P D vwCl (wRo r ik tn j ++ (wA cI (r 1) 100 Tt ++ (wA cI (r 2) 100 K ++ (wA cI (r 3) 100 X ++ (wA cI (r 4) 100 Y ++ (wA cI (r 5) 8 (fR F) ++ (wA cI (r 6) 120 TB ++ (wA cI (r 7) 4 (bR SB) ++ (wA cI (r 8) 4 SS ++ (wA cI (r 9) 160 SN)))))))))) H → va_D A (wRo r ik tn j ++ (wA cI (r 1) 100 Tt ++ (wA cI (r 2) 100 K ++ (wA cI (r 3) 100 X ++ (wA cI (r 4) 100 Y ++ (wA cI (r 5) 8 (fR F) ++ (wA cI (r 6) 120 TB ++ (wA cI (r 7) 4 (bR SB) ++ (wA cI (r 8) 4 SS ++ (wA cI (r 9) 160 SN)))))))))) → va_S A s.heap H locs → lv_has ls 3 [(0, .ref (r 0)), (1, .int (iI ((s1 : Nat) : Int))), (2, .int (iI ((t : Nat) : Int)))] → W pg l e { frames := 2, cells := 0, slots := 0, locals := 41 } s m args below meth c H locs 0 0 Q (F0 m 20 ls []) := by
      intro k
      induction k with
      | zero =>
        intro t Tt H locs ls hkt hr hP hD hS hl
        refine lv_iload_n hx hb dX5_load_20 rfl (lv_at hl 2 rfl) ?_
        refine lv_aload_n hx hb dX5_load_21 rfl (lv_at hl 0 rfl) ?_
        refine va_get (D := D) (ci := 4) (v := .ref (r 8)) (C := RX5) (T := TX5) (N := 18) hx hb hts (iT_X5_load_X5) hown hK hP 0 rfl rfl 9 (by decide) (hts (.fieldLink RX5 31 "WordSupperModel" "sizes" "[I") (by decide +kernel)) (fun _ h9 => h9) rfl dX5_load_22 ?_
        refine lv_iload_n hx hb dX5_load_25 rfl (lv_at hl 1 rfl) ?_
        refine x_iald hx hb hK hP 8 0 rfl rfl s1 rfl (by omega) (by decide) (SS s1) (gd_at _ (by omega)) dX5_load_26 ?_
        refine x_icmp_ge (tgt := 83) hx hb (by omega) (by omega) dX5_load_27 (by decide) (fun c_27 => ?_) (fun c_27 => ?_)
        · refine lv_iload_n hx hb dX5_load_83 rfl (lv_at hl 2 rfl) ?_
          exact kend ((((t : Nat) : Int), Tt, K, ik, SB, SS, SN, tn, TB, F), X, Y, j) hP hS rfl (by unfold m_load; rw [if_neg (by omega), Int.toNat_natCast, ← hr] <;> rfl) dX5_load_84
        · refine lv_iload_n hx hb dX5_load_30 rfl (lv_at hl 2 rfl) ?_
          refine x_bipush hx hb dX5_load_31 (by decide) ?_
          refine x_icmp_ge (tgt := 83) hx hb (by omega) (by decide) dX5_load_33 (by decide) (fun c_33 => ?_) (fun c_33 => ?_)
          · refine lv_iload_n hx hb dX5_load_83 rfl (lv_at hl 2 rfl) ?_
            exact kend ((((t : Nat) : Int), Tt, K, ik, SB, SS, SN, tn, TB, F), X, Y, j) hP hS rfl (by unfold m_load; rw [if_neg (by omega), Int.toNat_natCast, ← hr] <;> rfl) dX5_load_84
          · exfalso; omega
      | succ k ih =>
        intro t Tt H locs ls hkt hr hP hD hS hl
        refine lv_iload_n hx hb dX5_load_20 rfl (lv_at hl 2 rfl) ?_
        refine lv_aload_n hx hb dX5_load_21 rfl (lv_at hl 0 rfl) ?_
        refine va_get (D := D) (ci := 4) (v := .ref (r 8)) (C := RX5) (T := TX5) (N := 18) hx hb hts (iT_X5_load_X5) hown hK hP 0 rfl rfl 9 (by decide) (hts (.fieldLink RX5 31 "WordSupperModel" "sizes" "[I") (by decide +kernel)) (fun _ h9 => h9) rfl dX5_load_22 ?_
        refine lv_iload_n hx hb dX5_load_25 rfl (lv_at hl 1 rfl) ?_
        refine x_iald hx hb hK hP 8 0 rfl rfl s1 rfl (by omega) (by decide) (SS s1) (gd_at _ (by omega)) dX5_load_26 ?_
        refine x_icmp_ge (tgt := 83) hx hb (by omega) (by omega) dX5_load_27 (by decide) (fun c_27 => ?_) (fun c_27 => ?_)
        · exfalso; omega
        · refine lv_iload_n hx hb dX5_load_30 rfl (lv_at hl 2 rfl) ?_
          refine x_bipush hx hb dX5_load_31 (by decide) ?_
          refine x_icmp_ge (tgt := 83) hx hb (by omega) (by decide) dX5_load_33 (by decide) (fun c_33 => ?_) (fun c_33 => ?_)
          · exfalso; omega
          · refine lv_aload_n hx hb dX5_load_36 rfl (lv_at hl 0 rfl) ?_
            refine va_get (D := D) (ci := 4) (v := .ref (r 9)) (C := RX5) (T := TX5) (N := 18) hx hb hts (iT_X5_load_X5) hown hK hP 0 rfl rfl 10 (by decide) (hts (.fieldLink RX5 34 "WordSupperModel" "numbers" "[I") (by decide +kernel)) (fun _ h9 => h9) rfl dX5_load_37 ?_
            refine x_bipush hx hb dX5_load_40 (by decide) ?_
            refine lv_iload_n hx hb dX5_load_42 rfl (lv_at hl 1 rfl) ?_
            refine x_imul hx hb dX5_load_43 ?_
            refine x_topi ((40 * s1 : Nat) : Int) (by omega) ?_
            refine lv_iload_n hx hb dX5_load_44 rfl (lv_at hl 2 rfl) ?_
            refine x_iadd hx hb dX5_load_45 ?_
            refine x_topi (((40 * s1) + t : Nat) : Int) (by omega) ?_
            refine x_iald hx hb hK hP 9 0 rfl rfl ((40 * s1) + t) rfl (by omega) (by decide) (SN ((40 * s1) + t)) (gd_at _ (by omega)) dX5_load_46 ?_
            have hq1 := hSN (40 * s1 + t) (by omega)
            refine x_i2l hx hb (by omega) dX5_load_47 ?_
            refine x_lconst hx hb 0 rfl dX5_load_48 ?_
            refine x_ldc2 hx hb 20 rfl hown (hts (.constantLong RX5 57 (20)) (by decide +kernel)) dX5_load_49 ?_
            refine x_callS (As := [.long (lI (SN ((40 * s1) + t))), .long (lI 0), .long (lI 20)]) (rest := []) ⟨hx, hb, hml, hown, hts⟩ (kX5_isIn (SN ((40 * s1) + t)) 0 20 (by omega) (by omega) (by omega)) (va_cwS 3 hts gX5_load_X5_isIn rfl rfl rfl ykSX5_isIn ⟨Nat.le_of_ble_eq_true rfl, Nat.le_of_ble_eq_true rfl⟩) hP hK hD hS [] rfl (by decide) (fun _ => rfl) (fun _ => wRo r ik tn j ++ (wA cI (r 1) 100 Tt ++ (wA cI (r 2) 100 K ++ (wA cI (r 3) 100 X ++ (wA cI (r 4) 100 Y ++ (wA cI (r 5) 8 (fR F) ++ (wA cI (r 6) 120 TB ++ (wA cI (r 7) 4 (bR SB) ++ (wA cI (r 8) 4 SS ++ (wA cI (r 9) 160 SN)))))))))) (fun _ => rfl) rfl hl.1 rfl (Nat.le_of_ble_eq_true rfl) dX5_load_52 ⟨Nat.le_of_ble_eq_true rfl, Nat.le_of_ble_eq_true rfl⟩ (fun _ H locs _ hP hD hS => ?_)
            refine W.eq (g2 := F0 m 55 ls [.int (iI (b2 (decide (0 ≤ (SN ((40 * s1) + t)) ∧ (SN ((40 * s1) + t)) ≤ 20))))]) rfl ?_
            refine x_ifb_eq (tgt := 83) hx hb dX5_load_55 (by decide) (fun c_55 => ?_) (fun c_55 => ?_)
            · refine lv_iload_n hx hb dX5_load_83 rfl (lv_at hl 2 rfl) ?_
              exact kend ((((t : Nat) : Int), Tt, K, ik, SB, SS, SN, tn, TB, F), X, Y, j) hP hS rfl (by unfold m_load; rw [if_neg (by omega), Int.toNat_natCast, ← hr, ldF, if_neg (by omega)] <;> rfl) dX5_load_84
            · refine lv_aload_n hx hb dX5_load_58 rfl (lv_at hl 0 rfl) ?_
              refine va_get (D := D) (ci := 4) (v := .ref (r 1)) (C := RX5) (T := TX5) (N := 18) hx hb hts (iT_X5_load_X5) hown hK hP 0 rfl rfl 0 (by decide) (hts (.fieldLink RX5 7 "WordSupperModel" "s" "[I") (by decide +kernel)) (fun _ h9 => h9) rfl dX5_load_59 ?_
              refine x_iconst hx hb dX5_load_62 ?_
              refine lv_iload_n hx hb dX5_load_63 rfl (lv_at hl 2 rfl) ?_
              refine x_iadd hx hb dX5_load_64 ?_
              refine x_topi ((4 + t : Nat) : Int) (by omega) ?_
              refine lv_aload_n hx hb dX5_load_65 rfl (lv_at hl 0 rfl) ?_
              refine va_get (D := D) (ci := 4) (v := .ref (r 9)) (C := RX5) (T := TX5) (N := 18) hx hb hts (iT_X5_load_X5) hown hK hP 0 rfl rfl 10 (by decide) (hts (.fieldLink RX5 34 "WordSupperModel" "numbers" "[I") (by decide +kernel)) (fun _ h9 => h9) rfl dX5_load_66 ?_
              refine x_bipush hx hb dX5_load_69 (by decide) ?_
              refine lv_iload_n hx hb dX5_load_71 rfl (lv_at hl 1 rfl) ?_
              refine x_imul hx hb dX5_load_72 ?_
              refine x_topi ((40 * s1 : Nat) : Int) (by omega) ?_
              refine lv_iload_n hx hb dX5_load_73 rfl (lv_at hl 2 rfl) ?_
              refine x_iadd hx hb dX5_load_74 ?_
              refine x_topi (((40 * s1) + t : Nat) : Int) (by omega) ?_
              refine x_iald hx hb hK hP 9 0 rfl rfl ((40 * s1) + t) rfl (by omega) (by decide) (SN ((40 * s1) + t)) (gd_at _ (by omega)) dX5_load_75 ?_
              refine x_iast hx hb hK hP hD hS 1 0 rfl rfl (4 + t) rfl (by omega) (by decide) (wRo r ik tn j ++ (wA cI (r 1) 100 (va_up Tt (4 + t) (SN ((40 * s1) + t))) ++ (wA cI (r 2) 100 K ++ (wA cI (r 3) 100 X ++ (wA cI (r 4) 100 Y ++ (wA cI (r 5) 8 (fR F) ++ (wA cI (r 6) 120 TB ++ (wA cI (r 7) 4 (bR SB) ++ (wA cI (r 8) 4 SS ++ (wA cI (r 9) 160 SN)))))))))) (by rw [← wA_up cI (r 1) 100 Tt (SN ((40 * s1) + t)) (4 + t) (by omega)]; rfl) dX5_load_76 (fun H locs hP hD hS => ?_)
              refine x_iinc hx hb 2 ((t + 1 : Nat) : Int) (by omega) [(2, .int (iI ((t + 1 : Nat) : Int))), (0, .ref (r 0)), (1, .int (iI ((s1 : Nat) : Int)))] dX5_load_77 hl rfl (by decide) rfl (fun ls hl => ?_)
              refine lv_goto (tgt := 20) hx hb dX5_load_80 (by decide) ?_
              exact ih (t + 1) (va_up Tt (4 + t) (SN ((40 * s1) + t))) _ _ _ (by omega) (by rw [← hr, ldF, if_pos (by omega)]) hP hD hS (lv_sub hl [1, 2, 0] rfl)
    exact L20 (min 6 (SS s1)).toNat 0 T _ _ _ (by omega) rfl hP hD hS (lv_sub hl [1, 2, 0] rfl)
  · refine lv_aload_n hx hb dX5_load_8 rfl (lv_at hl 0 rfl) ?_
    refine lv_aload_n hx hb dX5_load_9 rfl (lv_at hl 0 rfl) ?_
    refine lv_iload_n hx hb dX5_load_10 rfl (lv_at hl 1 rfl) ?_
    refine x_callV (As := [.int (iI s0)]) (rest := [.ref (r 0)]) ⟨hx, hb, hml, hown, hts⟩ (kX5_wants r ik tn j SB s0 (by omega) hSB) (cwV 1 hts gX5_load_X5_wants rfl rfl rfl ykVX5_wants ⟨Nat.le_of_ble_eq_true rfl, Nat.le_of_ble_eq_true rfl⟩) hP hK hD hS 0 4 rfl rfl rfl [0, 7] rfl (by decide) (fun _ => rfl) (fun _ => wRo r ik tn j ++ (wA cI (r 1) 100 T ++ (wA cI (r 2) 100 K ++ (wA cI (r 3) 100 X ++ (wA cI (r 4) 100 Y ++ (wA cI (r 5) 8 (fR F) ++ (wA cI (r 6) 120 TB ++ (wA cI (r 7) 4 (bR SB) ++ (wA cI (r 8) 4 SS ++ (wA cI (r 9) 160 SN)))))))))) (fun _ => rfl) rfl hl.1 rfl (Nat.le_of_ble_eq_true rfl) dX5_load_11 ⟨Nat.le_of_ble_eq_true rfl, Nat.le_of_ble_eq_true rfl⟩ (fun _ H locs _ hP hD hS => ?_)
    refine W.eq (g2 := F0 m 14 ls [.int (iI (waF SB s0)), .ref (r 0)]) rfl ?_
    refine x_callV (As := [.int (iI (waF SB s0))]) (rest := []) ⟨hx, hb, hml, hown, hts⟩ (kX5_finds r ik tn j F (waF SB s0) (-1000001 - waF SB s0).toNat (by omega) (by omega)) (cwV 1 hts gX5_load_X5_finds rfl rfl rfl ykVX5_finds ⟨Nat.le_of_ble_eq_true rfl, Nat.le_of_ble_eq_true rfl⟩) hP hK hD hS 0 4 rfl rfl rfl [0, 5] rfl (by decide) (fun _ => rfl) (fun _ => wRo r ik tn j ++ (wA cI (r 1) 100 T ++ (wA cI (r 2) 100 K ++ (wA cI (r 3) 100 X ++ (wA cI (r 4) 100 Y ++ (wA cI (r 5) 8 (fR (bmp ((-1000001 - waF SB s0).toNat) F)) ++ (wA cI (r 6) 120 TB ++ (wA cI (r 7) 4 (bR SB) ++ (wA cI (r 8) 4 SS ++ (wA cI (r 9) 160 SN)))))))))) (fun _ => rfl) rfl hl.1 rfl (Nat.le_of_ble_eq_true rfl) dX5_load_14 ⟨Nat.le_of_ble_eq_true rfl, Nat.le_of_ble_eq_true rfl⟩ (fun _ H locs _ hP hD hS => ?_)
    refine W.eq (g2 := F0 m 17 ls [.int (iI (waF SB s0))]) rfl ?_
    exact kend (((waF SB s0), T, K, ik, SB, SS, SN, tn, TB, (bmp ((-1000001 - waF SB s0).toNat) F)), X, Y, j) hP hS rfl (if_pos (by omega)).symm dX5_load_17
theorem ykSX5_judge : yX5_judge.cls ≠ "java/lang/invoke/MethodHandle" ∧ yX5_judge.cls ≠ "java/lang/invoke/VarHandle" ∧ (parseMethodDescriptor yX5_judge.desc).map (fun d => d.parameters.length) = some 1 := by decide +kernel
theorem ykVX5_judge : yX5_judge.cls = RX5 ∧ yX5_judge.cls ≠ "java/lang/invoke/MethodHandle" ∧ yX5_judge.cls ≠ "java/lang/invoke/VarHandle" ∧ (parseMethodDescriptor yX5_judge.desc).map (fun d => d.parameters.length) = some 1 := ⟨rfl, ykSX5_judge⟩
set_option maxRecDepth 20000 in
theorem iT_X5_judge_X5 : ∀ w ∈ u_ws RX5 TX5 18, w ∈ wsX5_judge := by decide +kernel
set_option maxHeartbeats 4000000 in
set_option maxRecDepth 100000 in
theorem kX5_judge {l : Launch} {D : va_G} {cI cB : ClassId} (r : Nat → Nat) (T K : Tb) (ik : Int) (SB SS SN : Nat → Int) (tn : Int) (TB F : Nat → Int) (X Y : Tb) (j : Nat → Int) (s0 : Int) (B : Int) (hG : GI B T K ik SB SS SN tn TB F) (hB : B ≤ 40000) (h_s0 : rI s0) : Ct l yX5_judge wsX5_judge 2 45 D [(cI, .int), (cB, .byte)] [.ref (r 0), .int (iI s0)] (wM cI r (T, K, ik, SB, SS, SN, tn, TB, F) X Y j) (S := (Int × Gs) × Tb × Tb × (Nat → Int)) (fun u => some (.int (iI u.1.1))) (fun u => u.1 = m_judge s0 T K ik SB SS SN tn TB F) (fun u => wM cI r u.1.2 u.2.1 u.2.2.1 u.2.2.2) := by
  refine CtI.of (cc := cX5_judge) (maxL := 3) (by decide +kernel) rfl (Nat.le_of_ble_eq_true rfl) ?_
  intro pg e s m args below meth c Q A hx hb hml hts hown hP hK hD hS ls hl kend
  have hown : s.vm.findClass RX5 = some m.cls := hown
  have hl : lv_has ls 3 [(0, .ref (r 0)), (1, .int (iI s0))] := hl
  obtain ⟨hI, hIK, hik, hSB, hSS, hSN, htn, hTB, hF⟩ := id hG
  have hn := Inv_n hI
  have hdy := Inv_d hI
  have hP : va_P D vwCl (wRo r ik tn j ++ (wA cI (r 1) 100 T ++ (wA cI (r 2) 100 K ++ (wA cI (r 3) 100 X ++ (wA cI (r 4) 100 Y ++ (wA cI (r 5) 8 (fR F) ++ (wA cI (r 6) 120 TB ++ (wA cI (r 7) 4 (bR SB) ++ (wA cI (r 8) 4 SS ++ (wA cI (r 9) 160 SN)))))))))) s.heap := hP
  have hD : va_D A (wRo r ik tn j ++ (wA cI (r 1) 100 T ++ (wA cI (r 2) 100 K ++ (wA cI (r 3) 100 X ++ (wA cI (r 4) 100 Y ++ (wA cI (r 5) 8 (fR F) ++ (wA cI (r 6) 120 TB ++ (wA cI (r 7) 4 (bR SB) ++ (wA cI (r 8) 4 SS ++ (wA cI (r 9) 160 SN)))))))))) := hD
  have hwa := waF_c SB s0
  refine lv_aload_n hx hb dX5_judge_0 rfl (lv_at hl 0 rfl) ?_
  refine lv_iload_n hx hb dX5_judge_1 rfl (lv_at hl 1 rfl) ?_
  refine x_callV (As := [.int (iI s0)]) (rest := []) ⟨hx, hb, hml, hown, hts⟩ (kX5_wants r ik tn j SB s0 (by omega) hSB) (cwV 1 hts gX5_judge_X5_wants rfl rfl rfl ykVX5_wants ⟨Nat.le_of_ble_eq_true rfl, Nat.le_of_ble_eq_true rfl⟩) hP hK hD hS 0 4 rfl rfl rfl [0, 7] rfl (by decide) (fun _ => rfl) (fun _ => wRo r ik tn j ++ (wA cI (r 1) 100 T ++ (wA cI (r 2) 100 K ++ (wA cI (r 3) 100 X ++ (wA cI (r 4) 100 Y ++ (wA cI (r 5) 8 (fR F) ++ (wA cI (r 6) 120 TB ++ (wA cI (r 7) 4 (bR SB) ++ (wA cI (r 8) 4 SS ++ (wA cI (r 9) 160 SN)))))))))) (fun _ => rfl) rfl hl.1 rfl (Nat.le_of_ble_eq_true rfl) dX5_judge_2 ⟨Nat.le_of_ble_eq_true rfl, Nat.le_of_ble_eq_true rfl⟩ (fun _ H locs _ hP hD hS => ?_)
  refine W.eq (g2 := F0 m 5 ls [.int (iI (waF SB s0))]) rfl ?_
  refine x_if_eq (tgt := 18) hx hb (by omega) dX5_judge_5 (by decide) (fun c_5 => ?_) (fun c_5 => ?_)
  · have hs9 := waF_0 (show waF SB s0 = 0 by omega)
    obtain ⟨s1, rfl⟩ : ∃ s1 : Nat, s0 = (s1 : Int) := ⟨s0.toNat, by omega⟩
    have hz := hSS s1 (by omega)
    refine x_iconst hx hb dX5_judge_18 ?_
    refine lv_istore_n (lv' := [(2, .int (iI 0)), (0, .ref (r 0)), (1, .int (iI ((s1 : Nat) : Int)))]) hx hb dX5_judge_19 rfl hl (by decide) rfl (fun ls hl => ?_)
    have L20 : ∀ (k t : Nat) (H : Heap) (locs : List Loc) (ls : Array Slot), t + k = (SS s1).toNat → (juF T SN (40 * s1) k t = juF T SN (40 * s1) (SS s1).toNat 0) → va_P D vwCl (wRo r ik tn j ++ (wA cI (r 1) 100 T ++ (wA cI (r 2) 100 K ++ (wA cI (r 3) 100 X ++ (wA cI (r 4) 100 Y ++ (wA cI (r 5) 8 (fR F) ++ (wA cI (r 6) 120 TB ++ (wA cI (r 7) 4 (bR SB) ++ (wA cI (r 8) 4 SS ++ (wA cI (r 9) 160 SN)))))))))) H → va_D A (wRo r ik tn j ++ (wA cI (r 1) 100 T ++ (wA cI (r 2) 100 K ++ (wA cI (r 3) 100 X ++ (wA cI (r 4) 100 Y ++ (wA cI (r 5) 8 (fR F) ++ (wA cI (r 6) 120 TB ++ (wA cI (r 7) 4 (bR SB) ++ (wA cI (r 8) 4 SS ++ (wA cI (r 9) 160 SN)))))))))) → va_S A s.heap H locs → lv_has ls 3 [(0, .ref (r 0)), (1, .int (iI ((s1 : Nat) : Int))), (2, .int (iI ((t : Nat) : Int)))] → W pg l e { frames := 2, cells := 0, slots := 0, locals := 45 } s m args below meth c H locs 0 0 Q (F0 m 20 ls []) := by
      intro k
      induction k with
      | zero =>
        intro t H locs ls hkt hr hP hD hS hl
        refine lv_iload_n hx hb dX5_judge_20 rfl (lv_at hl 2 rfl) ?_
        refine lv_aload_n hx hb dX5_judge_21 rfl (lv_at hl 0 rfl) ?_
        refine va_get (D := D) (ci := 4) (v := .ref (r 8)) (C := RX5) (T := TX5) (N := 18) hx hb hts (iT_X5_judge_X5) hown hK hP 0 rfl rfl 9 (by decide) (hts (.fieldLink RX5 31 "WordSupperModel" "sizes" "[I") (by decide +kernel)) (fun _ h9 => h9) rfl dX5_judge_22 ?_
        refine lv_iload_n hx hb dX5_judge_25 rfl (lv_at hl 1 rfl) ?_
        refine x_iald hx hb hK hP 8 0 rfl rfl s1 rfl (by omega) (by decide) (SS s1) (gd_at _ (by omega)) dX5_judge_26 ?_
        refine x_icmp_ge (tgt := 63) hx hb (by omega) (by omega) dX5_judge_27 (by decide) (fun c_27 => ?_) (fun c_27 => ?_)
        · refine lv_iload_n hx hb dX5_judge_63 rfl (lv_at hl 2 rfl) ?_
          refine lv_aload_n hx hb dX5_judge_64 rfl (lv_at hl 0 rfl) ?_
          refine va_get (D := D) (ci := 4) (v := .ref (r 8)) (C := RX5) (T := TX5) (N := 18) hx hb hts (iT_X5_judge_X5) hown hK hP 0 rfl rfl 9 (by decide) (hts (.fieldLink RX5 31 "WordSupperModel" "sizes" "[I") (by decide +kernel)) (fun _ h9 => h9) rfl dX5_judge_65 ?_
          refine lv_iload_n hx hb dX5_judge_68 rfl (lv_at hl 1 rfl) ?_
          refine x_iald hx hb hK hP 8 0 rfl rfl s1 rfl (by omega) (by decide) (SS s1) (gd_at _ (by omega)) dX5_judge_69 ?_
          refine x_icmp_ge (tgt := 79) hx hb (by omega) (by omega) dX5_judge_70 (by decide) (fun c_70 => ?_) (fun c_70 => ?_)
          · refine x_iconst hx hb dX5_judge_79 ?_
            exact kend ((0, T, K, ik, SB, SS, SN, tn, TB, F), X, Y, j) hP hS rfl (by unfold m_judge; rw [if_neg (by omega), Int.toNat_natCast, ← hr] <;> rfl) dX5_judge_80
          · exfalso; omega
        · exfalso; omega
      | succ k ih =>
        intro t H locs ls hkt hr hP hD hS hl
        refine lv_iload_n hx hb dX5_judge_20 rfl (lv_at hl 2 rfl) ?_
        refine lv_aload_n hx hb dX5_judge_21 rfl (lv_at hl 0 rfl) ?_
        refine va_get (D := D) (ci := 4) (v := .ref (r 8)) (C := RX5) (T := TX5) (N := 18) hx hb hts (iT_X5_judge_X5) hown hK hP 0 rfl rfl 9 (by decide) (hts (.fieldLink RX5 31 "WordSupperModel" "sizes" "[I") (by decide +kernel)) (fun _ h9 => h9) rfl dX5_judge_22 ?_
        refine lv_iload_n hx hb dX5_judge_25 rfl (lv_at hl 1 rfl) ?_
        refine x_iald hx hb hK hP 8 0 rfl rfl s1 rfl (by omega) (by decide) (SS s1) (gd_at _ (by omega)) dX5_judge_26 ?_
        refine x_icmp_ge (tgt := 63) hx hb (by omega) (by omega) dX5_judge_27 (by decide) (fun c_27 => ?_) (fun c_27 => ?_)
        · exfalso; omega
        · refine lv_aload_n hx hb dX5_judge_30 rfl (lv_at hl 0 rfl) ?_
          refine lv_iload_n hx hb dX5_judge_31 rfl (lv_at hl 2 rfl) ?_
          refine x_callV (As := [.int (iI ((t : Nat) : Int))]) (rest := []) ⟨hx, hb, hml, hown, hts⟩ (kX5_isOne r ik tn j T ((t : Nat) : Int) (by omega) (by omega)) (cwV 1 hts gX5_judge_X5_isOne rfl rfl rfl ykVX5_isOne ⟨Nat.le_of_ble_eq_true rfl, Nat.le_of_ble_eq_true rfl⟩) hP hK hD hS 0 4 rfl rfl rfl [0, 1] rfl (by decide) (fun _ => rfl) (fun _ => wRo r ik tn j ++ (wA cI (r 1) 100 T ++ (wA cI (r 2) 100 K ++ (wA cI (r 3) 100 X ++ (wA cI (r 4) 100 Y ++ (wA cI (r 5) 8 (fR F) ++ (wA cI (r 6) 120 TB ++ (wA cI (r 7) 4 (bR SB) ++ (wA cI (r 8) 4 SS ++ (wA cI (r 9) 160 SN)))))))))) (fun _ => rfl) rfl hl.1 rfl (Nat.le_of_ble_eq_true rfl) dX5_judge_32 ⟨Nat.le_of_ble_eq_true rfl, Nat.le_of_ble_eq_true rfl⟩ (fun _ H locs _ hP hD hS => ?_)
          refine W.eq (g2 := F0 m 35 ls [.int (iI (b2 (decide (0 ≤ ((t : Nat) : Int) ∧ ((t : Nat) : Int) < T 0))))]) rfl ?_
          refine x_ifb_eq (tgt := 63) hx hb dX5_judge_35 (by decide) (fun c_35 => ?_) (fun c_35 => ?_)
          · refine lv_iload_n hx hb dX5_judge_63 rfl (lv_at hl 2 rfl) ?_
            refine lv_aload_n hx hb dX5_judge_64 rfl (lv_at hl 0 rfl) ?_
            refine va_get (D := D) (ci := 4) (v := .ref (r 8)) (C := RX5) (T := TX5) (N := 18) hx hb hts (iT_X5_judge_X5) hown hK hP 0 rfl rfl 9 (by decide) (hts (.fieldLink RX5 31 "WordSupperModel" "sizes" "[I") (by decide +kernel)) (fun _ h9 => h9) rfl dX5_judge_65 ?_
            refine lv_iload_n hx hb dX5_judge_68 rfl (lv_at hl 1 rfl) ?_
            refine x_iald hx hb hK hP 8 0 rfl rfl s1 rfl (by omega) (by decide) (SS s1) (gd_at _ (by omega)) dX5_judge_69 ?_
            refine x_icmp_ge (tgt := 79) hx hb (by omega) (by omega) dX5_judge_70 (by decide) (fun c_70 => ?_) (fun c_70 => ?_)
            · exfalso; omega
            · refine x_iconst hx hb dX5_judge_73 ?_
              refine lv_iload_n hx hb dX5_judge_74 rfl (lv_at hl 2 rfl) ?_
              refine x_iadd hx hb dX5_judge_75 ?_
              refine x_topi ((1 + t : Nat) : Int) (by omega) ?_
              refine lv_goto (tgt := 80) hx hb dX5_judge_76 (by decide) ?_
              exact kend ((((1 + t : Nat) : Int), T, K, ik, SB, SS, SN, tn, TB, F), X, Y, j) hP hS rfl (by unfold m_judge; rw [if_neg (by omega), Int.toNat_natCast, ← hr, juF, if_neg (by omega)] <;> rfl) dX5_judge_80
          · refine lv_aload_n hx hb dX5_judge_38 rfl (lv_at hl 0 rfl) ?_
            refine va_get (D := D) (ci := 4) (v := .ref (r 9)) (C := RX5) (T := TX5) (N := 18) hx hb hts (iT_X5_judge_X5) hown hK hP 0 rfl rfl 10 (by decide) (hts (.fieldLink RX5 34 "WordSupperModel" "numbers" "[I") (by decide +kernel)) (fun _ h9 => h9) rfl dX5_judge_39 ?_
            refine x_bipush hx hb dX5_judge_42 (by decide) ?_
            refine lv_iload_n hx hb dX5_judge_44 rfl (lv_at hl 1 rfl) ?_
            refine x_imul hx hb dX5_judge_45 ?_
            refine x_topi ((40 * s1 : Nat) : Int) (by omega) ?_
            refine lv_iload_n hx hb dX5_judge_46 rfl (lv_at hl 2 rfl) ?_
            refine x_iadd hx hb dX5_judge_47 ?_
            refine x_topi (((40 * s1) + t : Nat) : Int) (by omega) ?_
            refine x_iald hx hb hK hP 9 0 rfl rfl ((40 * s1) + t) rfl (by omega) (by decide) (SN ((40 * s1) + t)) (gd_at _ (by omega)) dX5_judge_48 ?_
            refine lv_aload_n hx hb dX5_judge_49 rfl (lv_at hl 0 rfl) ?_
            refine lv_iload_n hx hb dX5_judge_50 rfl (lv_at hl 2 rfl) ?_
            refine x_callV (As := [.int (iI ((t : Nat) : Int))]) (rest := [.int (iI (SN ((40 * s1) + t)))]) ⟨hx, hb, hml, hown, hts⟩ (kX5_left r ik tn j T t (by omega)) (cwV 1 hts gX5_judge_X5_left rfl rfl rfl ykVX5_left ⟨Nat.le_of_ble_eq_true rfl, Nat.le_of_ble_eq_true rfl⟩) hP hK hD hS 0 4 rfl rfl rfl [0, 1] rfl (by decide) (fun _ => rfl) (fun _ => wRo r ik tn j ++ (wA cI (r 1) 100 T ++ (wA cI (r 2) 100 K ++ (wA cI (r 3) 100 X ++ (wA cI (r 4) 100 Y ++ (wA cI (r 5) 8 (fR F) ++ (wA cI (r 6) 120 TB ++ (wA cI (r 7) 4 (bR SB) ++ (wA cI (r 8) 4 SS ++ (wA cI (r 9) 160 SN)))))))))) (fun _ => rfl) rfl hl.1 rfl (Nat.le_of_ble_eq_true rfl) dX5_judge_51 ⟨Nat.le_of_ble_eq_true rfl, Nat.le_of_ble_eq_true rfl⟩ (fun _ H locs _ hP hD hS => ?_)
            refine W.eq (g2 := F0 m 54 ls [.int (iI (lfF T t)), .int (iI (SN ((40 * s1) + t)))]) rfl ?_
            have hq1 := hSN (40 * s1 + t) (by omega)
            have hq2 := Inv_lf (p := t) hI (by omega)
            refine x_icmp_ne (tgt := 63) hx hb (by omega) (by omega) dX5_judge_54 (by decide) (fun c_54 => ?_) (fun c_54 => ?_)
            · refine lv_iload_n hx hb dX5_judge_63 rfl (lv_at hl 2 rfl) ?_
              refine lv_aload_n hx hb dX5_judge_64 rfl (lv_at hl 0 rfl) ?_
              refine va_get (D := D) (ci := 4) (v := .ref (r 8)) (C := RX5) (T := TX5) (N := 18) hx hb hts (iT_X5_judge_X5) hown hK hP 0 rfl rfl 9 (by decide) (hts (.fieldLink RX5 31 "WordSupperModel" "sizes" "[I") (by decide +kernel)) (fun _ h9 => h9) rfl dX5_judge_65 ?_
              refine lv_iload_n hx hb dX5_judge_68 rfl (lv_at hl 1 rfl) ?_
              refine x_iald hx hb hK hP 8 0 rfl rfl s1 rfl (by omega) (by decide) (SS s1) (gd_at _ (by omega)) dX5_judge_69 ?_
              refine x_icmp_ge (tgt := 79) hx hb (by omega) (by omega) dX5_judge_70 (by decide) (fun c_70 => ?_) (fun c_70 => ?_)
              · exfalso; omega
              · refine x_iconst hx hb dX5_judge_73 ?_
                refine lv_iload_n hx hb dX5_judge_74 rfl (lv_at hl 2 rfl) ?_
                refine x_iadd hx hb dX5_judge_75 ?_
                refine x_topi ((1 + t : Nat) : Int) (by omega) ?_
                refine lv_goto (tgt := 80) hx hb dX5_judge_76 (by decide) ?_
                exact kend ((((1 + t : Nat) : Int), T, K, ik, SB, SS, SN, tn, TB, F), X, Y, j) hP hS rfl (by unfold m_judge; rw [if_neg (by omega), Int.toNat_natCast, ← hr, juF, if_neg (by omega)] <;> rfl) dX5_judge_80
            · refine x_iinc hx hb 2 ((t + 1 : Nat) : Int) (by omega) [(2, .int (iI ((t + 1 : Nat) : Int))), (0, .ref (r 0)), (1, .int (iI ((s1 : Nat) : Int)))] dX5_judge_57 hl rfl (by decide) rfl (fun ls hl => ?_)
              refine lv_goto (tgt := 20) hx hb dX5_judge_60 (by decide) ?_
              exact ih (t + 1) _ _ _ (by omega) (by rw [← hr, juF, if_pos (by omega)]) hP hD hS (lv_sub hl [1, 2, 0] rfl)
    exact L20 (SS s1).toNat 0 _ _ _ (by omega) rfl hP hD hS (lv_sub hl [1, 2, 0] rfl)
  · refine lv_aload_n hx hb dX5_judge_8 rfl (lv_at hl 0 rfl) ?_
    refine lv_aload_n hx hb dX5_judge_9 rfl (lv_at hl 0 rfl) ?_
    refine lv_iload_n hx hb dX5_judge_10 rfl (lv_at hl 1 rfl) ?_
    refine x_callV (As := [.int (iI s0)]) (rest := [.ref (r 0)]) ⟨hx, hb, hml, hown, hts⟩ (kX5_wants r ik tn j SB s0 (by omega) hSB) (cwV 1 hts gX5_judge_X5_wants rfl rfl rfl ykVX5_wants ⟨Nat.le_of_ble_eq_true rfl, Nat.le_of_ble_eq_true rfl⟩) hP hK hD hS 0 4 rfl rfl rfl [0, 7] rfl (by decide) (fun _ => rfl) (fun _ => wRo r ik tn j ++ (wA cI (r 1) 100 T ++ (wA cI (r 2) 100 K ++ (wA cI (r 3) 100 X ++ (wA cI (r 4) 100 Y ++ (wA cI (r 5) 8 (fR F) ++ (wA cI (r 6) 120 TB ++ (wA cI (r 7) 4 (bR SB) ++ (wA cI (r 8) 4 SS ++ (wA cI (r 9) 160 SN)))))))))) (fun _ => rfl) rfl hl.1 rfl (Nat.le_of_ble_eq_true rfl) dX5_judge_11 ⟨Nat.le_of_ble_eq_true rfl, Nat.le_of_ble_eq_true rfl⟩ (fun _ H locs _ hP hD hS => ?_)
    refine W.eq (g2 := F0 m 14 ls [.int (iI (waF SB s0)), .ref (r 0)]) rfl ?_
    refine x_callV (As := [.int (iI (waF SB s0))]) (rest := []) ⟨hx, hb, hml, hown, hts⟩ (kX5_finds r ik tn j F (waF SB s0) (-1000001 - waF SB s0).toNat (by omega) (by omega)) (cwV 1 hts gX5_judge_X5_finds rfl rfl rfl ykVX5_finds ⟨Nat.le_of_ble_eq_true rfl, Nat.le_of_ble_eq_true rfl⟩) hP hK hD hS 0 4 rfl rfl rfl [0, 5] rfl (by decide) (fun _ => rfl) (fun _ => wRo r ik tn j ++ (wA cI (r 1) 100 T ++ (wA cI (r 2) 100 K ++ (wA cI (r 3) 100 X ++ (wA cI (r 4) 100 Y ++ (wA cI (r 5) 8 (fR (bmp ((-1000001 - waF SB s0).toNat) F)) ++ (wA cI (r 6) 120 TB ++ (wA cI (r 7) 4 (bR SB) ++ (wA cI (r 8) 4 SS ++ (wA cI (r 9) 160 SN)))))))))) (fun _ => rfl) rfl hl.1 rfl (Nat.le_of_ble_eq_true rfl) dX5_judge_14 ⟨Nat.le_of_ble_eq_true rfl, Nat.le_of_ble_eq_true rfl⟩ (fun _ H locs _ hP hD hS => ?_)
    refine W.eq (g2 := F0 m 17 ls [.int (iI (waF SB s0))]) rfl ?_
    exact kend (((waF SB s0), T, K, ik, SB, SS, SN, tn, TB, (bmp ((-1000001 - waF SB s0).toNat) F)), X, Y, j) hP hS rfl (if_pos (by omega)).symm dX5_judge_17
theorem ykSX5_image : yX5_image.cls ≠ "java/lang/invoke/MethodHandle" ∧ yX5_image.cls ≠ "java/lang/invoke/VarHandle" ∧ (parseMethodDescriptor yX5_image.desc).map (fun d => d.parameters.length) = some 0 := by decide +kernel
theorem ykVX5_image : yX5_image.cls = RX5 ∧ yX5_image.cls ≠ "java/lang/invoke/MethodHandle" ∧ yX5_image.cls ≠ "java/lang/invoke/VarHandle" ∧ (parseMethodDescriptor yX5_image.desc).map (fun d => d.parameters.length) = some 0 := ⟨rfl, ykSX5_image⟩
set_option maxRecDepth 20000 in
theorem iT_X5_image_X5 : ∀ w ∈ u_ws RX5 TX5 18, w ∈ wsX5_image := by decide +kernel
set_option maxHeartbeats 4000000 in
set_option maxRecDepth 100000 in
theorem kX5_image {l : Launch} {D : va_G} {cI cB : ClassId} (r : Nat → Nat) (T K : Tb) (ik : Int) (SB SS SN : Nat → Int) (tn : Int) (TB F : Nat → Int) (X Y : Tb) (j : Nat → Int) (B : Int) (hG : GI B T K ik SB SS SN tn TB F) (hB : B ≤ 40000)  : Ct l yX5_image wsX5_image 1 22 D [(cI, .int), (cB, .byte)] [.ref (r 0)] (wM cI r (T, K, ik, SB, SS, SN, tn, TB, F) X Y j) (S := (Int × Gs) × Tb × Tb × (Nat → Int)) (fun u => some (.int (iI u.1.1))) (fun u => u.1 = m_image T K ik SB SS SN tn TB F) (fun u => wM cI r u.1.2 u.2.1 u.2.2.1 u.2.2.2) := by
  refine CtI.of (cc := cX5_image) (maxL := 1) (by decide +kernel) rfl (Nat.le_of_ble_eq_true rfl) ?_
  intro pg e s m args below meth c Q A hx hb hml hts hown hP hK hD hS ls hl kend
  have hown : s.vm.findClass RX5 = some m.cls := hown
  have hl : lv_has ls 1 [(0, .ref (r 0))] := hl
  obtain ⟨hI, hIK, hik, hSB, hSS, hSN, htn, hTB, hF⟩ := id hG
  have hn := Inv_n hI
  have hdy := Inv_d hI
  have hP : va_P D vwCl (wRo r ik tn j ++ (wA cI (r 1) 100 T ++ (wA cI (r 2) 100 K ++ (wA cI (r 3) 100 X ++ (wA cI (r 4) 100 Y ++ (wA cI (r 5) 8 (fR F) ++ (wA cI (r 6) 120 TB ++ (wA cI (r 7) 4 (bR SB) ++ (wA cI (r 8) 4 SS ++ (wA cI (r 9) 160 SN)))))))))) s.heap := hP
  have hD : va_D A (wRo r ik tn j ++ (wA cI (r 1) 100 T ++ (wA cI (r 2) 100 K ++ (wA cI (r 3) 100 X ++ (wA cI (r 4) 100 Y ++ (wA cI (r 5) 8 (fR F) ++ (wA cI (r 6) 120 TB ++ (wA cI (r 7) 4 (bR SB) ++ (wA cI (r 8) 4 SS ++ (wA cI (r 9) 160 SN)))))))))) := hD
  refine lv_aload_n hx hb dX5_image_0 rfl (lv_at hl 0 rfl) ?_
  refine va_get (D := D) (ci := 4) (v := .ref (r 1)) (C := RX5) (T := TX5) (N := 18) hx hb hts (iT_X5_image_X5) hown hK hP 0 rfl rfl 0 (by decide) (hts (.fieldLink RX5 7 "WordSupperModel" "s" "[I") (by decide +kernel)) (fun _ h9 => h9) rfl dX5_image_1 ?_
  refine lv_aload_n hx hb dX5_image_4 rfl (lv_at hl 0 rfl) ?_
  refine va_get (D := D) (ci := 4) (v := .ref (r 2)) (C := RX5) (T := TX5) (N := 18) hx hb hts (iT_X5_image_X5) hown hK hP 0 rfl rfl 1 (by decide) (hts (.fieldLink RX5 13 "WordSupperModel" "kept" "[I") (by decide +kernel)) (fun _ h9 => h9) rfl dX5_image_5 ?_
  refine x_callS (As := [.ref (r 1), .ref (r 2)]) (rest := []) ⟨hx, hb, hml, hown, hts⟩ (kX5_copyRow (r 1) T (r 2) K ) (va_cwS 2 hts gX5_image_X5_copyRow rfl rfl rfl ykSX5_copyRow ⟨Nat.le_of_ble_eq_true rfl, Nat.le_of_ble_eq_true rfl⟩) hP hK hD hS [1, 2] rfl (by decide) (fun _ => rfl) (fun _ => wRo r ik tn j ++ (wA cI (r 1) 100 T ++ (wA cI (r 2) 100 T ++ (wA cI (r 3) 100 X ++ (wA cI (r 4) 100 Y ++ (wA cI (r 5) 8 (fR F) ++ (wA cI (r 6) 120 TB ++ (wA cI (r 7) 4 (bR SB) ++ (wA cI (r 8) 4 SS ++ (wA cI (r 9) 160 SN)))))))))) (fun _ => rfl) rfl hl.1 rfl (Nat.le_of_ble_eq_true rfl) dX5_image_8 ⟨Nat.le_of_ble_eq_true rfl, Nat.le_of_ble_eq_true rfl⟩ (fun _ H locs _ hP hD hS => ?_)
  refine W.eq (g2 := F0 m 11 ls []) rfl ?_
  refine lv_aload_n hx hb dX5_image_11 rfl (lv_at hl 0 rfl) ?_
  refine x_iconst hx hb dX5_image_12 ?_
  refine x_putI (D := D) (ty := .boolean) (C := RX5) (T := TX5) (N := 18) hx hb 4 hts (iT_X5_image_X5) tyX5 tyX5_ok nmX5 hown hK hP hD hS 0 rfl rfl 4 (by decide) (hts (.fieldLink RX5 282 "WordSupperModel" "isKept" "Z") (by decide +kernel)) (fun _ h9 => h9) rfl (by decide +kernel) rfl rfl (Nat.le_of_ble_eq_true rfl) (wRo r 1 tn j ++ (wA cI (r 1) 100 T ++ (wA cI (r 2) 100 T ++ (wA cI (r 3) 100 X ++ (wA cI (r 4) 100 Y ++ (wA cI (r 5) 8 (fR F) ++ (wA cI (r 6) 120 TB ++ (wA cI (r 7) 4 (bR SB) ++ (wA cI (r 8) 4 SS ++ (wA cI (r 9) 160 SN)))))))))) (by rw [← wRo_ik r ik tn j 1]; rfl) dX5_image_13 (fun H locs hP hD hS => ?_)
  refine x_iconst hx hb dX5_image_16 ?_
  exact kend ((1, T, T, 1, SB, SS, SN, tn, TB, F), X, Y, j) hP hS rfl rfl dX5_image_17
theorem ykSX5_undo : yX5_undo.cls ≠ "java/lang/invoke/MethodHandle" ∧ yX5_undo.cls ≠ "java/lang/invoke/VarHandle" ∧ (parseMethodDescriptor yX5_undo.desc).map (fun d => d.parameters.length) = some 0 := by decide +kernel
theorem ykVX5_undo : yX5_undo.cls = RX5 ∧ yX5_undo.cls ≠ "java/lang/invoke/MethodHandle" ∧ yX5_undo.cls ≠ "java/lang/invoke/VarHandle" ∧ (parseMethodDescriptor yX5_undo.desc).map (fun d => d.parameters.length) = some 0 := ⟨rfl, ykSX5_undo⟩
set_option maxRecDepth 20000 in
theorem iT_X5_undo_X5 : ∀ w ∈ u_ws RX5 TX5 18, w ∈ wsX5_undo := by decide +kernel
set_option maxHeartbeats 4000000 in
set_option maxRecDepth 100000 in
theorem kX5_undo {l : Launch} {D : va_G} {cI cB : ClassId} (r : Nat → Nat) (T K : Tb) (ik : Int) (SB SS SN : Nat → Int) (tn : Int) (TB F : Nat → Int) (X Y : Tb) (j : Nat → Int) (B : Int) (hG : GI B T K ik SB SS SN tn TB F) (hB : B ≤ 40000)  : Ct l yX5_undo wsX5_undo 1 22 D [(cI, .int), (cB, .byte)] [.ref (r 0)] (wM cI r (T, K, ik, SB, SS, SN, tn, TB, F) X Y j) (S := (Int × Gs) × Tb × Tb × (Nat → Int)) (fun u => some (.int (iI u.1.1))) (fun u => u.1 = m_undo T K ik SB SS SN tn TB F) (fun u => wM cI r u.1.2 u.2.1 u.2.2.1 u.2.2.2) := by
  refine CtI.of (cc := cX5_undo) (maxL := 1) (by decide +kernel) rfl (Nat.le_of_ble_eq_true rfl) ?_
  intro pg e s m args below meth c Q A hx hb hml hts hown hP hK hD hS ls hl kend
  have hown : s.vm.findClass RX5 = some m.cls := hown
  have hl : lv_has ls 1 [(0, .ref (r 0))] := hl
  obtain ⟨hI, hIK, hik, hSB, hSS, hSN, htn, hTB, hF⟩ := id hG
  have hn := Inv_n hI
  have hdy := Inv_d hI
  have hP : va_P D vwCl (wRo r ik tn j ++ (wA cI (r 1) 100 T ++ (wA cI (r 2) 100 K ++ (wA cI (r 3) 100 X ++ (wA cI (r 4) 100 Y ++ (wA cI (r 5) 8 (fR F) ++ (wA cI (r 6) 120 TB ++ (wA cI (r 7) 4 (bR SB) ++ (wA cI (r 8) 4 SS ++ (wA cI (r 9) 160 SN)))))))))) s.heap := hP
  have hD : va_D A (wRo r ik tn j ++ (wA cI (r 1) 100 T ++ (wA cI (r 2) 100 K ++ (wA cI (r 3) 100 X ++ (wA cI (r 4) 100 Y ++ (wA cI (r 5) 8 (fR F) ++ (wA cI (r 6) 120 TB ++ (wA cI (r 7) 4 (bR SB) ++ (wA cI (r 8) 4 SS ++ (wA cI (r 9) 160 SN)))))))))) := hD
  refine lv_aload_n hx hb dX5_undo_0 rfl (lv_at hl 0 rfl) ?_
  refine va_get (D := D) (ci := 4) (v := .int (iI ik)) (C := RX5) (T := TX5) (N := 18) hx hb hts (iT_X5_undo_X5) hown hK hP 0 rfl rfl 4 (by decide) (hts (.fieldLink RX5 282 "WordSupperModel" "isKept" "Z") (by decide +kernel)) (fun _ h9 => h9) rfl dX5_undo_1 ?_
  refine x_if_ne (tgt := 14) hx hb (by omega) dX5_undo_4 (by decide) (fun c_4 => ?_) (fun c_4 => ?_)
  · refine lv_aload_n hx hb dX5_undo_14 rfl (lv_at hl 0 rfl) ?_
    refine va_get (D := D) (ci := 4) (v := .ref (r 2)) (C := RX5) (T := TX5) (N := 18) hx hb hts (iT_X5_undo_X5) hown hK hP 0 rfl rfl 1 (by decide) (hts (.fieldLink RX5 13 "WordSupperModel" "kept" "[I") (by decide +kernel)) (fun _ h9 => h9) rfl dX5_undo_15 ?_
    refine lv_aload_n hx hb dX5_undo_18 rfl (lv_at hl 0 rfl) ?_
    refine va_get (D := D) (ci := 4) (v := .ref (r 1)) (C := RX5) (T := TX5) (N := 18) hx hb hts (iT_X5_undo_X5) hown hK hP 0 rfl rfl 0 (by decide) (hts (.fieldLink RX5 7 "WordSupperModel" "s" "[I") (by decide +kernel)) (fun _ h9 => h9) rfl dX5_undo_19 ?_
    refine x_callS (As := [.ref (r 2), .ref (r 1)]) (rest := []) ⟨hx, hb, hml, hown, hts⟩ (kX5_copyRow (r 2) K (r 1) T ) (va_cwS 2 hts gX5_undo_X5_copyRow rfl rfl rfl ykSX5_copyRow ⟨Nat.le_of_ble_eq_true rfl, Nat.le_of_ble_eq_true rfl⟩) hP hK hD hS [2, 1] rfl (by decide) (fun _ => rfl) (fun _ => wRo r ik tn j ++ (wA cI (r 1) 100 K ++ (wA cI (r 2) 100 K ++ (wA cI (r 3) 100 X ++ (wA cI (r 4) 100 Y ++ (wA cI (r 5) 8 (fR F) ++ (wA cI (r 6) 120 TB ++ (wA cI (r 7) 4 (bR SB) ++ (wA cI (r 8) 4 SS ++ (wA cI (r 9) 160 SN)))))))))) (fun _ => rfl) rfl hl.1 rfl (Nat.le_of_ble_eq_true rfl) dX5_undo_22 ⟨Nat.le_of_ble_eq_true rfl, Nat.le_of_ble_eq_true rfl⟩ (fun _ H locs _ hP hD hS => ?_)
    refine W.eq (g2 := F0 m 25 ls []) rfl ?_
    refine lv_aload_n hx hb dX5_undo_25 rfl (lv_at hl 0 rfl) ?_
    refine va_get (D := D) (ci := 4) (v := .ref (r 1)) (C := RX5) (T := TX5) (N := 18) hx hb hts (iT_X5_undo_X5) hown hK hP 0 rfl rfl 0 (by decide) (hts (.fieldLink RX5 7 "WordSupperModel" "s" "[I") (by decide +kernel)) (fun _ h9 => h9) rfl dX5_undo_26 ?_
    refine x_iconst hx hb dX5_undo_29 ?_
    refine x_iald hx hb hK hP 1 0 rfl rfl 1 rfl (by omega) (by decide) (K 1) (gd_at _ (by omega)) dX5_undo_30 ?_
    exact kend ((K 1, K, K, ik, SB, SS, SN, tn, TB, F), X, Y, j) hP hS rfl (if_neg (by omega)).symm dX5_undo_31
  · refine lv_aload_n hx hb dX5_undo_7 rfl (lv_at hl 0 rfl) ?_
    refine x_ldc hx hb (-1000004) rfl hown (hts (.constant RX5 38 (-1000004)) (by decide +kernel)) dX5_undo_8 ?_
    refine x_callV (As := [.int (iI (-1000004))]) (rest := []) ⟨hx, hb, hml, hown, hts⟩ (kX5_finds r ik tn j F (-1000004) 3 (by omega) (by omega)) (cwV 1 hts gX5_undo_X5_finds rfl rfl rfl ykVX5_finds ⟨Nat.le_of_ble_eq_true rfl, Nat.le_of_ble_eq_true rfl⟩) hP hK hD hS 0 4 rfl rfl rfl [0, 5] rfl (by decide) (fun _ => rfl) (fun _ => wRo r ik tn j ++ (wA cI (r 1) 100 T ++ (wA cI (r 2) 100 K ++ (wA cI (r 3) 100 X ++ (wA cI (r 4) 100 Y ++ (wA cI (r 5) 8 (fR (bmp 3 F)) ++ (wA cI (r 6) 120 TB ++ (wA cI (r 7) 4 (bR SB) ++ (wA cI (r 8) 4 SS ++ (wA cI (r 9) 160 SN)))))))))) (fun _ => rfl) rfl hl.1 rfl (Nat.le_of_ble_eq_true rfl) dX5_undo_10 ⟨Nat.le_of_ble_eq_true rfl, Nat.le_of_ble_eq_true rfl⟩ (fun _ H locs _ hP hD hS => ?_)
    refine W.eq (g2 := F0 m 13 ls [.int (iI (-1000004))]) rfl ?_
    exact kend (((-1000004), T, K, ik, SB, SS, SN, tn, TB, (bmp 3 F)), X, Y, j) hP hS rfl (if_pos (by omega)).symm dX5_undo_13
theorem ykSX5_tear : yX5_tear.cls ≠ "java/lang/invoke/MethodHandle" ∧ yX5_tear.cls ≠ "java/lang/invoke/VarHandle" ∧ (parseMethodDescriptor yX5_tear.desc).map (fun d => d.parameters.length) = some 0 := by decide +kernel
theorem ykVX5_tear : yX5_tear.cls = RX5 ∧ yX5_tear.cls ≠ "java/lang/invoke/MethodHandle" ∧ yX5_tear.cls ≠ "java/lang/invoke/VarHandle" ∧ (parseMethodDescriptor yX5_tear.desc).map (fun d => d.parameters.length) = some 0 := ⟨rfl, ykSX5_tear⟩
set_option maxRecDepth 20000 in
theorem iT_X5_tear_X5 : ∀ w ∈ u_ws RX5 TX5 18, w ∈ wsX5_tear := by decide +kernel
set_option maxHeartbeats 4000000 in
set_option maxRecDepth 100000 in
theorem kX5_tear {l : Launch} {D : va_G} {cI cB : ClassId} (r : Nat → Nat) (T K : Tb) (ik : Int) (SB SS SN : Nat → Int) (tn : Int) (TB F : Nat → Int) (X Y : Tb) (j : Nat → Int) (B : Int) (hG : GI B T K ik SB SS SN tn TB F) (hB : B ≤ 40000)  : Ct l yX5_tear wsX5_tear 0 0 D [(cI, .int), (cB, .byte)] [.ref (r 0)] (wM cI r (T, K, ik, SB, SS, SN, tn, TB, F) X Y j) (S := (Int × Gs) × Tb × Tb × (Nat → Int)) (fun u => some (.int (iI u.1.1))) (fun u => u.1 = m_tear T K ik SB SS SN tn TB F) (fun u => wM cI r u.1.2 u.2.1 u.2.2.1 u.2.2.2) := by
  refine CtI.of (cc := cX5_tear) (maxL := 2) (by decide +kernel) rfl (Nat.le_of_ble_eq_true rfl) ?_
  intro pg e s m args below meth c Q A hx hb hml hts hown hP hK hD hS ls hl kend
  have hown : s.vm.findClass RX5 = some m.cls := hown
  have hl : lv_has ls 2 [(0, .ref (r 0))] := hl
  obtain ⟨hI, hIK, hik, hSB, hSS, hSN, htn, hTB, hF⟩ := id hG
  have hn := Inv_n hI
  have hdy := Inv_d hI
  have hP : va_P D vwCl (wRo r ik tn j ++ (wA cI (r 1) 100 T ++ (wA cI (r 2) 100 K ++ (wA cI (r 3) 100 X ++ (wA cI (r 4) 100 Y ++ (wA cI (r 5) 8 (fR F) ++ (wA cI (r 6) 120 TB ++ (wA cI (r 7) 4 (bR SB) ++ (wA cI (r 8) 4 SS ++ (wA cI (r 9) 160 SN)))))))))) s.heap := hP
  have hD : va_D A (wRo r ik tn j ++ (wA cI (r 1) 100 T ++ (wA cI (r 2) 100 K ++ (wA cI (r 3) 100 X ++ (wA cI (r 4) 100 Y ++ (wA cI (r 5) 8 (fR F) ++ (wA cI (r 6) 120 TB ++ (wA cI (r 7) 4 (bR SB) ++ (wA cI (r 8) 4 SS ++ (wA cI (r 9) 160 SN)))))))))) := hD
  refine lv_aload_n hx hb dX5_tear_0 rfl (lv_at hl 0 rfl) ?_
  refine va_get (D := D) (ci := 4) (v := .int (iI ik)) (C := RX5) (T := TX5) (N := 18) hx hb hts (iT_X5_tear_X5) hown hK hP 0 rfl rfl 4 (by decide) (hts (.fieldLink RX5 282 "WordSupperModel" "isKept" "Z") (by decide +kernel)) (fun _ h9 => h9) rfl dX5_tear_1 ?_
  refine lv_istore_n (lv' := [(1, .int (iI ik)), (0, .ref (r 0))]) hx hb dX5_tear_4 rfl hl (by decide) rfl (fun ls hl => ?_)
  refine lv_aload_n hx hb dX5_tear_5 rfl (lv_at hl 1 rfl) ?_
  refine x_iconst hx hb dX5_tear_6 ?_
  refine x_putI (D := D) (ty := .boolean) (C := RX5) (T := TX5) (N := 18) hx hb 4 hts (iT_X5_tear_X5) tyX5 tyX5_ok nmX5 hown hK hP hD hS 0 rfl rfl 4 (by decide) (hts (.fieldLink RX5 282 "WordSupperModel" "isKept" "Z") (by decide +kernel)) (fun _ h9 => h9) rfl (by decide +kernel) rfl rfl (Nat.le_of_ble_eq_true rfl) (wRo r 0 tn j ++ (wA cI (r 1) 100 T ++ (wA cI (r 2) 100 K ++ (wA cI (r 3) 100 X ++ (wA cI (r 4) 100 Y ++ (wA cI (r 5) 8 (fR F) ++ (wA cI (r 6) 120 TB ++ (wA cI (r 7) 4 (bR SB) ++ (wA cI (r 8) 4 SS ++ (wA cI (r 9) 160 SN)))))))))) (by rw [← wRo_ik r ik tn j 0]; rfl) dX5_tear_7 (fun H locs hP hD hS => ?_)
  refine lv_iload_n hx hb dX5_tear_10 rfl (lv_at hl 0 rfl) ?_
  refine x_if_eq (tgt := 18) hx hb (by omega) dX5_tear_11 (by decide) (fun c_11 => ?_) (fun c_11 => ?_)
  · refine x_iconst hx hb dX5_tear_18 ?_
    exact kend ((0, T, K, 0, SB, SS, SN, tn, TB, F), X, Y, j) hP hS rfl (by unfold m_tear; rw [show ik = 0 by omega]) dX5_tear_19
  · refine x_iconst hx hb dX5_tear_14 ?_
    refine lv_goto (tgt := 19) hx hb dX5_tear_15 (by decide) ?_
    exact kend ((1, T, K, 0, SB, SS, SN, tn, TB, F), X, Y, j) hP hS rfl (by unfold m_tear; rw [show ik = 1 by omega]) dX5_tear_19
theorem ykSX5_count : yX5_count.cls ≠ "java/lang/invoke/MethodHandle" ∧ yX5_count.cls ≠ "java/lang/invoke/VarHandle" ∧ (parseMethodDescriptor yX5_count.desc).map (fun d => d.parameters.length) = some 1 := by decide +kernel
theorem ykVX5_count : yX5_count.cls = RX5 ∧ yX5_count.cls ≠ "java/lang/invoke/MethodHandle" ∧ yX5_count.cls ≠ "java/lang/invoke/VarHandle" ∧ (parseMethodDescriptor yX5_count.desc).map (fun d => d.parameters.length) = some 1 := ⟨rfl, ykSX5_count⟩
set_option maxRecDepth 20000 in
theorem iT_X5_count_X5 : ∀ w ∈ u_ws RX5 TX5 18, w ∈ wsX5_count := by decide +kernel
set_option maxHeartbeats 4000000 in
set_option maxRecDepth 100000 in
theorem kX5_count {l : Launch} {D : va_G} {cI cB : ClassId} (r : Nat → Nat) (T K : Tb) (ik : Int) (SB SS SN : Nat → Int) (tn : Int) (TB F : Nat → Int) (X Y : Tb) (j : Nat → Int) (wh : Int) (B : Int) (hG : GI B T K ik SB SS SN tn TB F) (hB : B ≤ 40000) (h_wh : rI wh) : Ct l yX5_count wsX5_count 3 67 D [(cI, .int), (cB, .byte)] [.ref (r 0), .int (iI wh)] (wM cI r (T, K, ik, SB, SS, SN, tn, TB, F) X Y j) (S := (Int × Gs) × Tb × Tb × (Nat → Int)) (fun u => some (.int (iI u.1.1))) (fun u => u.1 = m_count wh T K ik SB SS SN tn TB F) (fun u => wM cI r u.1.2 u.2.1 u.2.2.1 u.2.2.2) := by
  refine CtI.of (cc := cX5_count) (maxL := 4) (by decide +kernel) rfl (Nat.le_of_ble_eq_true rfl) ?_
  intro pg e s m args below meth c Q A hx hb hml hts hown hP hK hD hS ls hl kend
  have hown : s.vm.findClass RX5 = some m.cls := hown
  have hl : lv_has ls 4 [(0, .ref (r 0)), (1, .int (iI wh))] := hl
  obtain ⟨hI, hIK, hik, hSB, hSS, hSN, htn, hTB, hF⟩ := id hG
  have hn := Inv_n hI
  have hdy := Inv_d hI
  have hP : va_P D vwCl (wRo r ik tn j ++ (wA cI (r 1) 100 T ++ (wA cI (r 2) 100 K ++ (wA cI (r 3) 100 X ++ (wA cI (r 4) 100 Y ++ (wA cI (r 5) 8 (fR F) ++ (wA cI (r 6) 120 TB ++ (wA cI (r 7) 4 (bR SB) ++ (wA cI (r 8) 4 SS ++ (wA cI (r 9) 160 SN)))))))))) s.heap := hP
  have hD : va_D A (wRo r ik tn j ++ (wA cI (r 1) 100 T ++ (wA cI (r 2) 100 K ++ (wA cI (r 3) 100 X ++ (wA cI (r 4) 100 Y ++ (wA cI (r 5) 8 (fR F) ++ (wA cI (r 6) 120 TB ++ (wA cI (r 7) 4 (bR SB) ++ (wA cI (r 8) 4 SS ++ (wA cI (r 9) 160 SN)))))))))) := hD
  refine x_iconst hx hb dX5_count_0 ?_
  refine lv_istore_n (lv' := [(2, .int (iI 0)), (0, .ref (r 0)), (1, .int (iI wh))]) hx hb dX5_count_1 rfl hl (by decide) rfl (fun ls hl => ?_)
  refine lv_iload_n hx hb dX5_count_2 rfl (lv_at hl 2 rfl) ?_
  rcases x_sw wh 0 7 with c_3 | c_3
  · refine lv_tableOut (tgt := 127) hx hb dX5_count_3 (by rw [iI_to (by omega)]; exact c_3) (by decide) ?_
    refine lv_aload_n hx hb dX5_count_127 rfl (lv_at hl 1 rfl) ?_
    refine x_ldc hx hb (-1000001) rfl hown (hts (.constant RX5 37 (-1000001)) (by decide +kernel)) dX5_count_128 ?_
    refine x_callV (As := [.int (iI (-1000001))]) (rest := []) ⟨hx, hb, hml, hown, hts⟩ (kX5_finds r ik tn j F (-1000001) 0 (by omega) (by omega)) (cwV 1 hts gX5_count_X5_finds rfl rfl rfl ykVX5_finds ⟨Nat.le_of_ble_eq_true rfl, Nat.le_of_ble_eq_true rfl⟩) hP hK hD hS 0 4 rfl rfl rfl [0, 5] rfl (by decide) (fun _ => rfl) (fun _ => wRo r ik tn j ++ (wA cI (r 1) 100 T ++ (wA cI (r 2) 100 K ++ (wA cI (r 3) 100 X ++ (wA cI (r 4) 100 Y ++ (wA cI (r 5) 8 (fR (bmp 0 F)) ++ (wA cI (r 6) 120 TB ++ (wA cI (r 7) 4 (bR SB) ++ (wA cI (r 8) 4 SS ++ (wA cI (r 9) 160 SN)))))))))) (fun _ => rfl) rfl hl.1 rfl (Nat.le_of_ble_eq_true rfl) dX5_count_130 ⟨Nat.le_of_ble_eq_true rfl, Nat.le_of_ble_eq_true rfl⟩ (fun _ H locs _ hP hD hS => ?_)
    refine W.eq (g2 := F0 m 133 ls [.int (iI (-1000001))]) rfl ?_
    exact kend (((-1000001), T, K, ik, SB, SS, SN, tn, TB, (bmp 0 F)), X, Y, j) hP hS rfl (if_neg (by omega)).symm dX5_count_133
  · obtain ⟨c_3a, c_3b⟩ := c_3
    by_cases e_3 : wh = 0
    · refine lv_tableIn (off := 45) (tgt := 48) hx hb dX5_count_3 (by rw [iI_to (by omega)]; omega) (by rw [iI_to (by omega)]; omega) (by rw [iI_to (by omega), e_3]; rfl) (by decide) ?_
      refine lv_aload_n hx hb dX5_count_48 rfl (lv_at hl 1 rfl) ?_
      refine va_get (D := D) (ci := 4) (v := .ref (r 1)) (C := RX5) (T := TX5) (N := 18) hx hb hts (iT_X5_count_X5) hown hK hP 0 rfl rfl 0 (by decide) (hts (.fieldLink RX5 7 "WordSupperModel" "s" "[I") (by decide +kernel)) (fun _ h9 => h9) rfl dX5_count_49 ?_
      refine x_iconst hx hb dX5_count_52 ?_
      refine x_iald hx hb hK hP 1 0 rfl rfl 1 rfl (by omega) (by decide) (T 1) (gd_at _ (by omega)) dX5_count_53 ?_
      exact kend ((T 1, T, K, ik, SB, SS, SN, tn, TB, F), X, Y, j) hP hS rfl (by unfold m_count coF; rw [if_pos (by omega)]; subst e_3; rfl) dX5_count_54
    by_cases e_3 : wh = 1
    · refine lv_tableIn (off := 52) (tgt := 55) hx hb dX5_count_3 (by rw [iI_to (by omega)]; omega) (by rw [iI_to (by omega)]; omega) (by rw [iI_to (by omega), e_3]; rfl) (by decide) ?_
      refine lv_aload_n hx hb dX5_count_55 rfl (lv_at hl 1 rfl) ?_
      refine va_get (D := D) (ci := 4) (v := .ref (r 1)) (C := RX5) (T := TX5) (N := 18) hx hb hts (iT_X5_count_X5) hown hK hP 0 rfl rfl 0 (by decide) (hts (.fieldLink RX5 7 "WordSupperModel" "s" "[I") (by decide +kernel)) (fun _ h9 => h9) rfl dX5_count_56 ?_
      refine x_iconst hx hb dX5_count_59 ?_
      refine x_iald hx hb hK hP 1 0 rfl rfl 0 rfl (by omega) (by decide) (T 0) (gd_at _ (by omega)) dX5_count_60 ?_
      exact kend ((T 0, T, K, ik, SB, SS, SN, tn, TB, F), X, Y, j) hP hS rfl (by unfold m_count coF; rw [if_pos (by omega)]; subst e_3; rfl) dX5_count_61
    by_cases e_3 : wh = 2
    · refine lv_tableIn (off := 59) (tgt := 62) hx hb dX5_count_3 (by rw [iI_to (by omega)]; omega) (by rw [iI_to (by omega)]; omega) (by rw [iI_to (by omega), e_3]; rfl) (by decide) ?_
      refine lv_aload_n hx hb dX5_count_62 rfl (lv_at hl 1 rfl) ?_
      refine x_callV (As := []) (rest := []) ⟨hx, hb, hml, hown, hts⟩ (kX5_leftAll r ik tn j T (by omega)) (cwV 0 hts gX5_count_X5_leftAll rfl rfl rfl ykVX5_leftAll ⟨Nat.le_of_ble_eq_true rfl, Nat.le_of_ble_eq_true rfl⟩) hP hK hD hS 0 4 rfl rfl rfl [0, 1] rfl (by decide) (fun _ => rfl) (fun _ => wRo r ik tn j ++ (wA cI (r 1) 100 T ++ (wA cI (r 2) 100 K ++ (wA cI (r 3) 100 X ++ (wA cI (r 4) 100 Y ++ (wA cI (r 5) 8 (fR F) ++ (wA cI (r 6) 120 TB ++ (wA cI (r 7) 4 (bR SB) ++ (wA cI (r 8) 4 SS ++ (wA cI (r 9) 160 SN)))))))))) (fun _ => rfl) rfl hl.1 rfl (Nat.le_of_ble_eq_true rfl) dX5_count_63 ⟨Nat.le_of_ble_eq_true rfl, Nat.le_of_ble_eq_true rfl⟩ (fun _ H locs _ hP hD hS => ?_)
      refine W.eq (g2 := F0 m 66 ls [.int (iI (alF T))]) rfl ?_
      exact kend ((alF T, T, K, ik, SB, SS, SN, tn, TB, F), X, Y, j) hP hS rfl (by unfold m_count coF; rw [if_pos (by omega)]; subst e_3; rfl) dX5_count_66
    by_cases e_3 : wh = 3
    · refine lv_tableIn (off := 64) (tgt := 67) hx hb dX5_count_3 (by rw [iI_to (by omega)]; omega) (by rw [iI_to (by omega)]; omega) (by rw [iI_to (by omega), e_3]; rfl) (by decide) ?_
      refine lv_aload_n hx hb dX5_count_67 rfl (lv_at hl 1 rfl) ?_
      refine x_iconst hx hb dX5_count_68 ?_
      refine x_callV (As := [.int (iI 3)]) (rest := []) ⟨hx, hb, hml, hown, hts⟩ (kX5_sumOf r ik tn j T 3 (by omega) (by omega)) (cwV 1 hts gX5_count_X5_sumOf rfl rfl rfl ykVX5_sumOf ⟨Nat.le_of_ble_eq_true rfl, Nat.le_of_ble_eq_true rfl⟩) hP hK hD hS 0 4 rfl rfl rfl [0, 1] rfl (by decide) (fun _ => rfl) (fun _ => wRo r ik tn j ++ (wA cI (r 1) 100 T ++ (wA cI (r 2) 100 K ++ (wA cI (r 3) 100 X ++ (wA cI (r 4) 100 Y ++ (wA cI (r 5) 8 (fR F) ++ (wA cI (r 6) 120 TB ++ (wA cI (r 7) 4 (bR SB) ++ (wA cI (r 8) 4 SS ++ (wA cI (r 9) 160 SN)))))))))) (fun _ => rfl) rfl hl.1 rfl (Nat.le_of_ble_eq_true rfl) dX5_count_69 ⟨Nat.le_of_ble_eq_true rfl, Nat.le_of_ble_eq_true rfl⟩ (fun _ H locs _ hP hD hS => ?_)
      refine W.eq (g2 := F0 m 72 ls [.int (iI (smF T 3))]) rfl ?_
      exact kend ((smF T 3, T, K, ik, SB, SS, SN, tn, TB, F), X, Y, j) hP hS rfl (by unfold m_count coF; rw [if_pos (by omega)]; subst e_3; rfl) dX5_count_72
    by_cases e_3 : wh = 4
    · refine lv_tableIn (off := 70) (tgt := 73) hx hb dX5_count_3 (by rw [iI_to (by omega)]; omega) (by rw [iI_to (by omega)]; omega) (by rw [iI_to (by omega), e_3]; rfl) (by decide) ?_
      refine lv_aload_n hx hb dX5_count_73 rfl (lv_at hl 1 rfl) ?_
      refine x_iconst hx hb dX5_count_74 ?_
      refine x_callV (As := [.int (iI 2)]) (rest := []) ⟨hx, hb, hml, hown, hts⟩ (kX5_sumOf r ik tn j T 2 (by omega) (by omega)) (cwV 1 hts gX5_count_X5_sumOf rfl rfl rfl ykVX5_sumOf ⟨Nat.le_of_ble_eq_true rfl, Nat.le_of_ble_eq_true rfl⟩) hP hK hD hS 0 4 rfl rfl rfl [0, 1] rfl (by decide) (fun _ => rfl) (fun _ => wRo r ik tn j ++ (wA cI (r 1) 100 T ++ (wA cI (r 2) 100 K ++ (wA cI (r 3) 100 X ++ (wA cI (r 4) 100 Y ++ (wA cI (r 5) 8 (fR F) ++ (wA cI (r 6) 120 TB ++ (wA cI (r 7) 4 (bR SB) ++ (wA cI (r 8) 4 SS ++ (wA cI (r 9) 160 SN)))))))))) (fun _ => rfl) rfl hl.1 rfl (Nat.le_of_ble_eq_true rfl) dX5_count_75 ⟨Nat.le_of_ble_eq_true rfl, Nat.le_of_ble_eq_true rfl⟩ (fun _ H locs _ hP hD hS => ?_)
      refine W.eq (g2 := F0 m 78 ls [.int (iI (smF T 2))]) rfl ?_
      exact kend ((smF T 2, T, K, ik, SB, SS, SN, tn, TB, F), X, Y, j) hP hS rfl (by unfold m_count coF; rw [if_pos (by omega)]; subst e_3; rfl) dX5_count_78
    by_cases e_3 : wh = 5
    · refine lv_tableIn (off := 76) (tgt := 79) hx hb dX5_count_3 (by rw [iI_to (by omega)]; omega) (by rw [iI_to (by omega)]; omega) (by rw [iI_to (by omega), e_3]; rfl) (by decide) ?_
      refine lv_aload_n hx hb dX5_count_79 rfl (lv_at hl 1 rfl) ?_
      refine va_get (D := D) (ci := 4) (v := .int (iI tn)) (C := RX5) (T := TX5) (N := 18) hx hb hts (iT_X5_count_X5) hown hK hP 0 rfl rfl 7 (by decide) (hts (.fieldLink RX5 199 "WordSupperModel" "taped" "I") (by decide +kernel)) (fun _ h9 => h9) rfl dX5_count_80 ?_
      exact kend ((tn, T, K, ik, SB, SS, SN, tn, TB, F), X, Y, j) hP hS rfl (by unfold m_count coF; rw [if_pos (by omega)]; subst e_3; rfl) dX5_count_83
    by_cases e_3 : wh = 6
    · refine lv_tableIn (off := 81) (tgt := 84) hx hb dX5_count_3 (by rw [iI_to (by omega)]; omega) (by rw [iI_to (by omega)]; omega) (by rw [iI_to (by omega), e_3]; rfl) (by decide) ?_
      refine lv_aload_n hx hb dX5_count_84 rfl (lv_at hl 1 rfl) ?_
      refine va_get (D := D) (ci := 4) (v := .ref (r 1)) (C := RX5) (T := TX5) (N := 18) hx hb hts (iT_X5_count_X5) hown hK hP 0 rfl rfl 0 (by decide) (hts (.fieldLink RX5 7 "WordSupperModel" "s" "[I") (by decide +kernel)) (fun _ h9 => h9) rfl dX5_count_85 ?_
      refine x_iconst hx hb dX5_count_88 ?_
      refine x_iald hx hb hK hP 1 0 rfl rfl 2 rfl (by omega) (by decide) (T 2) (gd_at _ (by omega)) dX5_count_89 ?_
      exact kend ((T 2, T, K, ik, SB, SS, SN, tn, TB, F), X, Y, j) hP hS rfl (by unfold m_count coF; rw [if_pos (by omega)]; subst e_3; rfl) dX5_count_90
    have e_3 : wh = 7 := by omega
    refine lv_tableIn (off := 88) (tgt := 91) hx hb dX5_count_3 (by rw [iI_to (by omega)]; omega) (by rw [iI_to (by omega)]; omega) (by rw [iI_to (by omega), e_3]; rfl) (by decide) ?_
    refine x_iconst hx hb dX5_count_91 ?_
    refine lv_istore_n (lv' := [(3, .int (iI 0)), (2, .int (iI 0)), (0, .ref (r 0)), (1, .int (iI wh))]) hx hb dX5_count_92 rfl hl (by decide) rfl (fun ls hl => ?_)
    have L93 : ∀ (k t : Nat) (sv : Int) (H : Heap) (locs : List Loc) (ls : Array Slot), t + k = 10 → (run (fun (k : Nat) (s : Int) => s + (if T (90 + k) = -1 then 0 else 1)) k t sv = hsF T) → va_P D vwCl (wRo r ik tn j ++ (wA cI (r 1) 100 T ++ (wA cI (r 2) 100 K ++ (wA cI (r 3) 100 X ++ (wA cI (r 4) 100 Y ++ (wA cI (r 5) 8 (fR F) ++ (wA cI (r 6) 120 TB ++ (wA cI (r 7) 4 (bR SB) ++ (wA cI (r 8) 4 SS ++ (wA cI (r 9) 160 SN)))))))))) H → va_D A (wRo r ik tn j ++ (wA cI (r 1) 100 T ++ (wA cI (r 2) 100 K ++ (wA cI (r 3) 100 X ++ (wA cI (r 4) 100 Y ++ (wA cI (r 5) 8 (fR F) ++ (wA cI (r 6) 120 TB ++ (wA cI (r 7) 4 (bR SB) ++ (wA cI (r 8) 4 SS ++ (wA cI (r 9) 160 SN)))))))))) → va_S A s.heap H locs → lv_has ls 4 [(0, .ref (r 0)), (1, .int (iI wh)), (2, .int (iI sv)), (3, .int (iI ((t : Nat) : Int)))] → W pg l e { frames := 3, cells := 0, slots := 0, locals := 67 } s m args below meth c H locs 0 0 Q (F0 m 93 ls []) := by
      intro k
      induction k with
      | zero =>
        intro t sv H locs ls hkt hr hP hD hS hl
        refine lv_iload_n hx hb dX5_count_93 rfl (lv_at hl 3 rfl) ?_
        refine x_bipush hx hb dX5_count_94 (by decide) ?_
        refine x_icmp_ge (tgt := 125) hx hb (by omega) (by decide) dX5_count_96 (by decide) (fun c_96 => ?_) (fun c_96 => ?_)
        · refine lv_iload_n hx hb dX5_count_125 rfl (lv_at hl 2 rfl) ?_
          exact kend ((sv, T, K, ik, SB, SS, SN, tn, TB, F), X, Y, j) hP hS rfl (by unfold m_count coF; rw [if_pos (by omega)]; subst e_3; exact congrArg (fun z => (z, T, K, ik, SB, SS, SN, tn, TB, F)) hr) dX5_count_126
        · exfalso; omega
      | succ k ih =>
        intro t sv H locs ls hkt hr hP hD hS hl
        refine lv_iload_n hx hb dX5_count_93 rfl (lv_at hl 3 rfl) ?_
        refine x_bipush hx hb dX5_count_94 (by decide) ?_
        refine x_icmp_ge (tgt := 125) hx hb (by omega) (by decide) dX5_count_96 (by decide) (fun c_96 => ?_) (fun c_96 => ?_)
        · exfalso; omega
        · refine lv_iload_n hx hb dX5_count_99 rfl (lv_at hl 2 rfl) ?_
          refine lv_aload_n hx hb dX5_count_100 rfl (lv_at hl 0 rfl) ?_
          refine va_get (D := D) (ci := 4) (v := .ref (r 1)) (C := RX5) (T := TX5) (N := 18) hx hb hts (iT_X5_count_X5) hown hK hP 0 rfl rfl 0 (by decide) (hts (.fieldLink RX5 7 "WordSupperModel" "s" "[I") (by decide +kernel)) (fun _ h9 => h9) rfl dX5_count_101 ?_
          refine x_bipush hx hb dX5_count_104 (by decide) ?_
          refine lv_iload_n hx hb dX5_count_106 rfl (lv_at hl 3 rfl) ?_
          refine x_iadd hx hb dX5_count_107 ?_
          refine x_topi ((90 + t : Nat) : Int) (by omega) ?_
          refine x_iald hx hb hK hP 1 0 rfl rfl (90 + t) rfl (by omega) (by decide) (T (90 + t)) (gd_at _ (by omega)) dX5_count_108 ?_
          have hsp := Inv_s hI (k := t) (by omega)
          refine x_if_ge (tgt := 116) hx hb (by omega) dX5_count_109 (by decide) (fun c_109 => ?_) (fun c_109 => ?_)
          · refine x_iconst hx hb dX5_count_116 ?_
            refine x_iadd hx hb dX5_count_117 ?_
            refine lv_istore_n (lv' := [(2, .int (iI (sv + 1))), (0, .ref (r 0)), (1, .int (iI wh)), (3, .int (iI ((t : Nat) : Int)))]) hx hb dX5_count_118 rfl hl (by decide) rfl (fun ls hl => ?_)
            refine x_iinc hx hb 3 ((t + 1 : Nat) : Int) (by omega) [(3, .int (iI ((t + 1 : Nat) : Int))), (2, .int (iI (sv + 1))), (0, .ref (r 0)), (1, .int (iI wh))] dX5_count_119 hl rfl (by decide) rfl (fun ls hl => ?_)
            refine lv_goto (tgt := 93) hx hb dX5_count_122 (by decide) ?_
            exact ih (t + 1) (sv + 1) _ _ _ (by omega) (run_step hr (by rw [if_neg (by omega)])) hP hD hS (lv_sub hl [2, 3, 1, 0] rfl)
          · refine x_iconst hx hb dX5_count_112 ?_
            refine lv_goto (tgt := 117) hx hb dX5_count_113 (by decide) ?_
            refine x_iadd hx hb dX5_count_117 ?_
            refine lv_istore_n (lv' := [(2, .int (iI (sv + 0))), (0, .ref (r 0)), (1, .int (iI wh)), (3, .int (iI ((t : Nat) : Int)))]) hx hb dX5_count_118 rfl hl (by decide) rfl (fun ls hl => ?_)
            refine x_iinc hx hb 3 ((t + 1 : Nat) : Int) (by omega) [(3, .int (iI ((t + 1 : Nat) : Int))), (2, .int (iI (sv + 0))), (0, .ref (r 0)), (1, .int (iI wh))] dX5_count_119 hl rfl (by decide) rfl (fun ls hl => ?_)
            refine lv_goto (tgt := 93) hx hb dX5_count_122 (by decide) ?_
            exact ih (t + 1) (sv + 0) _ _ _ (by omega) (run_step hr (by rw [if_pos (by omega)])) hP hD hS (lv_sub hl [2, 3, 1, 0] rfl)
    exact L93 10 0 0 _ _ _ (by omega) rfl hP hD hS (lv_sub hl [2, 3, 1, 0] rfl)
theorem ykSX5_status : yX5_status.cls ≠ "java/lang/invoke/MethodHandle" ∧ yX5_status.cls ≠ "java/lang/invoke/VarHandle" ∧ (parseMethodDescriptor yX5_status.desc).map (fun d => d.parameters.length) = some 1 := by decide +kernel
theorem ykVX5_status : yX5_status.cls = RX5 ∧ yX5_status.cls ≠ "java/lang/invoke/MethodHandle" ∧ yX5_status.cls ≠ "java/lang/invoke/VarHandle" ∧ (parseMethodDescriptor yX5_status.desc).map (fun d => d.parameters.length) = some 1 := ⟨rfl, ykSX5_status⟩
set_option maxRecDepth 20000 in
theorem iT_X5_status_X5 : ∀ w ∈ u_ws RX5 TX5 18, w ∈ wsX5_status := by decide +kernel
set_option maxHeartbeats 4000000 in
set_option maxRecDepth 100000 in
theorem kX5_status {l : Launch} {D : va_G} {cI cB : ClassId} (r : Nat → Nat) (T K : Tb) (ik : Int) (SB SS SN : Nat → Int) (tn : Int) (TB F : Nat → Int) (X Y : Tb) (j : Nat → Int) (wh : Int) (B : Int) (hG : GI B T K ik SB SS SN tn TB F) (hB : B ≤ 40000) (h_wh : rI wh) : Ct l yX5_status wsX5_status 1 25 D [(cI, .int), (cB, .byte)] [.ref (r 0), .int (iI wh)] (wM cI r (T, K, ik, SB, SS, SN, tn, TB, F) X Y j) (S := (Int × Gs) × Tb × Tb × (Nat → Int)) (fun u => some (.int (iI u.1.1))) (fun u => u.1 = m_status wh T K ik SB SS SN tn TB F) (fun u => wM cI r u.1.2 u.2.1 u.2.2.1 u.2.2.2) := by
  refine CtI.of (cc := cX5_status) (maxL := 2) (by decide +kernel) rfl (Nat.le_of_ble_eq_true rfl) ?_
  intro pg e s m args below meth c Q A hx hb hml hts hown hP hK hD hS ls hl kend
  have hown : s.vm.findClass RX5 = some m.cls := hown
  have hl : lv_has ls 2 [(0, .ref (r 0)), (1, .int (iI wh))] := hl
  obtain ⟨hI, hIK, hik, hSB, hSS, hSN, htn, hTB, hF⟩ := id hG
  have hn := Inv_n hI
  have hdy := Inv_d hI
  have hP : va_P D vwCl (wRo r ik tn j ++ (wA cI (r 1) 100 T ++ (wA cI (r 2) 100 K ++ (wA cI (r 3) 100 X ++ (wA cI (r 4) 100 Y ++ (wA cI (r 5) 8 (fR F) ++ (wA cI (r 6) 120 TB ++ (wA cI (r 7) 4 (bR SB) ++ (wA cI (r 8) 4 SS ++ (wA cI (r 9) 160 SN)))))))))) s.heap := hP
  have hD : va_D A (wRo r ik tn j ++ (wA cI (r 1) 100 T ++ (wA cI (r 2) 100 K ++ (wA cI (r 3) 100 X ++ (wA cI (r 4) 100 Y ++ (wA cI (r 5) 8 (fR F) ++ (wA cI (r 6) 120 TB ++ (wA cI (r 7) 4 (bR SB) ++ (wA cI (r 8) 4 SS ++ (wA cI (r 9) 160 SN)))))))))) := hD
  refine lv_iload_n hx hb dX5_status_0 rfl (lv_at hl 1 rfl) ?_
  refine x_i2l hx hb (by omega) dX5_status_1 ?_
  refine x_ldc2 hx hb (-1) rfl hown (hts (.constantLong RX5 286 (-1)) (by decide +kernel)) dX5_status_2 ?_
  refine x_ldc2 hx hb 6 rfl hown (hts (.constantLong RX5 62 (6)) (by decide +kernel)) dX5_status_5 ?_
  refine x_callS (As := [.long (lI wh), .long (lI (-1)), .long (lI 6)]) (rest := []) ⟨hx, hb, hml, hown, hts⟩ (kX5_isIn wh (-1) 6 (by omega) (by omega) (by omega)) (va_cwS 3 hts gX5_status_X5_isIn rfl rfl rfl ykSX5_isIn ⟨Nat.le_of_ble_eq_true rfl, Nat.le_of_ble_eq_true rfl⟩) hP hK hD hS [] rfl (by decide) (fun _ => rfl) (fun _ => wRo r ik tn j ++ (wA cI (r 1) 100 T ++ (wA cI (r 2) 100 K ++ (wA cI (r 3) 100 X ++ (wA cI (r 4) 100 Y ++ (wA cI (r 5) 8 (fR F) ++ (wA cI (r 6) 120 TB ++ (wA cI (r 7) 4 (bR SB) ++ (wA cI (r 8) 4 SS ++ (wA cI (r 9) 160 SN)))))))))) (fun _ => rfl) rfl hl.1 rfl (Nat.le_of_ble_eq_true rfl) dX5_status_8 ⟨Nat.le_of_ble_eq_true rfl, Nat.le_of_ble_eq_true rfl⟩ (fun _ H locs _ hP hD hS => ?_)
  refine W.eq (g2 := F0 m 11 ls [.int (iI (b2 (decide ((-1) ≤ wh ∧ wh ≤ 6))))]) rfl ?_
  refine x_ifb_eq (tgt := 25) hx hb dX5_status_11 (by decide) (fun c_11 => ?_) (fun c_11 => ?_)
  · refine lv_aload_n hx hb dX5_status_25 rfl (lv_at hl 0 rfl) ?_
    refine x_ldc hx hb (-1000001) rfl hown (hts (.constant RX5 37 (-1000001)) (by decide +kernel)) dX5_status_26 ?_
    refine x_callV (As := [.int (iI (-1000001))]) (rest := []) ⟨hx, hb, hml, hown, hts⟩ (kX5_finds r ik tn j F (-1000001) 0 (by omega) (by omega)) (cwV 1 hts gX5_status_X5_finds rfl rfl rfl ykVX5_finds ⟨Nat.le_of_ble_eq_true rfl, Nat.le_of_ble_eq_true rfl⟩) hP hK hD hS 0 4 rfl rfl rfl [0, 5] rfl (by decide) (fun _ => rfl) (fun _ => wRo r ik tn j ++ (wA cI (r 1) 100 T ++ (wA cI (r 2) 100 K ++ (wA cI (r 3) 100 X ++ (wA cI (r 4) 100 Y ++ (wA cI (r 5) 8 (fR (bmp 0 F)) ++ (wA cI (r 6) 120 TB ++ (wA cI (r 7) 4 (bR SB) ++ (wA cI (r 8) 4 SS ++ (wA cI (r 9) 160 SN)))))))))) (fun _ => rfl) rfl hl.1 rfl (Nat.le_of_ble_eq_true rfl) dX5_status_28 ⟨Nat.le_of_ble_eq_true rfl, Nat.le_of_ble_eq_true rfl⟩ (fun _ H locs _ hP hD hS => ?_)
    refine W.eq (g2 := F0 m 31 ls [.int (iI (-1000001))]) rfl ?_
    exact kend (((-1000001), T, K, ik, SB, SS, SN, tn, TB, (bmp 0 F)), X, Y, j) hP hS rfl (if_neg (by omega)).symm dX5_status_31
  · refine lv_aload_n hx hb dX5_status_14 rfl (lv_at hl 0 rfl) ?_
    refine va_get (D := D) (ci := 4) (v := .ref (r 5)) (C := RX5) (T := TX5) (N := 18) hx hb hts (iT_X5_status_X5) hown hK hP 0 rfl rfl 5 (by decide) (hts (.fieldLink RX5 22 "WordSupperModel" "findings" "[I") (by decide +kernel)) (fun _ h9 => h9) rfl dX5_status_15 ?_
    refine lv_iload_n hx hb dX5_status_18 rfl (lv_at hl 1 rfl) ?_
    refine x_iconst hx hb dX5_status_19 ?_
    refine x_iadd hx hb dX5_status_20 ?_
    refine x_topi (((wh + 1).toNat : Nat) : Int) (by omega) ?_
    refine x_iald hx hb hK hP 5 0 rfl rfl ((wh + 1).toNat) rfl (by omega) (by decide) ((fR F) ((wh + 1).toNat)) (gd_at _ (by omega)) dX5_status_21 ?_
    refine lv_goto (tgt := 31) hx hb dX5_status_22 (by decide) ?_
    exact kend (((fR F) ((wh + 1).toNat), T, K, ik, SB, SS, SN, tn, TB, F), X, Y, j) hP hS rfl (if_pos (by omega)).symm dX5_status_31
