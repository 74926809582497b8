theorem ykSX5_many : yX5_many.cls ≠ "java/lang/invoke/MethodHandle" ∧ yX5_many.cls ≠ "java/lang/invoke/VarHandle" ∧ (parseMethodDescriptor yX5_many.desc).map (fun d => d.parameters.length) = some 1 := by decide +kernel
theorem ykVX5_many : yX5_many.cls = RX5 ∧ yX5_many.cls ≠ "java/lang/invoke/MethodHandle" ∧ yX5_many.cls ≠ "java/lang/invoke/VarHandle" ∧ (parseMethodDescriptor yX5_many.desc).map (fun d => d.parameters.length) = some 1 := ⟨rfl, ykSX5_many⟩
set_option maxHeartbeats 4000000 in
set_option maxRecDepth 100000 in
theorem kX5_many {l : Launch} {D : va_G} {cI cB : ClassId} (i : Nat) (hi : i < 257) : Ct l yX5_many wsX5_many 0 0 D [(cI, .int), (cB, .byte)] [.int (iI ((i : Nat) : Int))] (([] : va_W)) (S := Unit) (fun _ => some (.int (iI ((bcF i : Nat) : Int)))) (fun _ => True) (fun _ => ([] : va_W)) := by
  refine CtI.of (cc := cX5_many) (maxL := 3) (by decide +kernel) rfl (Nat.le_of_ble_eq_true rfl) ?_
  intro pg e s m args below meth c Q A hx hb hml hts hown hP hK hD hS ls hl kend
  have hown : s.vm.findClass RX5 = some m.cls := hown
  have hl : lv_has ls 3 [(0, .int (iI ((i : Nat) : Int)))] := hl
  refine x_iconst hx hb dX5_many_0 ?_
  refine lv_istore_n (lv' := [(1, .int (iI 0)), (0, .int (iI ((i : Nat) : Int)))]) hx hb dX5_many_1 rfl hl (by decide) rfl (fun ls hl => ?_)
  refine lv_iload_n hx hb dX5_many_2 rfl (lv_at hl 1 rfl) ?_
  refine lv_istore_n (lv' := [(2, .int (iI ((i : Nat) : Int))), (1, .int (iI 0)), (0, .int (iI ((i : Nat) : Int)))]) hx hb dX5_many_3 rfl hl (by decide) rfl (fun ls hl => ?_)
  have L4 : ∀ (k t : Nat) (cv : Nat) (nv : Nat) (H : Heap) (locs : List Loc) (ls : Array Slot), t + k = 256 → (bcF cv + nv = bcF i) → (cv + t ≤ 256) → va_P D vwCl (([] : va_W)) H → va_D A (([] : va_W)) → va_S A s.heap H locs → lv_has ls 3 [(0, .int (iI ((i : Nat) : Int))), (1, .int (iI ((nv : Nat) : Int))), (2, .int (iI ((cv : Nat) : Int)))] → W pg l e { frames := 0, cells := 0, slots := 0, locals := 0 } s m args below meth c H locs 0 0 Q (F0 m 4 ls []) := by
    intro k
    induction k with
    | zero =>
      intro t cv nv H locs ls hkt ha9 hb9 hP hD hS hl
      refine lv_iload_n hx hb dX5_many_4 rfl (lv_at hl 2 rfl) ?_
      refine x_if_eq (tgt := 20) hx hb (by omega) dX5_many_5 (by decide) (fun c_5 => ?_) (fun c_5 => ?_)
      · refine lv_iload_n hx hb dX5_many_20 rfl (lv_at hl 1 rfl) ?_
        exact kend () hP hS (an_i (by obtain rfl : cv = 0 := (by omega); have q9 : bcF 0 = 0 := rfl; omega)) trivial dX5_many_21
      · exfalso; omega
    | succ k ih =>
      intro t cv nv H locs ls hkt ha9 hb9 hP hD hS hl
      refine lv_iload_n hx hb dX5_many_4 rfl (lv_at hl 2 rfl) ?_
      refine x_if_eq (tgt := 20) hx hb (by omega) dX5_many_5 (by decide) (fun c_5 => ?_) (fun c_5 => ?_)
      · refine lv_iload_n hx hb dX5_many_20 rfl (lv_at hl 1 rfl) ?_
        exact kend () hP hS (an_i (by obtain rfl : cv = 0 := (by omega); have q9 : bcF 0 = 0 := rfl; omega)) trivial dX5_many_21
      · have hcl := cl1_p cv (by omega) (by omega)
        refine x_iinc hx hb 1 ((nv + 1 : Nat) : Int) (by omega) [(1, .int (iI ((nv + 1 : Nat) : Int))), (0, .int (iI ((i : Nat) : Int))), (2, .int (iI ((cv : Nat) : Int)))] dX5_many_8 hl rfl (by decide) rfl (fun ls hl => ?_)
        refine lv_iload_n hx hb dX5_many_11 rfl (lv_at hl 2 rfl) ?_
        refine lv_iload_n hx hb dX5_many_12 rfl (lv_at hl 2 rfl) ?_
        refine x_iconst hx hb dX5_many_13 ?_
        refine x_isub hx hb dX5_many_14 ?_
        refine x_iand hx hb dX5_many_15 ?_
        refine x_topi ((cl1 cv : Nat) : Int) hcl.1 ?_
        refine lv_istore_n (lv' := [(2, .int (iI ((cl1 cv : Nat) : Int))), (1, .int (iI ((nv + 1 : Nat) : Int))), (0, .int (iI ((i : Nat) : Int)))]) hx hb dX5_many_16 rfl hl (by decide) rfl (fun ls hl => ?_)
        refine lv_goto (tgt := 4) hx hb dX5_many_17 (by decide) ?_
        exact ih (t + 1) (cl1 cv) (nv + 1) _ _ _ (by omega) (by omega) (by omega) hP hD hS (lv_sub hl [2, 1, 0] rfl)
  exact L4 256 0 i 0 _ _ _ (by omega) (by omega) (by omega) hP hD hS (lv_sub hl [2, 1, 0] rfl)
theorem ykSX5_silence : yX5_silence.cls ≠ "java/lang/invoke/MethodHandle" ∧ yX5_silence.cls ≠ "java/lang/invoke/VarHandle" ∧ (parseMethodDescriptor yX5_silence.desc).map (fun d => d.parameters.length) = some 2 := by decide +kernel
theorem ykVX5_silence : yX5_silence.cls = RX5 ∧ yX5_silence.cls ≠ "java/lang/invoke/MethodHandle" ∧ yX5_silence.cls ≠ "java/lang/invoke/VarHandle" ∧ (parseMethodDescriptor yX5_silence.desc).map (fun d => d.parameters.length) = some 2 := ⟨rfl, ykSX5_silence⟩
set_option maxRecDepth 20000 in
theorem iT_X5_silence_X5 : ∀ w ∈ u_ws RX5 TX5 18, w ∈ wsX5_silence := by decide +kernel
set_option maxHeartbeats 4000000 in
set_option maxRecDepth 100000 in
theorem kX5_silence {l : Launch} {D : va_G} {cI cB : ClassId} (r : Nat → Nat) (T K : Tb) (ik : Int) (SB SS SN : Nat → Int) (tn : Int) (TB F : Nat → Int) (X Y : Tb) (j : Nat → Int) (sp n : Int) (B : Int) (hG : GI B T K ik SB SS SN tn TB F) (hB : B ≤ 40000) (h_sp : rI sp) (h_n : rI n) : Ct l yX5_silence wsX5_silence 5 111 D [(cI, .int), (cB, .byte)] [.ref (r 0), .int (iI sp), .int (iI n)] (wM cI r (T, K, ik, SB, SS, SN, tn, TB, F) X Y j) (S := (Int × Gs) × Tb × Tb × (Nat → Int)) (fun u => some (.int (iI u.1.1))) (fun u => u.1 = m_silence sp n T K ik SB SS SN tn TB F) (fun u => wM cI r u.1.2 u.2.1 u.2.2.1 u.2.2.2) := by
  refine CtI.of (cc := cX5_silence) (maxL := 6) (by decide +kernel) rfl (Nat.le_of_ble_eq_true rfl) ?_
  intro pg e s m args below meth c Q A hx hb hml hts hown hP hK hD hS ls hl kend
  have hown : s.vm.findClass RX5 = some m.cls := hown
  have hl : lv_has ls 6 [(0, .ref (r 0)), (1, .int (iI sp)), (2, .int (iI n))] := hl
  obtain ⟨hI, hIK, hik, hSB, hSS, hSN, htn, hTB, hF⟩ := id hG
  have hn := Inv_n hI
  have hdy := Inv_d hI
  have hP : va_P D vwCl (wRo r ik tn j ++ (wA cI (r 1) 100 T ++ (wA cI (r 2) 100 K ++ (wA cI (r 3) 100 X ++ (wA cI (r 4) 100 Y ++ (wA cI (r 5) 8 (fR F) ++ (wA cI (r 6) 120 TB ++ (wA cI (r 7) 4 (bR SB) ++ (wA cI (r 8) 4 SS ++ (wA cI (r 9) 160 SN)))))))))) s.heap := hP
  have hD : va_D A (wRo r ik tn j ++ (wA cI (r 1) 100 T ++ (wA cI (r 2) 100 K ++ (wA cI (r 3) 100 X ++ (wA cI (r 4) 100 Y ++ (wA cI (r 5) 8 (fR F) ++ (wA cI (r 6) 120 TB ++ (wA cI (r 7) 4 (bR SB) ++ (wA cI (r 8) 4 SS ++ (wA cI (r 9) 160 SN)))))))))) := hD
  refine lv_aload_n hx hb dX5_silence_0 rfl (lv_at hl 0 rfl) ?_
  refine lv_iload_n hx hb dX5_silence_1 rfl (lv_at hl 1 rfl) ?_
  refine x_callV (As := [.int (iI sp)]) (rest := []) ⟨hx, hb, hml, hown, hts⟩ (kX5_isOne r ik tn j T sp (by omega) (by omega)) (cwV 1 hts gX5_silence_X5_isOne rfl rfl rfl ykVX5_isOne ⟨Nat.le_of_ble_eq_true rfl, Nat.le_of_ble_eq_true rfl⟩) hP hK hD hS 0 4 rfl rfl rfl [0, 1] rfl (by decide) (fun _ => rfl) (fun _ => wRo r ik tn j ++ (wA cI (r 1) 100 T ++ (wA cI (r 2) 100 K ++ (wA cI (r 3) 100 X ++ (wA cI (r 4) 100 Y ++ (wA cI (r 5) 8 (fR F) ++ (wA cI (r 6) 120 TB ++ (wA cI (r 7) 4 (bR SB) ++ (wA cI (r 8) 4 SS ++ (wA cI (r 9) 160 SN)))))))))) (fun _ => rfl) rfl hl.1 rfl (Nat.le_of_ble_eq_true rfl) dX5_silence_2 ⟨Nat.le_of_ble_eq_true rfl, Nat.le_of_ble_eq_true rfl⟩ (fun _ H locs _ hP hD hS => ?_)
  refine W.eq (g2 := F0 m 5 ls [.int (iI (b2 (decide (0 ≤ sp ∧ sp < T 0))))]) rfl ?_
  refine x_ifb_eq (tgt := 20) hx hb dX5_silence_5 (by decide) (fun c_5 => ?_) (fun c_5 => ?_)
  · refine lv_aload_n hx hb dX5_silence_20 rfl (lv_at hl 0 rfl) ?_
    refine x_ldc hx hb (-1000001) rfl hown (hts (.constant RX5 37 (-1000001)) (by decide +kernel)) dX5_silence_21 ?_
    refine x_callV (As := [.int (iI (-1000001))]) (rest := []) ⟨hx, hb, hml, hown, hts⟩ (kX5_finds r ik tn j F (-1000001) 0 (by omega) (by omega)) (cwV 1 hts gX5_silence_X5_finds rfl rfl rfl ykVX5_finds ⟨Nat.le_of_ble_eq_true rfl, Nat.le_of_ble_eq_true rfl⟩) hP hK hD hS 0 4 rfl rfl rfl [0, 5] rfl (by decide) (fun _ => rfl) (fun _ => wRo r ik tn j ++ (wA cI (r 1) 100 T ++ (wA cI (r 2) 100 K ++ (wA cI (r 3) 100 X ++ (wA cI (r 4) 100 Y ++ (wA cI (r 5) 8 (fR (bmp 0 F)) ++ (wA cI (r 6) 120 TB ++ (wA cI (r 7) 4 (bR SB) ++ (wA cI (r 8) 4 SS ++ (wA cI (r 9) 160 SN)))))))))) (fun _ => rfl) rfl hl.1 rfl (Nat.le_of_ble_eq_true rfl) dX5_silence_23 ⟨Nat.le_of_ble_eq_true rfl, Nat.le_of_ble_eq_true rfl⟩ (fun _ H locs _ hP hD hS => ?_)
    refine W.eq (g2 := F0 m 26 ls [.int (iI (-1000001))]) rfl ?_
    exact kend (((-1000001), T, K, ik, SB, SS, SN, tn, TB, (bmp 0 F)), X, Y, j) hP hS rfl (if_neg (by omega)).symm dX5_silence_26
  · refine lv_iload_n hx hb dX5_silence_8 rfl (lv_at hl 2 rfl) ?_
    refine x_i2l hx hb (by omega) dX5_silence_9 ?_
    refine x_lconst hx hb 0 rfl dX5_silence_10 ?_
    refine x_ldc2 hx hb 12 rfl hown (hts (.constantLong RX5 174 (12)) (by decide +kernel)) dX5_silence_11 ?_
    refine x_callS (As := [.long (lI n), .long (lI 0), .long (lI 12)]) (rest := []) ⟨hx, hb, hml, hown, hts⟩ (kX5_isIn n 0 12 (by omega) (by omega) (by omega)) (va_cwS 3 hts gX5_silence_X5_isIn rfl rfl rfl ykSX5_isIn ⟨Nat.le_of_ble_eq_true rfl, Nat.le_of_ble_eq_true rfl⟩) hP hK hD hS [] rfl (by decide) (fun _ => rfl) (fun _ => wRo r ik tn j ++ (wA cI (r 1) 100 T ++ (wA cI (r 2) 100 K ++ (wA cI (r 3) 100 X ++ (wA cI (r 4) 100 Y ++ (wA cI (r 5) 8 (fR F) ++ (wA cI (r 6) 120 TB ++ (wA cI (r 7) 4 (bR SB) ++ (wA cI (r 8) 4 SS ++ (wA cI (r 9) 160 SN)))))))))) (fun _ => rfl) rfl hl.1 rfl (Nat.le_of_ble_eq_true rfl) dX5_silence_14 ⟨Nat.le_of_ble_eq_true rfl, Nat.le_of_ble_eq_true rfl⟩ (fun _ H locs _ hP hD hS => ?_)
    refine W.eq (g2 := F0 m 17 ls [.int (iI (b2 (decide (0 ≤ n ∧ n ≤ 12))))]) rfl ?_
    refine x_ifb_ne (tgt := 27) hx hb dX5_silence_17 (by decide) (fun c_17 => ?_) (fun c_17 => ?_)
    · obtain ⟨p0, rfl⟩ : ∃ p0 : Nat, sp = (p0 : Int) := ⟨sp.toNat, by omega⟩
      obtain ⟨n0, rfl⟩ : ∃ n0 : Nat, n = (n0 : Int) := ⟨n.toNat, by omega⟩
      refine x_iconst hx hb dX5_silence_27 ?_
      refine lv_istore_n (lv' := [(3, .int (iI (-1))), (0, .ref (r 0)), (1, .int (iI ((p0 : Nat) : Int))), (2, .int (iI ((n0 : Nat) : Int)))]) hx hb dX5_silence_28 rfl hl (by decide) rfl (fun ls hl => ?_)
      refine lv_aload_n hx hb dX5_silence_29 rfl (lv_at hl 1 rfl) ?_
      refine va_get (D := D) (ci := 4) (v := .ref (r 1)) (C := RX5) (T := TX5) (N := 18) hx hb hts (iT_X5_silence_X5) hown hK hP 0 rfl rfl 0 (by decide) (hts (.fieldLink RX5 7 "WordSupperModel" "s" "[I") (by decide +kernel)) (fun _ h9 => h9) rfl dX5_silence_30 ?_
      refine lv_aload_n hx hb dX5_silence_33 rfl (lv_at hl 1 rfl) ?_
      refine va_get (D := D) (ci := 4) (v := .ref (r 4)) (C := RX5) (T := TX5) (N := 18) hx hb hts (iT_X5_silence_X5) hown hK hP 0 rfl rfl 3 (by decide) (hts (.fieldLink RX5 19 "WordSupperModel" "aside" "[I") (by decide +kernel)) (fun _ h9 => h9) rfl dX5_silence_34 ?_
      refine x_callS (As := [.ref (r 1), .ref (r 4)]) (rest := []) ⟨hx, hb, hml, hown, hts⟩ (kX5_copyRow (r 1) T (r 4) Y ) (va_cwS 2 hts gX5_silence_X5_copyRow rfl rfl rfl ykSX5_copyRow ⟨Nat.le_of_ble_eq_true rfl, Nat.le_of_ble_eq_true rfl⟩) hP hK hD hS [1, 4] rfl (by decide) (fun _ => rfl) (fun _ => wRo r ik tn j ++ (wA cI (r 1) 100 T ++ (wA cI (r 2) 100 K ++ (wA cI (r 3) 100 X ++ (wA cI (r 4) 100 T ++ (wA cI (r 5) 8 (fR F) ++ (wA cI (r 6) 120 TB ++ (wA cI (r 7) 4 (bR SB) ++ (wA cI (r 8) 4 SS ++ (wA cI (r 9) 160 SN)))))))))) (fun _ => rfl) rfl hl.1 rfl (Nat.le_of_ble_eq_true rfl) dX5_silence_37 ⟨Nat.le_of_ble_eq_true rfl, Nat.le_of_ble_eq_true rfl⟩ (fun _ H locs _ hP hD hS => ?_)
      refine W.eq (g2 := F0 m 40 ls []) rfl ?_
      have h256 := p2_le (show (T 0).toNat ≤ 8 by omega)
      refine x_iconst hx hb dX5_silence_40 ?_
      refine lv_istore (lv' := [(4, .int (iI 0)), (3, .int (iI (-1))), (0, .ref (r 0)), (1, .int (iI ((p0 : Nat) : Int))), (2, .int (iI ((n0 : Nat) : Int)))]) hx hb dX5_silence_41 hl (by decide) rfl (fun ls hl => ?_)
      have L43 : ∀ (k t : Nat) (Y1 : Tb) (jt : Nat → Int) (be : Int) (H : Heap) (locs : List Loc) (ls : Array Slot), t + k = (2 ^ (T 0).toNat) → (siR n0 p0 T k t be = siR n0 p0 T (2 ^ (T 0).toNat) 0 (-1)) → (-1 ≤ be ∧ be ≤ 255) → va_P D vwCl (wRo r ik tn jt ++ (wA cI (r 1) 100 T ++ (wA cI (r 2) 100 K ++ (wA cI (r 3) 100 X ++ (wA cI (r 4) 100 T ++ (wA cI (r 5) 8 (fR F) ++ (wA cI (r 6) 120 TB ++ (wA cI (r 7) 4 (bR SB) ++ (wA cI (r 8) 4 SS ++ (wA cI (r 9) 160 SN)))))))))) H → va_D A (wRo r ik tn jt ++ (wA cI (r 1) 100 T ++ (wA cI (r 2) 100 K ++ (wA cI (r 3) 100 X ++ (wA cI (r 4) 100 T ++ (wA cI (r 5) 8 (fR F) ++ (wA cI (r 6) 120 TB ++ (wA cI (r 7) 4 (bR SB) ++ (wA cI (r 8) 4 SS ++ (wA cI (r 9) 160 SN)))))))))) → va_S A s.heap H locs → lv_has ls 6 [(0, .ref (r 0)), (1, .int (iI ((p0 : Nat) : Int))), (2, .int (iI ((n0 : Nat) : Int))), (3, .int (iI be)), (4, .int (iI ((t : Nat) : Int)))] → W pg l e { frames := 5, cells := 0, slots := 0, locals := 111 } s m args below meth c H locs 0 0 Q (F0 m 43 ls []) := by
        intro k
        induction k with
        | zero =>
          intro t Y1 jt be H locs ls hkt hr hbe hP hD hS hl
          refine lv_iload hx hb dX5_silence_43 (lv_at hl 4 rfl) ?_
          refine x_iconst hx hb dX5_silence_45 ?_
          refine lv_aload_n hx hb dX5_silence_46 rfl (lv_at hl 0 rfl) ?_
          refine va_get (D := D) (ci := 4) (v := .ref (r 1)) (C := RX5) (T := TX5) (N := 18) hx hb hts (iT_X5_silence_X5) hown hK hP 0 rfl rfl 0 (by decide) (hts (.fieldLink RX5 7 "WordSupperModel" "s" "[I") (by decide +kernel)) (fun _ h9 => h9) rfl dX5_silence_47 ?_
          refine x_iconst hx hb dX5_silence_50 ?_
          refine x_iald hx hb hK hP 1 0 rfl rfl 0 rfl (by omega) (by decide) (T 0) (gd_at _ (by omega)) dX5_silence_51 ?_
          refine x_ishl hx hb dX5_silence_52 ?_
          refine x_topi (((2 ^ (T 0).toNat) : Nat) : Int) (sh_1 (by omega)) ?_
          refine x_icmp_ge (tgt := 125) hx hb (by omega) (by omega) dX5_silence_53 (by decide) (fun c_53 => ?_) (fun c_53 => ?_)
          · refine lv_aload_n hx hb dX5_silence_125 rfl (lv_at hl 0 rfl) ?_
            refine lv_iload_n hx hb dX5_silence_126 rfl (lv_at hl 3 rfl) ?_
            refine x_callV (As := [.int (iI be)]) (rest := []) ⟨hx, hb, hml, hown, hts⟩ (kX5_orNone r ik tn jt F be (by omega)) (cwV 1 hts gX5_silence_X5_orNone rfl rfl rfl ykVX5_orNone ⟨Nat.le_of_ble_eq_true rfl, Nat.le_of_ble_eq_true rfl⟩) hP hK hD hS 0 4 rfl rfl rfl [0, 5] rfl (by decide) (fun _ => rfl) (fun u => wRo r ik tn jt ++ (wA cI (r 1) 100 T ++ (wA cI (r 2) 100 K ++ (wA cI (r 3) 100 X ++ (wA cI (r 4) 100 T ++ (wA cI (r 5) 8 (fR u.1) ++ (wA cI (r 6) 120 TB ++ (wA cI (r 7) 4 (bR SB) ++ (wA cI (r 8) 4 SS ++ (wA cI (r 9) 160 SN)))))))))) (fun _ => rfl) rfl hl.1 rfl (Nat.le_of_ble_eq_true rfl) dX5_silence_127 ⟨Nat.le_of_ble_eq_true rfl, Nat.le_of_ble_eq_true rfl⟩ (fun u3 H locs hp4 hP hD hS => ?_)
            obtain ⟨F11, r12⟩ := u3
            replace hp4 : (r12, F11) = noF be F := hp4
            have hP : va_P D vwCl (wRo r ik tn jt ++ (wA cI (r 1) 100 T ++ (wA cI (r 2) 100 K ++ (wA cI (r 3) 100 X ++ (wA cI (r 4) 100 T ++ (wA cI (r 5) 8 (fR F11) ++ (wA cI (r 6) 120 TB ++ (wA cI (r 7) 4 (bR SB) ++ (wA cI (r 8) 4 SS ++ (wA cI (r 9) 160 SN)))))))))) H := hP
            have hD : va_D A (wRo r ik tn jt ++ (wA cI (r 1) 100 T ++ (wA cI (r 2) 100 K ++ (wA cI (r 3) 100 X ++ (wA cI (r 4) 100 T ++ (wA cI (r 5) 8 (fR F11) ++ (wA cI (r 6) 120 TB ++ (wA cI (r 7) 4 (bR SB) ++ (wA cI (r 8) 4 SS ++ (wA cI (r 9) 160 SN)))))))))) := hD
            refine W.eq (g2 := F0 m 130 ls [.int (iI r12)]) rfl ?_
            exact kend ((r12, T, K, ik, SB, SS, SN, tn, TB, F11), X, T, jt) hP hS rfl (si_r (by omega) (by omega) hr.symm hp4) dX5_silence_130
          · exfalso; omega
        | succ k ih =>
          intro t Y1 jt be H locs ls hkt hr hbe hP hD hS hl
          refine lv_iload hx hb dX5_silence_43 (lv_at hl 4 rfl) ?_
          refine x_iconst hx hb dX5_silence_45 ?_
          refine lv_aload_n hx hb dX5_silence_46 rfl (lv_at hl 0 rfl) ?_
          refine va_get (D := D) (ci := 4) (v := .ref (r 1)) (C := RX5) (T := TX5) (N := 18) hx hb hts (iT_X5_silence_X5) hown hK hP 0 rfl rfl 0 (by decide) (hts (.fieldLink RX5 7 "WordSupperModel" "s" "[I") (by decide +kernel)) (fun _ h9 => h9) rfl dX5_silence_47 ?_
          refine x_iconst hx hb dX5_silence_50 ?_
          refine x_iald hx hb hK hP 1 0 rfl rfl 0 rfl (by omega) (by decide) (T 0) (gd_at _ (by omega)) dX5_silence_51 ?_
          refine x_ishl hx hb dX5_silence_52 ?_
          refine x_topi (((2 ^ (T 0).toNat) : Nat) : Int) (sh_1 (by omega)) ?_
          refine x_icmp_ge (tgt := 125) hx hb (by omega) (by omega) dX5_silence_53 (by decide) (fun c_53 => ?_) (fun c_53 => ?_)
          · exfalso; omega
          · refine lv_iload_n hx hb dX5_silence_56 rfl (lv_at hl 3 rfl) ?_
            refine x_if_lt (tgt := 72) hx hb (by omega) dX5_silence_57 (by decide) (fun c_57 => ?_) (fun c_57 => ?_)
            · refine x_iconst hx hb dX5_silence_72 ?_
              refine lv_istore (lv' := [(5, .int (iI 0)), (0, .ref (r 0)), (1, .int (iI ((p0 : Nat) : Int))), (2, .int (iI ((n0 : Nat) : Int))), (3, .int (iI be)), (4, .int (iI ((t : Nat) : Int)))]) hx hb dX5_silence_73 hl (by decide) rfl (fun ls hl => ?_)
              have L75 : ∀ (k2 d : Nat) (Tt : Tb) (j2 : Nat → Int) (H : Heap) (locs : List Loc) (ls : Array Slot), d + k2 = n0 → (run (fun _ => dyF ((t : Nat) : Int)) k2 d Tt = dsF ((t : Nat) : Int) n0 T) → (Inv (B + (d : Int)) Tt) → (Tt 0 = T 0) → va_P D vwCl (wRo r ik tn j2 ++ (wA cI (r 1) 100 Tt ++ (wA cI (r 2) 100 K ++ (wA cI (r 3) 100 X ++ (wA cI (r 4) 100 T ++ (wA cI (r 5) 8 (fR F) ++ (wA cI (r 6) 120 TB ++ (wA cI (r 7) 4 (bR SB) ++ (wA cI (r 8) 4 SS ++ (wA cI (r 9) 160 SN)))))))))) H → va_D A (wRo r ik tn j2 ++ (wA cI (r 1) 100 Tt ++ (wA cI (r 2) 100 K ++ (wA cI (r 3) 100 X ++ (wA cI (r 4) 100 T ++ (wA cI (r 5) 8 (fR F) ++ (wA cI (r 6) 120 TB ++ (wA cI (r 7) 4 (bR SB) ++ (wA cI (r 8) 4 SS ++ (wA cI (r 9) 160 SN)))))))))) → va_S A s.heap H locs → lv_has ls 6 [(0, .ref (r 0)), (1, .int (iI ((p0 : Nat) : Int))), (2, .int (iI ((n0 : Nat) : Int))), (3, .int (iI be)), (4, .int (iI ((t : Nat) : Int))), (5, .int (iI ((d : Nat) : Int)))] → W pg l e { frames := 5, cells := 0, slots := 0, locals := 111 } s m args below meth c H locs 0 0 Q (F0 m 75 ls []) := by
                intro k2
                induction k2 with
                | zero =>
                  intro d Tt j2 H locs ls hkd hr2 hi2 h02 hP hD hS hl
                  refine lv_iload hx hb dX5_silence_75 (lv_at hl 5 rfl) ?_
                  refine lv_iload_n hx hb dX5_silence_77 rfl (lv_at hl 2 rfl) ?_
                  refine x_icmp_ge (tgt := 93) hx hb (by omega) (by omega) dX5_silence_78 (by decide) (fun c_78 => ?_) (fun c_78 => ?_)
                  · have lV := Inv_lf (p := p0) hi2 (by omega)
                    refine lv_aload_n hx hb dX5_silence_93 rfl (lv_at hl 0 rfl) ?_
                    refine lv_iload_n hx hb dX5_silence_94 rfl (lv_at hl 1 rfl) ?_
                    refine x_callV (As := [.int (iI ((p0 : Nat) : Int))]) (rest := []) ⟨hx, hb, hml, hown, hts⟩ (kX5_left r ik tn j2 Tt p0 (by omega)) (cwV 1 hts gX5_silence_X5_left rfl rfl rfl ykVX5_left ⟨Nat.le_of_ble_eq_true rfl, Nat.le_of_ble_eq_true rfl⟩) hP hK hD hS 0 4 rfl rfl rfl [0, 1] rfl (by decide) (fun _ => rfl) (fun _ => wRo r ik tn j2 ++ (wA cI (r 1) 100 Tt ++ (wA cI (r 2) 100 K ++ (wA cI (r 3) 100 X ++ (wA cI (r 4) 100 T ++ (wA cI (r 5) 8 (fR F) ++ (wA cI (r 6) 120 TB ++ (wA cI (r 7) 4 (bR SB) ++ (wA cI (r 8) 4 SS ++ (wA cI (r 9) 160 SN)))))))))) (fun _ => rfl) rfl hl.1 rfl (Nat.le_of_ble_eq_true rfl) dX5_silence_95 ⟨Nat.le_of_ble_eq_true rfl, Nat.le_of_ble_eq_true rfl⟩ (fun _ H locs _ hP hD hS => ?_)
                    refine W.eq (g2 := F0 m 98 ls [.int (iI (lfF Tt p0))]) rfl ?_
                    refine x_if_ne (tgt := 106) hx hb (by omega) dX5_silence_98 (by decide) (fun c_98 => ?_) (fun c_98 => ?_)
                    · refine lv_iload_n hx hb dX5_silence_106 rfl (lv_at hl 3 rfl) ?_
                      refine lv_istore_n (lv' := [(3, .int (iI be)), (0, .ref (r 0)), (1, .int (iI ((p0 : Nat) : Int))), (2, .int (iI ((n0 : Nat) : Int))), (4, .int (iI ((t : Nat) : Int))), (5, .int (iI ((d : Nat) : Int)))]) hx hb dX5_silence_107 rfl hl (by decide) rfl (fun ls hl => ?_)
                      refine lv_aload_n hx hb dX5_silence_108 rfl (lv_at hl 1 rfl) ?_
                      refine va_get (D := D) (ci := 4) (v := .ref (r 4)) (C := RX5) (T := TX5) (N := 18) hx hb hts (iT_X5_silence_X5) hown hK hP 0 rfl rfl 3 (by decide) (hts (.fieldLink RX5 19 "WordSupperModel" "aside" "[I") (by decide +kernel)) (fun _ h9 => h9) rfl dX5_silence_109 ?_
                      refine lv_aload_n hx hb dX5_silence_112 rfl (lv_at hl 1 rfl) ?_
                      refine va_get (D := D) (ci := 4) (v := .ref (r 1)) (C := RX5) (T := TX5) (N := 18) hx hb hts (iT_X5_silence_X5) hown hK hP 0 rfl rfl 0 (by decide) (hts (.fieldLink RX5 7 "WordSupperModel" "s" "[I") (by decide +kernel)) (fun _ h9 => h9) rfl dX5_silence_113 ?_
                      refine x_callS (As := [.ref (r 4), .ref (r 1)]) (rest := []) ⟨hx, hb, hml, hown, hts⟩ (kX5_copyRow (r 4) T (r 1) Tt ) (va_cwS 2 hts gX5_silence_X5_copyRow rfl rfl rfl ykSX5_copyRow ⟨Nat.le_of_ble_eq_true rfl, Nat.le_of_ble_eq_true rfl⟩) hP hK hD hS [4, 1] rfl (by decide) (fun _ => rfl) (fun _ => wRo r ik tn j2 ++ (wA cI (r 1) 100 T ++ (wA cI (r 2) 100 K ++ (wA cI (r 3) 100 X ++ (wA cI (r 4) 100 T ++ (wA cI (r 5) 8 (fR F) ++ (wA cI (r 6) 120 TB ++ (wA cI (r 7) 4 (bR SB) ++ (wA cI (r 8) 4 SS ++ (wA cI (r 9) 160 SN)))))))))) (fun _ => rfl) rfl hl.1 rfl (Nat.le_of_ble_eq_true rfl) dX5_silence_116 ⟨Nat.le_of_ble_eq_true rfl, Nat.le_of_ble_eq_true rfl⟩ (fun _ H locs _ hP hD hS => ?_)
                      refine W.eq (g2 := F0 m 119 ls []) rfl ?_
                      refine x_iinc hx hb 4 ((t + 1 : Nat) : Int) (by omega) [(4, .int (iI ((t + 1 : Nat) : Int))), (3, .int (iI be)), (0, .ref (r 0)), (1, .int (iI ((p0 : Nat) : Int))), (2, .int (iI ((n0 : Nat) : Int))), (5, .int (iI ((d : Nat) : Int)))] dX5_silence_119 hl rfl (by decide) rfl (fun ls hl => ?_)
                      refine lv_goto (tgt := 43) hx hb dX5_silence_122 (by decide) ?_
                      exact ih (t + 1) T j2 be _ _ _ (by omega) (by rw [← hr, siR, if_neg (fun q9 => by have q8 := q9.2; rw [← hr2] at q8; have q7 : lfF Tt p0 = 0 := q8; omega)]) (by omega) hP hD hS (lv_sub hl [2, 3, 4, 1, 0] rfl)
                    · refine lv_iload hx hb dX5_silence_101 (lv_at hl 4 rfl) ?_
                      refine lv_goto (tgt := 107) hx hb dX5_silence_103 (by decide) ?_
                      refine lv_istore_n (lv' := [(3, .int (iI ((t : Nat) : Int))), (0, .ref (r 0)), (1, .int (iI ((p0 : Nat) : Int))), (2, .int (iI ((n0 : Nat) : Int))), (4, .int (iI ((t : Nat) : Int))), (5, .int (iI ((d : Nat) : Int)))]) hx hb dX5_silence_107 rfl hl (by decide) rfl (fun ls hl => ?_)
                      refine lv_aload_n hx hb dX5_silence_108 rfl (lv_at hl 1 rfl) ?_
                      refine va_get (D := D) (ci := 4) (v := .ref (r 4)) (C := RX5) (T := TX5) (N := 18) hx hb hts (iT_X5_silence_X5) hown hK hP 0 rfl rfl 3 (by decide) (hts (.fieldLink RX5 19 "WordSupperModel" "aside" "[I") (by decide +kernel)) (fun _ h9 => h9) rfl dX5_silence_109 ?_
                      refine lv_aload_n hx hb dX5_silence_112 rfl (lv_at hl 1 rfl) ?_
                      refine va_get (D := D) (ci := 4) (v := .ref (r 1)) (C := RX5) (T := TX5) (N := 18) hx hb hts (iT_X5_silence_X5) hown hK hP 0 rfl rfl 0 (by decide) (hts (.fieldLink RX5 7 "WordSupperModel" "s" "[I") (by decide +kernel)) (fun _ h9 => h9) rfl dX5_silence_113 ?_
                      refine x_callS (As := [.ref (r 4), .ref (r 1)]) (rest := []) ⟨hx, hb, hml, hown, hts⟩ (kX5_copyRow (r 4) T (r 1) Tt ) (va_cwS 2 hts gX5_silence_X5_copyRow rfl rfl rfl ykSX5_copyRow ⟨Nat.le_of_ble_eq_true rfl, Nat.le_of_ble_eq_true rfl⟩) hP hK hD hS [4, 1] rfl (by decide) (fun _ => rfl) (fun _ => wRo r ik tn j2 ++ (wA cI (r 1) 100 T ++ (wA cI (r 2) 100 K ++ (wA cI (r 3) 100 X ++ (wA cI (r 4) 100 T ++ (wA cI (r 5) 8 (fR F) ++ (wA cI (r 6) 120 TB ++ (wA cI (r 7) 4 (bR SB) ++ (wA cI (r 8) 4 SS ++ (wA cI (r 9) 160 SN)))))))))) (fun _ => rfl) rfl hl.1 rfl (Nat.le_of_ble_eq_true rfl) dX5_silence_116 ⟨Nat.le_of_ble_eq_true rfl, Nat.le_of_ble_eq_true rfl⟩ (fun _ H locs _ hP hD hS => ?_)
                      refine W.eq (g2 := F0 m 119 ls []) rfl ?_
                      refine x_iinc hx hb 4 ((t + 1 : Nat) : Int) (by omega) [(4, .int (iI ((t + 1 : Nat) : Int))), (3, .int (iI ((t : Nat) : Int))), (0, .ref (r 0)), (1, .int (iI ((p0 : Nat) : Int))), (2, .int (iI ((n0 : Nat) : Int))), (5, .int (iI ((d : Nat) : Int)))] dX5_silence_119 hl rfl (by decide) rfl (fun ls hl => ?_)
                      refine lv_goto (tgt := 43) hx hb dX5_silence_122 (by decide) ?_
                      exact ih (t + 1) T j2 ((t : Nat) : Int) _ _ _ (by omega) (by rw [← hr, siR, if_pos ⟨by omega, by rw [← hr2]; show lfF Tt p0 = 0; omega⟩]) (by omega) hP hD hS (lv_sub hl [2, 3, 4, 1, 0] rfl)
                  · exfalso; omega
                | succ k2 ih2 =>
                  intro d Tt j2 H locs ls hkd hr2 hi2 h02 hP hD hS hl
                  refine lv_iload hx hb dX5_silence_75 (lv_at hl 5 rfl) ?_
                  refine lv_iload_n hx hb dX5_silence_77 rfl (lv_at hl 2 rfl) ?_
                  refine x_icmp_ge (tgt := 93) hx hb (by omega) (by omega) dX5_silence_78 (by decide) (fun c_78 => ?_) (fun c_78 => ?_)
                  · exfalso; omega
                  · refine lv_aload_n hx hb dX5_silence_81 rfl (lv_at hl 0 rfl) ?_
                    refine lv_iload hx hb dX5_silence_82 (lv_at hl 4 rfl) ?_
                    refine x_callV (As := [.int (iI ((t : Nat) : Int))]) (rest := []) ⟨hx, hb, hml, hown, hts⟩ (kX5_dayBut r ik tn j2 Tt ((t : Nat) : Int) (B + (d : Int)) hi2 (by omega) (by omega)) (cwV 1 hts gX5_silence_X5_dayBut rfl rfl rfl ykVX5_dayBut ⟨Nat.le_of_ble_eq_true rfl, Nat.le_of_ble_eq_true rfl⟩) hP hK hD hS 0 4 rfl rfl rfl [0, 1] rfl (by decide) (fun _ => rfl) (fun u => wRo r ik tn u.2 ++ (wA cI (r 1) 100 u.1 ++ (wA cI (r 2) 100 K ++ (wA cI (r 3) 100 X ++ (wA cI (r 4) 100 T ++ (wA cI (r 5) 8 (fR F) ++ (wA cI (r 6) 120 TB ++ (wA cI (r 7) 4 (bR SB) ++ (wA cI (r 8) 4 SS ++ (wA cI (r 9) 160 SN)))))))))) (fun _ => rfl) rfl hl.1 rfl (Nat.le_of_ble_eq_true rfl) dX5_silence_84 ⟨Nat.le_of_ble_eq_true rfl, Nat.le_of_ble_eq_true rfl⟩ (fun u7 H locs hp8 hP hD hS => ?_)
                    obtain ⟨T15, j16⟩ := u7
                    replace hp8 : T15 = dyF ((t : Nat) : Int) Tt := hp8
                    have hP : va_P D vwCl (wRo r ik tn j16 ++ (wA cI (r 1) 100 T15 ++ (wA cI (r 2) 100 K ++ (wA cI (r 3) 100 X ++ (wA cI (r 4) 100 T ++ (wA cI (r 5) 8 (fR F) ++ (wA cI (r 6) 120 TB ++ (wA cI (r 7) 4 (bR SB) ++ (wA cI (r 8) 4 SS ++ (wA cI (r 9) 160 SN)))))))))) H := hP
                    have hD : va_D A (wRo r ik tn j16 ++ (wA cI (r 1) 100 T15 ++ (wA cI (r 2) 100 K ++ (wA cI (r 3) 100 X ++ (wA cI (r 4) 100 T ++ (wA cI (r 5) 8 (fR F) ++ (wA cI (r 6) 120 TB ++ (wA cI (r 7) 4 (bR SB) ++ (wA cI (r 8) 4 SS ++ (wA cI (r 9) 160 SN)))))))))) := hD
                    refine W.eq (g2 := F0 m 87 ls []) rfl ?_
                    refine x_iinc hx hb 5 ((d + 1 : Nat) : Int) (by omega) [(5, .int (iI ((d + 1 : Nat) : Int))), (0, .ref (r 0)), (1, .int (iI ((p0 : Nat) : Int))), (2, .int (iI ((n0 : Nat) : Int))), (3, .int (iI be)), (4, .int (iI ((t : Nat) : Int)))] dX5_silence_87 hl rfl (by decide) rfl (fun ls hl => ?_)
                    refine lv_goto (tgt := 75) hx hb dX5_silence_90 (by decide) ?_
                    exact ih2 (d + 1) T15 j16 _ _ _ (by omega) (run_step hr2 hp8.symm) (by rw [hp8, show B + ((d + 1 : Nat) : Int) = B + (d : Int) + 1 by omega]; exact (dyF_I hi2).1) (by rw [hp8, (dyF_I hi2).2.1]; exact h02) hP hD hS (lv_sub hl [1, 2, 3, 4, 5, 0] rfl)
              exact L75 n0 0 T jt _ _ _ (by omega) rfl (by simpa using hI) rfl hP hD hS (lv_sub hl [1, 2, 3, 4, 5, 0] rfl)
            · have hbc := bc_le t
              have hbc2 := bc_le be.toNat
              refine lv_iload hx hb dX5_silence_60 (lv_at hl 4 rfl) ?_
              refine x_callS (As := [.int (iI ((t : Nat) : Int))]) (rest := []) ⟨hx, hb, hml, hown, hts⟩ (kX5_many t (by omega)) (va_cwS 1 hts gX5_silence_X5_many rfl rfl rfl ykSX5_many ⟨Nat.le_of_ble_eq_true rfl, Nat.le_of_ble_eq_true rfl⟩) hP hK hD hS [] rfl (by decide) (fun _ => rfl) (fun _ => wRo r ik tn jt ++ (wA cI (r 1) 100 T ++ (wA cI (r 2) 100 K ++ (wA cI (r 3) 100 X ++ (wA cI (r 4) 100 T ++ (wA cI (r 5) 8 (fR F) ++ (wA cI (r 6) 120 TB ++ (wA cI (r 7) 4 (bR SB) ++ (wA cI (r 8) 4 SS ++ (wA cI (r 9) 160 SN)))))))))) (fun _ => rfl) rfl hl.1 rfl (Nat.le_of_ble_eq_true rfl) dX5_silence_62 ⟨Nat.le_of_ble_eq_true rfl, Nat.le_of_ble_eq_true rfl⟩ (fun _ H locs _ hP hD hS => ?_)
              refine W.eq (g2 := F0 m 65 ls [.int (iI ((bcF t : Nat) : Int))]) rfl ?_
              refine lv_iload_n hx hb dX5_silence_65 rfl (lv_at hl 3 rfl) ?_
              refine x_topi ((be.toNat : Nat) : Int) (by omega) ?_
              refine x_callS (As := [.int (iI ((be.toNat : Nat) : Int))]) (rest := [.int (iI ((bcF t : Nat) : Int))]) ⟨hx, hb, hml, hown, hts⟩ (kX5_many be.toNat (by omega)) (va_cwS 1 hts gX5_silence_X5_many rfl rfl rfl ykSX5_many ⟨Nat.le_of_ble_eq_true rfl, Nat.le_of_ble_eq_true rfl⟩) hP hK hD hS [] rfl (by decide) (fun _ => rfl) (fun _ => wRo r ik tn jt ++ (wA cI (r 1) 100 T ++ (wA cI (r 2) 100 K ++ (wA cI (r 3) 100 X ++ (wA cI (r 4) 100 T ++ (wA cI (r 5) 8 (fR F) ++ (wA cI (r 6) 120 TB ++ (wA cI (r 7) 4 (bR SB) ++ (wA cI (r 8) 4 SS ++ (wA cI (r 9) 160 SN)))))))))) (fun _ => rfl) rfl hl.1 rfl (Nat.le_of_ble_eq_true rfl) dX5_silence_66 ⟨Nat.le_of_ble_eq_true rfl, Nat.le_of_ble_eq_true rfl⟩ (fun _ H locs _ hP hD hS => ?_)
              refine W.eq (g2 := F0 m 69 ls [.int (iI ((bcF be.toNat : Nat) : Int)), .int (iI ((bcF t : Nat) : Int))]) rfl ?_
              refine x_icmp_ge (tgt := 119) hx hb (by omega) (by omega) dX5_silence_69 (by decide) (fun c_69 => ?_) (fun c_69 => ?_)
              · refine x_iinc hx hb 4 ((t + 1 : Nat) : Int) (by omega) [(4, .int (iI ((t + 1 : Nat) : Int))), (0, .ref (r 0)), (1, .int (iI ((p0 : Nat) : Int))), (2, .int (iI ((n0 : Nat) : Int))), (3, .int (iI be))] dX5_silence_119 hl rfl (by decide) rfl (fun ls hl => ?_)
                refine lv_goto (tgt := 43) hx hb dX5_silence_122 (by decide) ?_
                exact ih (t + 1) T jt be _ _ _ (by omega) (by rw [← hr, siR, if_neg (fun q9 => by omega)]) (by omega) hP hD hS (lv_sub hl [1, 2, 3, 4, 0] rfl)
              · refine x_iconst hx hb dX5_silence_72 ?_
                refine lv_istore (lv' := [(5, .int (iI 0)), (0, .ref (r 0)), (1, .int (iI ((p0 : Nat) : Int))), (2, .int (iI ((n0 : Nat) : Int))), (3, .int (iI be)), (4, .int (iI ((t : Nat) : Int)))]) hx hb dX5_silence_73 hl (by decide) rfl (fun ls hl => ?_)
                have L75 : ∀ (k2 d : Nat) (Tt : Tb) (j2 : Nat → Int) (H : Heap) (locs : List Loc) (ls : Array Slot), d + k2 = n0 → (run (fun _ => dyF ((t : Nat) : Int)) k2 d Tt = dsF ((t : Nat) : Int) n0 T) → (Inv (B + (d : Int)) Tt) → (Tt 0 = T 0) → va_P D vwCl (wRo r ik tn j2 ++ (wA cI (r 1) 100 Tt ++ (wA cI (r 2) 100 K ++ (wA cI (r 3) 100 X ++ (wA cI (r 4) 100 T ++ (wA cI (r 5) 8 (fR F) ++ (wA cI (r 6) 120 TB ++ (wA cI (r 7) 4 (bR SB) ++ (wA cI (r 8) 4 SS ++ (wA cI (r 9) 160 SN)))))))))) H → va_D A (wRo r ik tn j2 ++ (wA cI (r 1) 100 Tt ++ (wA cI (r 2) 100 K ++ (wA cI (r 3) 100 X ++ (wA cI (r 4) 100 T ++ (wA cI (r 5) 8 (fR F) ++ (wA cI (r 6) 120 TB ++ (wA cI (r 7) 4 (bR SB) ++ (wA cI (r 8) 4 SS ++ (wA cI (r 9) 160 SN)))))))))) → va_S A s.heap H locs → lv_has ls 6 [(0, .ref (r 0)), (1, .int (iI ((p0 : Nat) : Int))), (2, .int (iI ((n0 : Nat) : Int))), (3, .int (iI be)), (4, .int (iI ((t : Nat) : Int))), (5, .int (iI ((d : Nat) : Int)))] → W pg l e { frames := 5, cells := 0, slots := 0, locals := 111 } s m args below meth c H locs 0 0 Q (F0 m 75 ls []) := by
                  intro k2
                  induction k2 with
                  | zero =>
                    intro d Tt j2 H locs ls hkd hr2 hi2 h02 hP hD hS hl
                    refine lv_iload hx hb dX5_silence_75 (lv_at hl 5 rfl) ?_
                    refine lv_iload_n hx hb dX5_silence_77 rfl (lv_at hl 2 rfl) ?_
                    refine x_icmp_ge (tgt := 93) hx hb (by omega) (by omega) dX5_silence_78 (by decide) (fun c_78 => ?_) (fun c_78 => ?_)
                    · have lV := Inv_lf (p := p0) hi2 (by omega)
                      refine lv_aload_n hx hb dX5_silence_93 rfl (lv_at hl 0 rfl) ?_
                      refine lv_iload_n hx hb dX5_silence_94 rfl (lv_at hl 1 rfl) ?_
                      refine x_callV (As := [.int (iI ((p0 : Nat) : Int))]) (rest := []) ⟨hx, hb, hml, hown, hts⟩ (kX5_left r ik tn j2 Tt p0 (by omega)) (cwV 1 hts gX5_silence_X5_left rfl rfl rfl ykVX5_left ⟨Nat.le_of_ble_eq_true rfl, Nat.le_of_ble_eq_true rfl⟩) hP hK hD hS 0 4 rfl rfl rfl [0, 1] rfl (by decide) (fun _ => rfl) (fun _ => wRo r ik tn j2 ++ (wA cI (r 1) 100 Tt ++ (wA cI (r 2) 100 K ++ (wA cI (r 3) 100 X ++ (wA cI (r 4) 100 T ++ (wA cI (r 5) 8 (fR F) ++ (wA cI (r 6) 120 TB ++ (wA cI (r 7) 4 (bR SB) ++ (wA cI (r 8) 4 SS ++ (wA cI (r 9) 160 SN)))))))))) (fun _ => rfl) rfl hl.1 rfl (Nat.le_of_ble_eq_true rfl) dX5_silence_95 ⟨Nat.le_of_ble_eq_true rfl, Nat.le_of_ble_eq_true rfl⟩ (fun _ H locs _ hP hD hS => ?_)
                      refine W.eq (g2 := F0 m 98 ls [.int (iI (lfF Tt p0))]) rfl ?_
                      refine x_if_ne (tgt := 106) hx hb (by omega) dX5_silence_98 (by decide) (fun c_98 => ?_) (fun c_98 => ?_)
                      · refine lv_iload_n hx hb dX5_silence_106 rfl (lv_at hl 3 rfl) ?_
                        refine lv_istore_n (lv' := [(3, .int (iI be)), (0, .ref (r 0)), (1, .int (iI ((p0 : Nat) : Int))), (2, .int (iI ((n0 : Nat) : Int))), (4, .int (iI ((t : Nat) : Int))), (5, .int (iI ((d : Nat) : Int)))]) hx hb dX5_silence_107 rfl hl (by decide) rfl (fun ls hl => ?_)
                        refine lv_aload_n hx hb dX5_silence_108 rfl (lv_at hl 1 rfl) ?_
                        refine va_get (D := D) (ci := 4) (v := .ref (r 4)) (C := RX5) (T := TX5) (N := 18) hx hb hts (iT_X5_silence_X5) hown hK hP 0 rfl rfl 3 (by decide) (hts (.fieldLink RX5 19 "WordSupperModel" "aside" "[I") (by decide +kernel)) (fun _ h9 => h9) rfl dX5_silence_109 ?_
                        refine lv_aload_n hx hb dX5_silence_112 rfl (lv_at hl 1 rfl) ?_
                        refine va_get (D := D) (ci := 4) (v := .ref (r 1)) (C := RX5) (T := TX5) (N := 18) hx hb hts (iT_X5_silence_X5) hown hK hP 0 rfl rfl 0 (by decide) (hts (.fieldLink RX5 7 "WordSupperModel" "s" "[I") (by decide +kernel)) (fun _ h9 => h9) rfl dX5_silence_113 ?_
                        refine x_callS (As := [.ref (r 4), .ref (r 1)]) (rest := []) ⟨hx, hb, hml, hown, hts⟩ (kX5_copyRow (r 4) T (r 1) Tt ) (va_cwS 2 hts gX5_silence_X5_copyRow rfl rfl rfl ykSX5_copyRow ⟨Nat.le_of_ble_eq_true rfl, Nat.le_of_ble_eq_true rfl⟩) hP hK hD hS [4, 1] rfl (by decide) (fun _ => rfl) (fun _ => wRo r ik tn j2 ++ (wA cI (r 1) 100 T ++ (wA cI (r 2) 100 K ++ (wA cI (r 3) 100 X ++ (wA cI (r 4) 100 T ++ (wA cI (r 5) 8 (fR F) ++ (wA cI (r 6) 120 TB ++ (wA cI (r 7) 4 (bR SB) ++ (wA cI (r 8) 4 SS ++ (wA cI (r 9) 160 SN)))))))))) (fun _ => rfl) rfl hl.1 rfl (Nat.le_of_ble_eq_true rfl) dX5_silence_116 ⟨Nat.le_of_ble_eq_true rfl, Nat.le_of_ble_eq_true rfl⟩ (fun _ H locs _ hP hD hS => ?_)
                        refine W.eq (g2 := F0 m 119 ls []) rfl ?_
                        refine x_iinc hx hb 4 ((t + 1 : Nat) : Int) (by omega) [(4, .int (iI ((t + 1 : Nat) : Int))), (3, .int (iI be)), (0, .ref (r 0)), (1, .int (iI ((p0 : Nat) : Int))), (2, .int (iI ((n0 : Nat) : Int))), (5, .int (iI ((d : Nat) : Int)))] dX5_silence_119 hl rfl (by decide) rfl (fun ls hl => ?_)
                        refine lv_goto (tgt := 43) hx hb dX5_silence_122 (by decide) ?_
                        exact ih (t + 1) T j2 be _ _ _ (by omega) (by rw [← hr, siR, if_neg (fun q9 => by have q8 := q9.2; rw [← hr2] at q8; have q7 : lfF Tt p0 = 0 := q8; omega)]) (by omega) hP hD hS (lv_sub hl [2, 3, 4, 1, 0] rfl)
                      · refine lv_iload hx hb dX5_silence_101 (lv_at hl 4 rfl) ?_
                        refine lv_goto (tgt := 107) hx hb dX5_silence_103 (by decide) ?_
                        refine lv_istore_n (lv' := [(3, .int (iI ((t : Nat) : Int))), (0, .ref (r 0)), (1, .int (iI ((p0 : Nat) : Int))), (2, .int (iI ((n0 : Nat) : Int))), (4, .int (iI ((t : Nat) : Int))), (5, .int (iI ((d : Nat) : Int)))]) hx hb dX5_silence_107 rfl hl (by decide) rfl (fun ls hl => ?_)
                        refine lv_aload_n hx hb dX5_silence_108 rfl (lv_at hl 1 rfl) ?_
                        refine va_get (D := D) (ci := 4) (v := .ref (r 4)) (C := RX5) (T := TX5) (N := 18) hx hb hts (iT_X5_silence_X5) hown hK hP 0 rfl rfl 3 (by decide) (hts (.fieldLink RX5 19 "WordSupperModel" "aside" "[I") (by decide +kernel)) (fun _ h9 => h9) rfl dX5_silence_109 ?_
                        refine lv_aload_n hx hb dX5_silence_112 rfl (lv_at hl 1 rfl) ?_
                        refine va_get (D := D) (ci := 4) (v := .ref (r 1)) (C := RX5) (T := TX5) (N := 18) hx hb hts (iT_X5_silence_X5) hown hK hP 0 rfl rfl 0 (by decide) (hts (.fieldLink RX5 7 "WordSupperModel" "s" "[I") (by decide +kernel)) (fun _ h9 => h9) rfl dX5_silence_113 ?_
                        refine x_callS (As := [.ref (r 4), .ref (r 1)]) (rest := []) ⟨hx, hb, hml, hown, hts⟩ (kX5_copyRow (r 4) T (r 1) Tt ) (va_cwS 2 hts gX5_silence_X5_copyRow rfl rfl rfl ykSX5_copyRow ⟨Nat.le_of_ble_eq_true rfl, Nat.le_of_ble_eq_true rfl⟩) hP hK hD hS [4, 1] rfl (by decide) (fun _ => rfl) (fun _ => wRo r ik tn j2 ++ (wA cI (r 1) 100 T ++ (wA cI (r 2) 100 K ++ (wA cI (r 3) 100 X ++ (wA cI (r 4) 100 T ++ (wA cI (r 5) 8 (fR F) ++ (wA cI (r 6) 120 TB ++ (wA cI (r 7) 4 (bR SB) ++ (wA cI (r 8) 4 SS ++ (wA cI (r 9) 160 SN)))))))))) (fun _ => rfl) rfl hl.1 rfl (Nat.le_of_ble_eq_true rfl) dX5_silence_116 ⟨Nat.le_of_ble_eq_true rfl, Nat.le_of_ble_eq_true rfl⟩ (fun _ H locs _ hP hD hS => ?_)
                        refine W.eq (g2 := F0 m 119 ls []) rfl ?_
                        refine x_iinc hx hb 4 ((t + 1 : Nat) : Int) (by omega) [(4, .int (iI ((t + 1 : Nat) : Int))), (3, .int (iI ((t : Nat) : Int))), (0, .ref (r 0)), (1, .int (iI ((p0 : Nat) : Int))), (2, .int (iI ((n0 : Nat) : Int))), (5, .int (iI ((d : Nat) : Int)))] dX5_silence_119 hl rfl (by decide) rfl (fun ls hl => ?_)
                        refine lv_goto (tgt := 43) hx hb dX5_silence_122 (by decide) ?_
                        exact ih (t + 1) T j2 ((t : Nat) : Int) _ _ _ (by omega) (by rw [← hr, siR, if_pos ⟨by omega, by rw [← hr2]; show lfF Tt p0 = 0; omega⟩]) (by omega) hP hD hS (lv_sub hl [2, 3, 4, 1, 0] rfl)
                    · exfalso; omega
                  | succ k2 ih2 =>
                    intro d Tt j2 H locs ls hkd hr2 hi2 h02 hP hD hS hl
                    refine lv_iload hx hb dX5_silence_75 (lv_at hl 5 rfl) ?_
                    refine lv_iload_n hx hb dX5_silence_77 rfl (lv_at hl 2 rfl) ?_
                    refine x_icmp_ge (tgt := 93) hx hb (by omega) (by omega) dX5_silence_78 (by decide) (fun c_78 => ?_) (fun c_78 => ?_)
                    · exfalso; omega
                    · refine lv_aload_n hx hb dX5_silence_81 rfl (lv_at hl 0 rfl) ?_
                      refine lv_iload hx hb dX5_silence_82 (lv_at hl 4 rfl) ?_
                      refine x_callV (As := [.int (iI ((t : Nat) : Int))]) (rest := []) ⟨hx, hb, hml, hown, hts⟩ (kX5_dayBut r ik tn j2 Tt ((t : Nat) : Int) (B + (d : Int)) hi2 (by omega) (by omega)) (cwV 1 hts gX5_silence_X5_dayBut rfl rfl rfl ykVX5_dayBut ⟨Nat.le_of_ble_eq_true rfl, Nat.le_of_ble_eq_true rfl⟩) hP hK hD hS 0 4 rfl rfl rfl [0, 1] rfl (by decide) (fun _ => rfl) (fun u => wRo r ik tn u.2 ++ (wA cI (r 1) 100 u.1 ++ (wA cI (r 2) 100 K ++ (wA cI (r 3) 100 X ++ (wA cI (r 4) 100 T ++ (wA cI (r 5) 8 (fR F) ++ (wA cI (r 6) 120 TB ++ (wA cI (r 7) 4 (bR SB) ++ (wA cI (r 8) 4 SS ++ (wA cI (r 9) 160 SN)))))))))) (fun _ => rfl) rfl hl.1 rfl (Nat.le_of_ble_eq_true rfl) dX5_silence_84 ⟨Nat.le_of_ble_eq_true rfl, Nat.le_of_ble_eq_true rfl⟩ (fun u11 H locs hp12 hP hD hS => ?_)
                      obtain ⟨T19, j110⟩ := u11
                      replace hp12 : T19 = dyF ((t : Nat) : Int) Tt := hp12
                      have hP : va_P D vwCl (wRo r ik tn j110 ++ (wA cI (r 1) 100 T19 ++ (wA cI (r 2) 100 K ++ (wA cI (r 3) 100 X ++ (wA cI (r 4) 100 T ++ (wA cI (r 5) 8 (fR F) ++ (wA cI (r 6) 120 TB ++ (wA cI (r 7) 4 (bR SB) ++ (wA cI (r 8) 4 SS ++ (wA cI (r 9) 160 SN)))))))))) H := hP
                      have hD : va_D A (wRo r ik tn j110 ++ (wA cI (r 1) 100 T19 ++ (wA cI (r 2) 100 K ++ (wA cI (r 3) 100 X ++ (wA cI (r 4) 100 T ++ (wA cI (r 5) 8 (fR F) ++ (wA cI (r 6) 120 TB ++ (wA cI (r 7) 4 (bR SB) ++ (wA cI (r 8) 4 SS ++ (wA cI (r 9) 160 SN)))))))))) := hD
                      refine W.eq (g2 := F0 m 87 ls []) rfl ?_
                      refine x_iinc hx hb 5 ((d + 1 : Nat) : Int) (by omega) [(5, .int (iI ((d + 1 : Nat) : Int))), (0, .ref (r 0)), (1, .int (iI ((p0 : Nat) : Int))), (2, .int (iI ((n0 : Nat) : Int))), (3, .int (iI be)), (4, .int (iI ((t : Nat) : Int)))] dX5_silence_87 hl rfl (by decide) rfl (fun ls hl => ?_)
                      refine lv_goto (tgt := 75) hx hb dX5_silence_90 (by decide) ?_
                      exact ih2 (d + 1) T19 j110 _ _ _ (by omega) (run_step hr2 hp12.symm) (by rw [hp12, show B + ((d + 1 : Nat) : Int) = B + (d : Int) + 1 by omega]; exact (dyF_I hi2).1) (by rw [hp12, (dyF_I hi2).2.1]; exact h02) hP hD hS (lv_sub hl [1, 2, 3, 4, 5, 0] rfl)
                exact L75 n0 0 T jt _ _ _ (by omega) rfl (by simpa using hI) rfl hP hD hS (lv_sub hl [1, 2, 3, 4, 5, 0] rfl)
      exact L43 (2 ^ (T 0).toNat) 0 T j (-1) _ _ _ (by omega) rfl (by decide) hP hD hS (lv_sub hl [2, 3, 4, 1, 0] rfl)
    · refine lv_aload_n hx hb dX5_silence_20 rfl (lv_at hl 0 rfl) ?_
      refine x_ldc hx hb (-1000001) rfl hown (hts (.constant RX5 37 (-1000001)) (by decide +kernel)) dX5_silence_21 ?_
      refine x_callV (As := [.int (iI (-1000001))]) (rest := []) ⟨hx, hb, hml, hown, hts⟩ (kX5_finds r ik tn j F (-1000001) 0 (by omega) (by omega)) (cwV 1 hts gX5_silence_X5_finds rfl rfl rfl ykVX5_finds ⟨Nat.le_of_ble_eq_true rfl, Nat.le_of_ble_eq_true rfl⟩) hP hK hD hS 0 4 rfl rfl rfl [0, 5] rfl (by decide) (fun _ => rfl) (fun _ => wRo r ik tn j ++ (wA cI (r 1) 100 T ++ (wA cI (r 2) 100 K ++ (wA cI (r 3) 100 X ++ (wA cI (r 4) 100 Y ++ (wA cI (r 5) 8 (fR (bmp 0 F)) ++ (wA cI (r 6) 120 TB ++ (wA cI (r 7) 4 (bR SB) ++ (wA cI (r 8) 4 SS ++ (wA cI (r 9) 160 SN)))))))))) (fun _ => rfl) rfl hl.1 rfl (Nat.le_of_ble_eq_true rfl) dX5_silence_23 ⟨Nat.le_of_ble_eq_true rfl, Nat.le_of_ble_eq_true rfl⟩ (fun _ H locs _ hP hD hS => ?_)
      refine W.eq (g2 := F0 m 26 ls [.int (iI (-1000001))]) rfl ?_
      exact kend (((-1000001), T, K, ik, SB, SS, SN, tn, TB, (bmp 0 F)), X, Y, j) hP hS rfl (if_neg (by omega)).symm dX5_silence_26
