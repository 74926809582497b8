theorem bc_le (s : Nat) : bcF s ≤ 9 := by unfold bcF; omega
theorem ykSX4_silence : yX4_silence.cls ≠ "java/lang/invoke/MethodHandle" ∧ yX4_silence.cls ≠ "java/lang/invoke/VarHandle" ∧ (parseMethodDescriptor yX4_silence.desc).map (fun d => d.parameters.length) = some 2 := by decide +kernel
theorem ykVX4_silence : yX4_silence.cls = RX4 ∧ yX4_silence.cls ≠ "java/lang/invoke/MethodHandle" ∧ yX4_silence.cls ≠ "java/lang/invoke/VarHandle" ∧ (parseMethodDescriptor yX4_silence.desc).map (fun d => d.parameters.length) = some 2 := ⟨rfl, ykSX4_silence⟩
set_option maxRecDepth 20000 in
theorem iT_X4_silence_X4 : ∀ w ∈ u_ws RX4 TX4 7, w ∈ wsX4_silence := by decide +kernel
set_option maxRecDepth 20000 in
theorem iT_X4_silence_X2 : ∀ w ∈ u_ws RX2 TX2 12, w ∈ wsX4_silence := by decide +kernel
set_option maxHeartbeats 4000000 in
set_option maxRecDepth 100000 in
theorem kX4_silence {l : Launch} {D : va_G} {cI cB : ClassId} (x f : Nat) (q kq vq h g : Nat → Nat) (T K : Tb) (ik : Int) (SB SS SN : Nat → Int) (tn : Int) (TB F : Nat → Int) (V : Tb) (jc : Nat → Int) (sp n : Int) (B : Int) (hG : GI B T K ik SB SS SN tn TB F) (hB : B ≤ 40000) (h_sp : rI sp) (h_n : rI n) : Ct l yX4_silence wsX4_silence 6 137 D [(cI, .int), (cB, .byte)] [.ref x, .int (iI sp), .int (iI n)] (wC cI cB x f q kq vq h g (T, K, ik, SB, SS, SN, tn, TB, F) V jc) (S := (Int × Gs) × Tb × (Nat → Int)) (fun u => some (.int (iI u.1.1))) (fun u => u.1 = m_silence sp n T K ik SB SS SN tn TB F) (fun u => wC cI cB x f q kq vq h g u.1.2 u.2.1 u.2.2) := by
  refine CtI.of (cc := cX4_silence) (maxL := 6) (by decide +kernel) rfl (Nat.le_of_ble_eq_true rfl) ?_
  intro pg e s m args below meth c Q A hx hb hml hts hown hP hK hD hS ls hl kend
  have hown : s.vm.findClass RX4 = some m.cls := hown
  have hl : lv_has ls 6 [(0, .ref x), (1, .int (iI sp)), (2, .int (iI n))] := hl
  obtain ⟨hI, hIK, hik, hSB, hSS, hSN, htn, hTB, hF⟩ := id hG
  have hn := Inv_n hI
  have hdy := Inv_d hI
  have hP : va_P D vwCl (wObj x f q kq vq h g ik ++ (wTab cI q T (jc 0) ++ (wTab cI kq K (jc 1) ++ (wTab cI vq V (jc 2) ++ (wSh cI h SB SS SN ++ (wTp cB g tn TB jc ++ (wA cI f 7 F))))))) s.heap := hP
  have hD : va_D A (wObj x f q kq vq h g ik ++ (wTab cI q T (jc 0) ++ (wTab cI kq K (jc 1) ++ (wTab cI vq V (jc 2) ++ (wSh cI h SB SS SN ++ (wTp cB g tn TB jc ++ (wA cI f 7 F))))))) := hD
  refine lv_aload_n hx hb dX4_silence_0 rfl (lv_at hl 0 rfl) ?_
  refine va_get (D := D) (ci := 3) (v := .ref (q 0)) (C := RX4) (T := TX4) (N := 7) hx hb hts (iT_X4_silence_X4) hown hK hP 0 rfl rfl 0 (by decide) (hts (.fieldLink RX4 10 "WordSupper" "table" "LWordSupper$Table;") (by decide +kernel)) (fun _ h9 => h9) rfl dX4_silence_1 ?_
  refine lv_iload_n hx hb dX4_silence_4 rfl (lv_at hl 1 rfl) ?_
  refine x_callV (As := [.int (iI sp)]) (rest := []) ⟨hx, hb, hml, hown, hts⟩ (kX2_isSeat q T (jc 0) sp (by omega) (by omega)) (cwV 1 hts gX4_silence_X2_isSeat rfl rfl rfl ykVX2_isSeat ⟨Nat.le_of_ble_eq_true rfl, Nat.le_of_ble_eq_true rfl⟩) hP hK hD hS 1 1 rfl rfl rfl [1, 2, 3, 4, 5, 6, 7, 8] rfl (by decide) (fun _ => rfl) (fun _ => wObj x f q kq vq h g ik ++ (wTab cI q T (jc 0) ++ (wTab cI kq K (jc 1) ++ (wTab cI vq V (jc 2) ++ (wSh cI h SB SS SN ++ (wTp cB g tn TB jc ++ (wA cI f 7 F))))))) (fun _ => rfl) rfl hl.1 rfl (Nat.le_of_ble_eq_true rfl) dX4_silence_5 ⟨Nat.le_of_ble_eq_true rfl, Nat.le_of_ble_eq_true rfl⟩ (fun _ H locs _ hP hD hS => ?_)
  refine W.eq (g2 := F0 m 8 ls [.int (iI (b2 (decide (0 ≤ sp ∧ sp < T 0))))]) rfl ?_
  refine x_ifb_eq (tgt := 21) hx hb dX4_silence_8 (by decide) (fun c_8 => ?_) (fun c_8 => ?_)
  · refine lv_aload_n hx hb dX4_silence_21 rfl (lv_at hl 0 rfl) ?_
    refine x_ldc hx hb (-1000001) rfl hown (hts (.constant RX4 44 (-1000001)) (by decide +kernel)) dX4_silence_22 ?_
    refine x_callV (As := [.int (iI (-1000001))]) (rest := []) ⟨hx, hb, hml, hown, hts⟩ (kX4_finding x f q kq vq h g ik F (-1000001) 0 (by omega) (by omega)) (cwV 1 hts gX4_silence_X4_finding rfl rfl rfl ykVX4_finding ⟨Nat.le_of_ble_eq_true rfl, Nat.le_of_ble_eq_true rfl⟩) hP hK hD hS 0 3 rfl rfl rfl [0, 31] rfl (by decide) (fun _ => rfl) (fun _ => wObj x f q kq vq h g ik ++ (wTab cI q T (jc 0) ++ (wTab cI kq K (jc 1) ++ (wTab cI vq V (jc 2) ++ (wSh cI h SB SS SN ++ (wTp cB g tn TB jc ++ (wA cI f 7 (bmp 0 F)))))))) (fun _ => rfl) rfl hl.1 rfl (Nat.le_of_ble_eq_true rfl) dX4_silence_24 ⟨Nat.le_of_ble_eq_true rfl, Nat.le_of_ble_eq_true rfl⟩ (fun _ H locs _ hP hD hS => ?_)
    refine W.eq (g2 := F0 m 27 ls [.int (iI (-1000001))]) rfl ?_
    exact kend (((-1000001), T, K, ik, SB, SS, SN, tn, TB, (bmp 0 F)), V, jc) hP hS rfl (if_neg (by omega)).symm dX4_silence_27
  · refine lv_iload_n hx hb dX4_silence_11 rfl (lv_at hl 2 rfl) ?_
    refine x_iconst hx hb dX4_silence_12 ?_
    refine x_bipush hx hb dX4_silence_13 (by decide) ?_
    refine x_callS (As := [.int (iI n), .int (iI 0), .int (iI 12)]) (rest := []) ⟨hx, hb, hml, hown, hts⟩ (kX4_isWithin n 0 12 (by omega) (by decide) (by decide)) (va_cwS 3 hts gX4_silence_X4_isWithin rfl rfl rfl ykSX4_isWithin ⟨Nat.le_of_ble_eq_true rfl, Nat.le_of_ble_eq_true rfl⟩) hP hK hD hS [] rfl (by decide) (fun _ => rfl) (fun _ => wObj x f q kq vq h g ik ++ (wTab cI q T (jc 0) ++ (wTab cI kq K (jc 1) ++ (wTab cI vq V (jc 2) ++ (wSh cI h SB SS SN ++ (wTp cB g tn TB jc ++ (wA cI f 7 F))))))) (fun _ => rfl) rfl hl.1 rfl (Nat.le_of_ble_eq_true rfl) dX4_silence_15 ⟨Nat.le_of_ble_eq_true rfl, Nat.le_of_ble_eq_true rfl⟩ (fun _ H locs _ hP hD hS => ?_)
    refine W.eq (g2 := F0 m 18 ls [.int (iI (b2 (decide (0 ≤ n ∧ n ≤ 12))))]) rfl ?_
    refine x_ifb_ne (tgt := 28) hx hb dX4_silence_18 (by decide) (fun c_18 => ?_) (fun c_18 => ?_)
    · obtain ⟨p0, rfl⟩ : ∃ p0 : Nat, sp = (p0 : Int) := ⟨sp.toNat, by omega⟩
      obtain ⟨n0, rfl⟩ : ∃ n0 : Nat, n = (n0 : Int) := ⟨n.toNat, by omega⟩
      refine x_iconst hx hb dX4_silence_28 ?_
      refine lv_aload_n hx hb dX4_silence_29 rfl (lv_at hl 0 rfl) ?_
      refine va_get (D := D) (ci := 3) (v := .ref (q 0)) (C := RX4) (T := TX4) (N := 7) hx hb hts (iT_X4_silence_X4) hown hK hP 0 rfl rfl 0 (by decide) (hts (.fieldLink RX4 10 "WordSupper" "table" "LWordSupper$Table;") (by decide +kernel)) (fun _ h9 => h9) rfl dX4_silence_30 ?_
      refine va_get (D := D) (ci := 1) (v := .int (iI (T 0))) (C := RX2) (T := TX2) (N := 12) hx hb hts (iT_X4_silence_X2) hown hK hP 1 rfl rfl 3 (by decide) (hts (.fieldLink RX4 152 "WordSupper$Table" "seats" "I") (by decide +kernel)) (fun _ h9 => h9) rfl dX4_silence_33 ?_
      refine x_ishl hx hb dX4_silence_36 ?_
      refine x_topi (((2 ^ (T 0).toNat) : Nat) : Int) (sh_1 (by omega)) ?_
      refine lv_istore_n (lv' := [(3, .int (iI (((2 ^ (T 0).toNat) : Nat) : Int))), (0, .ref x), (1, .int (iI ((p0 : Nat) : Int))), (2, .int (iI ((n0 : Nat) : Int)))]) hx hb dX4_silence_37 rfl hl (by decide) rfl (fun ls hl => ?_)
      have h256 := p2_le (show (T 0).toNat ≤ 8 by omega)
      refine x_iconst hx hb dX4_silence_38 ?_
      refine lv_istore (lv' := [(4, .int (iI 0)), (3, .int (iI (((2 ^ (T 0).toNat) : Nat) : Int))), (0, .ref x), (1, .int (iI ((p0 : Nat) : Int))), (2, .int (iI ((n0 : Nat) : Int)))]) hx hb dX4_silence_39 hl (by decide) rfl (fun ls hl => ?_)
      have L41 : ∀ (k t : Nat) (Vt : Tb) (bt : Int) (H : Heap) (locs : List Loc) (ls : Array Slot), t + k = (T 0).toNat + 1 → (siF n0 p0 (2 ^ (T 0).toNat) T k t = siF n0 p0 (2 ^ (T 0).toNat) T ((T 0).toNat + 1) 0) → va_P D vwCl (wObj x f q kq vq h g ik ++ (wTab cI q T (jc 0) ++ (wTab cI kq K (jc 1) ++ (wTab cI vq Vt bt ++ (wSh cI h SB SS SN ++ (wTp cB g tn TB jc ++ (wA cI f 7 F))))))) H → va_D A (wObj x f q kq vq h g ik ++ (wTab cI q T (jc 0) ++ (wTab cI kq K (jc 1) ++ (wTab cI vq Vt bt ++ (wSh cI h SB SS SN ++ (wTp cB g tn TB jc ++ (wA cI f 7 F))))))) → va_S A s.heap H locs → lv_has ls 6 [(0, .ref x), (1, .int (iI ((p0 : Nat) : Int))), (2, .int (iI ((n0 : Nat) : Int))), (3, .int (iI (((2 ^ (T 0).toNat) : Nat) : Int))), (4, .int (iI ((t : Nat) : Int)))] → W pg l e { frames := 6, cells := 0, slots := 0, locals := 137 } s m args below meth c H locs 0 0 Q (F0 m 41 ls []) := by
        intro k
        induction k with
        | zero =>
          intro t Vt bt H locs ls hkt hr hP hD hS hl
          refine lv_iload hx hb dX4_silence_41 (lv_at hl 4 rfl) ?_
          refine lv_aload_n hx hb dX4_silence_43 rfl (lv_at hl 0 rfl) ?_
          refine va_get (D := D) (ci := 3) (v := .ref (q 0)) (C := RX4) (T := TX4) (N := 7) hx hb hts (iT_X4_silence_X4) hown hK hP 0 rfl rfl 0 (by decide) (hts (.fieldLink RX4 10 "WordSupper" "table" "LWordSupper$Table;") (by decide +kernel)) (fun _ h9 => h9) rfl dX4_silence_44 ?_
          refine va_get (D := D) (ci := 1) (v := .int (iI (T 0))) (C := RX2) (T := TX2) (N := 12) hx hb hts (iT_X4_silence_X2) hown hK hP 1 rfl rfl 3 (by decide) (hts (.fieldLink RX4 152 "WordSupper$Table" "seats" "I") (by decide +kernel)) (fun _ h9 => h9) rfl dX4_silence_47 ?_
          refine x_icmp_gt (tgt := 122) hx hb (by omega) (by omega) dX4_silence_50 (by decide) (fun c_50 => ?_) (fun c_50 => ?_)
          · refine lv_aload_n hx hb dX4_silence_122 rfl (lv_at hl 0 rfl) ?_
            refine x_ldc hx hb (-1000004) rfl hown (hts (.constant RX4 151 (-1000004)) (by decide +kernel)) dX4_silence_123 ?_
            refine x_callV (As := [.int (iI (-1000004))]) (rest := []) ⟨hx, hb, hml, hown, hts⟩ (kX4_finding x f q kq vq h g ik F (-1000004) 3 (by omega) (by omega)) (cwV 1 hts gX4_silence_X4_finding rfl rfl rfl ykVX4_finding ⟨Nat.le_of_ble_eq_true rfl, Nat.le_of_ble_eq_true rfl⟩) hP hK hD hS 0 3 rfl rfl rfl [0, 31] rfl (by decide) (fun _ => rfl) (fun _ => wObj x f q kq vq h g ik ++ (wTab cI q T (jc 0) ++ (wTab cI kq K (jc 1) ++ (wTab cI vq Vt bt ++ (wSh cI h SB SS SN ++ (wTp cB g tn TB jc ++ (wA cI f 7 (bmp 3 F)))))))) (fun _ => rfl) rfl hl.1 rfl (Nat.le_of_ble_eq_true rfl) dX4_silence_125 ⟨Nat.le_of_ble_eq_true rfl, Nat.le_of_ble_eq_true rfl⟩ (fun _ H locs _ hP hD hS => ?_)
            refine W.eq (g2 := F0 m 128 ls [.int (iI (-1000004))]) rfl ?_
            exact kend (((-1000004), T, K, ik, SB, SS, SN, tn, TB, (bmp 3 F)), Vt, va_up jc 2 bt) hP hS rfl (si_no (by omega) hr.symm) dX4_silence_128
          · exfalso; omega
        | succ k ih =>
          intro t Vt bt H locs ls hkt hr hP hD hS hl
          refine lv_iload hx hb dX4_silence_41 (lv_at hl 4 rfl) ?_
          refine lv_aload_n hx hb dX4_silence_43 rfl (lv_at hl 0 rfl) ?_
          refine va_get (D := D) (ci := 3) (v := .ref (q 0)) (C := RX4) (T := TX4) (N := 7) hx hb hts (iT_X4_silence_X4) hown hK hP 0 rfl rfl 0 (by decide) (hts (.fieldLink RX4 10 "WordSupper" "table" "LWordSupper$Table;") (by decide +kernel)) (fun _ h9 => h9) rfl dX4_silence_44 ?_
          refine va_get (D := D) (ci := 1) (v := .int (iI (T 0))) (C := RX2) (T := TX2) (N := 12) hx hb hts (iT_X4_silence_X2) hown hK hP 1 rfl rfl 3 (by decide) (hts (.fieldLink RX4 152 "WordSupper$Table" "seats" "I") (by decide +kernel)) (fun _ h9 => h9) rfl dX4_silence_47 ?_
          refine x_icmp_gt (tgt := 122) hx hb (by omega) (by omega) dX4_silence_50 (by decide) (fun c_50 => ?_) (fun c_50 => ?_)
          · exfalso; omega
          · refine x_iconst hx hb dX4_silence_53 ?_
            refine lv_istore (lv' := [(5, .int (iI 0)), (0, .ref x), (1, .int (iI ((p0 : Nat) : Int))), (2, .int (iI ((n0 : Nat) : Int))), (3, .int (iI (((2 ^ (T 0).toNat) : Nat) : Int))), (4, .int (iI ((t : Nat) : Int)))]) hx hb dX4_silence_54 hl (by decide) rfl (fun ls hl => ?_)
            have L56 : ∀ (k2 cw : Nat) (V2 : Tb) (b2 : Int) (H : Heap) (locs : List Loc) (ls : Array Slot), cw + k2 = (2 ^ (T 0).toNat) → (siG n0 p0 t T k2 cw = siG n0 p0 t T (2 ^ (T 0).toNat) 0) → va_P D vwCl (wObj x f q kq vq h g ik ++ (wTab cI q T (jc 0) ++ (wTab cI kq K (jc 1) ++ (wTab cI vq V2 b2 ++ (wSh cI h SB SS SN ++ (wTp cB g tn TB jc ++ (wA cI f 7 F))))))) H → va_D A (wObj x f q kq vq h g ik ++ (wTab cI q T (jc 0) ++ (wTab cI kq K (jc 1) ++ (wTab cI vq V2 b2 ++ (wSh cI h SB SS SN ++ (wTp cB g tn TB jc ++ (wA cI f 7 F))))))) → va_S A s.heap H locs → lv_has ls 6 [(0, .ref x), (1, .int (iI ((p0 : Nat) : Int))), (2, .int (iI ((n0 : Nat) : Int))), (3, .int (iI (((2 ^ (T 0).toNat) : Nat) : Int))), (4, .int (iI ((t : Nat) : Int))), (5, .int (iI ((cw : Nat) : Int)))] → W pg l e { frames := 6, cells := 0, slots := 0, locals := 137 } s m args below meth c H locs 0 0 Q (F0 m 56 ls []) := by
              intro k2
              induction k2 with
              | zero =>
                intro cw V2 b2 H locs ls hkc hr2 hP hD hS hl
                refine lv_iload hx hb dX4_silence_56 (lv_at hl 5 rfl) ?_
                refine lv_iload_n hx hb dX4_silence_58 rfl (lv_at hl 3 rfl) ?_
                refine x_icmp_ge (tgt := 116) hx hb (by omega) (by omega) dX4_silence_59 (by decide) (fun c_59 => ?_) (fun c_59 => ?_)
                · refine x_iinc hx hb 4 ((t + 1 : Nat) : Int) (by omega) [(4, .int (iI ((t + 1 : Nat) : Int))), (0, .ref x), (1, .int (iI ((p0 : Nat) : Int))), (2, .int (iI ((n0 : Nat) : Int))), (3, .int (iI (((2 ^ (T 0).toNat) : Nat) : Int))), (5, .int (iI ((cw : Nat) : Int)))] dX4_silence_116 hl rfl (by decide) rfl (fun ls hl => ?_)
                  refine lv_goto (tgt := 41) hx hb dX4_silence_119 (by decide) ?_
                  exact ih (t + 1) V2 b2 _ _ _ (by omega) (by rw [← hr, siF, if_neg (by rw [← hr2]; show ¬ (0 : Int) ≤ -1; decide)]) hP hD hS (lv_sub hl [1, 2, 3, 4, 0] rfl)
                · exfalso; omega
              | succ k2 ih2 =>
                intro cw V2 b2 H locs ls hkc hr2 hP hD hS hl
                refine lv_iload hx hb dX4_silence_56 (lv_at hl 5 rfl) ?_
                refine lv_iload_n hx hb dX4_silence_58 rfl (lv_at hl 3 rfl) ?_
                refine x_icmp_ge (tgt := 116) hx hb (by omega) (by omega) dX4_silence_59 (by decide) (fun c_59 => ?_) (fun c_59 => ?_)
                · exfalso; omega
                · refine lv_iload hx hb dX4_silence_62 (lv_at hl 5 rfl) ?_
                  refine x_callS (As := [.int (iI ((cw : Nat) : Int))]) (rest := []) ⟨hx, hb, hml, hown, hts⟩ (kJ6_bitCount_0f7a4 cw (by omega)) (va_cwS 1 hts gX4_silence_J6_bitCount_0f7a4 rfl rfl rfl ykSJ6_bitCount_0f7a4 ⟨Nat.le_of_ble_eq_true rfl, Nat.le_of_ble_eq_true rfl⟩) hP hK hD hS [] rfl (by decide) (fun _ => rfl) (fun _ => wObj x f q kq vq h g ik ++ (wTab cI q T (jc 0) ++ (wTab cI kq K (jc 1) ++ (wTab cI vq V2 b2 ++ (wSh cI h SB SS SN ++ (wTp cB g tn TB jc ++ (wA cI f 7 F))))))) (fun _ => rfl) rfl hl.1 rfl (Nat.le_of_ble_eq_true rfl) dX4_silence_64 ⟨Nat.le_of_ble_eq_true rfl, Nat.le_of_ble_eq_true rfl⟩ (fun _ H locs _ hP hD hS => ?_)
                  refine W.eq (g2 := F0 m 67 ls [.int (iI ((bcF cw : Nat) : Int))]) rfl ?_
                  have hbc := bc_le cw
                  refine lv_iload hx hb dX4_silence_67 (lv_at hl 4 rfl) ?_
                  refine x_icmp_eq (tgt := 75) hx hb (by omega) (by omega) dX4_silence_69 (by decide) (fun c_69 => ?_) (fun c_69 => ?_)
                  · refine lv_aload_n hx hb dX4_silence_75 rfl (lv_at hl 0 rfl) ?_
                    refine va_get (D := D) (ci := 3) (v := .ref (vq 0)) (C := RX4) (T := TX4) (N := 7) hx hb hts (iT_X4_silence_X4) hown hK hP 0 rfl rfl 2 (by decide) (hts (.fieldLink RX4 19 "WordSupper" "spare" "LWordSupper$Table;") (by decide +kernel)) (fun _ h9 => h9) rfl dX4_silence_76 ?_
                    refine lv_aload_n hx hb dX4_silence_79 rfl (lv_at hl 0 rfl) ?_
                    refine va_get (D := D) (ci := 3) (v := .ref (q 0)) (C := RX4) (T := TX4) (N := 7) hx hb hts (iT_X4_silence_X4) hown hK hP 0 rfl rfl 0 (by decide) (hts (.fieldLink RX4 10 "WordSupper" "table" "LWordSupper$Table;") (by decide +kernel)) (fun _ h9 => h9) rfl dX4_silence_80 ?_
                    refine x_callV (As := [.ref (q 0)]) (rest := []) ⟨hx, hb, hml, hown, hts⟩ (kX2_become vq V2 b2 q T (jc 0) ) (cwV 1 hts gX4_silence_X2_become rfl rfl rfl ykVX2_become ⟨Nat.le_of_ble_eq_true rfl, Nat.le_of_ble_eq_true rfl⟩) hP hK hD hS 17 1 rfl rfl rfl [17, 18, 19, 20, 21, 22, 23, 24, 1, 2, 3, 4, 5, 6, 7, 8] rfl (by decide) (fun _ => rfl) (fun _ => wObj x f q kq vq h g ik ++ (wTab cI q T (jc 0) ++ (wTab cI kq K (jc 1) ++ (wTab cI vq T b2 ++ (wSh cI h SB SS SN ++ (wTp cB g tn TB jc ++ (wA cI f 7 F))))))) (fun _ => rfl) rfl hl.1 rfl (Nat.le_of_ble_eq_true rfl) dX4_silence_83 ⟨Nat.le_of_ble_eq_true rfl, Nat.le_of_ble_eq_true rfl⟩ (fun _ H locs _ hP hD hS => ?_)
                    refine W.eq (g2 := F0 m 86 ls []) rfl ?_
                    refine lv_aload_n hx hb dX4_silence_86 rfl (lv_at hl 0 rfl) ?_
                    refine va_get (D := D) (ci := 3) (v := .ref (vq 0)) (C := RX4) (T := TX4) (N := 7) hx hb hts (iT_X4_silence_X4) hown hK hP 0 rfl rfl 2 (by decide) (hts (.fieldLink RX4 19 "WordSupper" "spare" "LWordSupper$Table;") (by decide +kernel)) (fun _ h9 => h9) rfl dX4_silence_87 ?_
                    refine lv_iload_n hx hb dX4_silence_90 rfl (lv_at hl 2 rfl) ?_
                    refine lv_iload hx hb dX4_silence_91 (lv_at hl 5 rfl) ?_
                    refine x_callV (As := [.int (iI ((n0 : Nat) : Int)), .int (iI ((cw : Nat) : Int))]) (rest := []) ⟨hx, hb, hml, hown, hts⟩ (kX2_passDays vq T b2 n0 ((cw : Nat) : Int) B hI (by omega) (by omega) (by omega)) (cwV 2 hts gX4_silence_X2_passDays rfl rfl rfl ykVX2_passDays ⟨Nat.le_of_ble_eq_true rfl, Nat.le_of_ble_eq_true rfl⟩) hP hK hD hS 17 1 rfl rfl rfl [17, 18, 19, 20, 21, 22, 23, 24] rfl (by decide) (fun _ => rfl) (fun u => wObj x f q kq vq h g ik ++ (wTab cI q T (jc 0) ++ (wTab cI kq K (jc 1) ++ (wTab cI vq u.1 u.2 ++ (wSh cI h SB SS SN ++ (wTp cB g tn TB jc ++ (wA cI f 7 F))))))) (fun _ => rfl) rfl hl.1 rfl (Nat.le_of_ble_eq_true rfl) dX4_silence_93 ⟨Nat.le_of_ble_eq_true rfl, Nat.le_of_ble_eq_true rfl⟩ (fun u3 H locs hp4 hP hD hS => ?_)
                    obtain ⟨T11, b12⟩ := u3
                    replace hp4 : T11 = dsF ((cw : Nat) : Int) n0 T := hp4
                    have hP : va_P D vwCl (wObj x f q kq vq h g ik ++ (wTab cI q T (jc 0) ++ (wTab cI kq K (jc 1) ++ (wTab cI vq T11 b12 ++ (wSh cI h SB SS SN ++ (wTp cB g tn TB jc ++ (wA cI f 7 F))))))) H := hP
                    have hD : va_D A (wObj x f q kq vq h g ik ++ (wTab cI q T (jc 0) ++ (wTab cI kq K (jc 1) ++ (wTab cI vq T11 b12 ++ (wSh cI h SB SS SN ++ (wTp cB g tn TB jc ++ (wA cI f 7 F))))))) := hD
                    refine W.eq (g2 := F0 m 96 ls []) rfl ?_
                    have iV : Inv (B + (n0 : Int)) T11 := by rw [hp4]; exact (dsF_I n0 hI).1
                    have nV : T11 0 = T 0 := by rw [hp4, (dsF_I n0 hI).2.1]
                    have lV := Inv_lf (p := p0) iV (by omega)
                    refine lv_aload_n hx hb dX4_silence_96 rfl (lv_at hl 0 rfl) ?_
                    refine va_get (D := D) (ci := 3) (v := .ref (vq 0)) (C := RX4) (T := TX4) (N := 7) hx hb hts (iT_X4_silence_X4) hown hK hP 0 rfl rfl 2 (by decide) (hts (.fieldLink RX4 19 "WordSupper" "spare" "LWordSupper$Table;") (by decide +kernel)) (fun _ h9 => h9) rfl dX4_silence_97 ?_
                    refine lv_iload_n hx hb dX4_silence_100 rfl (lv_at hl 1 rfl) ?_
                    refine x_callV (As := [.int (iI ((p0 : Nat) : Int))]) (rest := []) ⟨hx, hb, hml, hown, hts⟩ (kX2_left vq T11 b12 p0 (by omega)) (cwV 1 hts gX4_silence_X2_left rfl rfl rfl ykVX2_left ⟨Nat.le_of_ble_eq_true rfl, Nat.le_of_ble_eq_true rfl⟩) hP hK hD hS 17 1 rfl rfl rfl [17, 18, 19, 20, 21, 22, 23, 24] rfl (by decide) (fun _ => rfl) (fun _ => wObj x f q kq vq h g ik ++ (wTab cI q T (jc 0) ++ (wTab cI kq K (jc 1) ++ (wTab cI vq T11 b12 ++ (wSh cI h SB SS SN ++ (wTp cB g tn TB jc ++ (wA cI f 7 F))))))) (fun _ => rfl) rfl hl.1 rfl (Nat.le_of_ble_eq_true rfl) dX4_silence_101 ⟨Nat.le_of_ble_eq_true rfl, Nat.le_of_ble_eq_true rfl⟩ (fun _ H locs _ hP hD hS => ?_)
                    refine W.eq (g2 := F0 m 104 ls [.int (iI (lfF T11 p0))]) rfl ?_
                    refine x_if_ne (tgt := 110) hx hb (by omega) dX4_silence_104 (by decide) (fun c_104 => ?_) (fun c_104 => ?_)
                    · refine x_iinc hx hb 5 ((cw + 1 : Nat) : Int) (by omega) [(5, .int (iI ((cw + 1 : Nat) : Int))), (0, .ref x), (1, .int (iI ((p0 : Nat) : Int))), (2, .int (iI ((n0 : Nat) : Int))), (3, .int (iI (((2 ^ (T 0).toNat) : Nat) : Int))), (4, .int (iI ((t : Nat) : Int)))] dX4_silence_110 hl rfl (by decide) rfl (fun ls hl => ?_)
                      refine lv_goto (tgt := 56) hx hb dX4_silence_113 (by decide) ?_
                      exact ih2 (cw + 1) T11 b12 _ _ _ (by omega) (by rw [← hr2, siG, if_neg (fun q9 => by have q8 := q9.2; rw [← hp4] at q8; omega)]) hP hD hS (lv_sub hl [1, 2, 3, 4, 5, 0] rfl)
                    · refine lv_iload hx hb dX4_silence_107 (lv_at hl 5 rfl) ?_
                      exact kend ((((cw : Nat) : Int), T, K, ik, SB, SS, SN, tn, TB, F), T11, va_up jc 2 b12) hP hS rfl (si_ok (by omega) (by omega) (by rw [← hr, siF, ← hr2, show siG n0 p0 t T (k2 + 1) cw = ((cw : Nat) : Int) from if_pos ⟨by omega, by rw [← hp4]; omega⟩, if_pos (by omega)])) dX4_silence_109
                  · refine lv_goto (tgt := 110) hx hb dX4_silence_72 (by decide) ?_
                    refine x_iinc hx hb 5 ((cw + 1 : Nat) : Int) (by omega) [(5, .int (iI ((cw + 1 : Nat) : Int))), (0, .ref x), (1, .int (iI ((p0 : Nat) : Int))), (2, .int (iI ((n0 : Nat) : Int))), (3, .int (iI (((2 ^ (T 0).toNat) : Nat) : Int))), (4, .int (iI ((t : Nat) : Int)))] dX4_silence_110 hl rfl (by decide) rfl (fun ls hl => ?_)
                    refine lv_goto (tgt := 56) hx hb dX4_silence_113 (by decide) ?_
                    exact ih2 (cw + 1) V2 b2 _ _ _ (by omega) (by rw [← hr2, siG, if_neg (fun q9 => by omega)]) hP hD hS (lv_sub hl [1, 2, 3, 4, 5, 0] rfl)
            exact L56 (2 ^ (T 0).toNat) 0 Vt bt _ _ _ (by omega) rfl hP hD hS (lv_sub hl [1, 2, 3, 4, 5, 0] rfl)
      exact L41 ((T 0).toNat + 1) 0 V (jc 2) _ _ _ (by omega) rfl hP hD hS (lv_sub hl [2, 3, 4, 1, 0] rfl)
    · refine lv_aload_n hx hb dX4_silence_21 rfl (lv_at hl 0 rfl) ?_
      refine x_ldc hx hb (-1000001) rfl hown (hts (.constant RX4 44 (-1000001)) (by decide +kernel)) dX4_silence_22 ?_
      refine x_callV (As := [.int (iI (-1000001))]) (rest := []) ⟨hx, hb, hml, hown, hts⟩ (kX4_finding x f q kq vq h g ik F (-1000001) 0 (by omega) (by omega)) (cwV 1 hts gX4_silence_X4_finding rfl rfl rfl ykVX4_finding ⟨Nat.le_of_ble_eq_true rfl, Nat.le_of_ble_eq_true rfl⟩) hP hK hD hS 0 3 rfl rfl rfl [0, 31] rfl (by decide) (fun _ => rfl) (fun _ => wObj x f q kq vq h g ik ++ (wTab cI q T (jc 0) ++ (wTab cI kq K (jc 1) ++ (wTab cI vq V (jc 2) ++ (wSh cI h SB SS SN ++ (wTp cB g tn TB jc ++ (wA cI f 7 (bmp 0 F)))))))) (fun _ => rfl) rfl hl.1 rfl (Nat.le_of_ble_eq_true rfl) dX4_silence_24 ⟨Nat.le_of_ble_eq_true rfl, Nat.le_of_ble_eq_true rfl⟩ (fun _ H locs _ hP hD hS => ?_)
      refine W.eq (g2 := F0 m 27 ls [.int (iI (-1000001))]) rfl ?_
      exact kend (((-1000001), T, K, ik, SB, SS, SN, tn, TB, (bmp 0 F)), V, jc) hP hS rfl (if_neg (by omega)).symm dX4_silence_27
