theorem ykSX4_feed : yX4_feed.cls ≠ "java/lang/invoke/MethodHandle" ∧ yX4_feed.cls ≠ "java/lang/invoke/VarHandle" ∧ (parseMethodDescriptor yX4_feed.desc).map (fun d => d.parameters.length) = some 2 := by decide +kernel
theorem ykVX4_feed : yX4_feed.cls = RX4 ∧ yX4_feed.cls ≠ "java/lang/invoke/MethodHandle" ∧ yX4_feed.cls ≠ "java/lang/invoke/VarHandle" ∧ (parseMethodDescriptor yX4_feed.desc).map (fun d => d.parameters.length) = some 2 := ⟨rfl, ykSX4_feed⟩
set_option maxRecDepth 20000 in
theorem iT_X4_feed_X4 : ∀ w ∈ u_ws RX4 TX4 7, w ∈ wsX4_feed := by decide +kernel
set_option maxRecDepth 20000 in
theorem iT_X4_feed_X3 : ∀ w ∈ u_ws RX3 TX3 6, w ∈ wsX4_feed := by decide +kernel
set_option maxHeartbeats 4000000 in
set_option maxRecDepth 100000 in
theorem kX4_feed {l : Launch} {D : va_G} {cI cB : ClassId} (x f : Nat) (q kq vq h g : Nat → Nat) (T K : Tb) (ik : Int) (SB SS SN : Nat → Int) (tn : Int) (TB F : Nat → Int) (V : Tb) (jc : Nat → Int) (bs n : Int) (B : Int) (hG : GI B T K ik SB SS SN tn TB F) (hB : B ≤ 40000) (h_bs : rI bs) (h_n : rI n) : Ct l yX4_feed wsX4_feed 2 44 D [(cI, .int), (cB, .byte)] [.ref x, .int (iI bs), .int (iI n)] (wC cI cB x f q kq vq h g (T, K, ik, SB, SS, SN, tn, TB, F) V jc) (S := (Int × Gs) × Tb × (Nat → Int)) (fun u => some (.int (iI u.1.1))) (fun u => u.1 = m_feed bs n T K ik SB SS SN tn TB F) (fun u => wC cI cB x f q kq vq h g u.1.2 u.2.1 u.2.2) := by
  refine CtI.of (cc := cX4_feed) (maxL := 4) (by decide +kernel) rfl (Nat.le_of_ble_eq_true rfl) ?_
  intro pg e s m args below meth c Q A hx hb hml hts hown hP hK hD hS ls hl kend
  have hown : s.vm.findClass RX4 = some m.cls := hown
  have hl : lv_has ls 4 [(0, .ref x), (1, .int (iI bs)), (2, .int (iI n))] := hl
  obtain ⟨hI, hIK, hik, hSB, hSS, hSN, htn, hTB, hF⟩ := id hG
  have hn := Inv_n hI
  have hdy := Inv_d hI
  have hP : va_P D vwCl (wObj x f q kq vq h g ik ++ (wTab cI q T (jc 0) ++ (wTab cI kq K (jc 1) ++ (wTab cI vq V (jc 2) ++ (wSh cI h SB SS SN ++ (wTp cB g tn TB jc ++ (wA cI f 7 F))))))) s.heap := hP
  have hD : va_D A (wObj x f q kq vq h g ik ++ (wTab cI q T (jc 0) ++ (wTab cI kq K (jc 1) ++ (wTab cI vq V (jc 2) ++ (wSh cI h SB SS SN ++ (wTp cB g tn TB jc ++ (wA cI f 7 F))))))) := hD
  refine lv_iload_n hx hb dX4_feed_0 rfl (lv_at hl 2 rfl) ?_
  refine x_iconst hx hb dX4_feed_1 ?_
  refine x_iconst hx hb dX4_feed_2 ?_
  refine x_callS (As := [.int (iI n), .int (iI 1), .int (iI 4)]) (rest := []) ⟨hx, hb, hml, hown, hts⟩ (kX4_isWithin n 1 4 (by omega) (by decide) (by decide)) (va_cwS 3 hts gX4_feed_X4_isWithin rfl rfl rfl ykSX4_isWithin ⟨Nat.le_of_ble_eq_true rfl, Nat.le_of_ble_eq_true rfl⟩) hP hK hD hS [] rfl (by decide) (fun _ => rfl) (fun _ => wObj x f q kq vq h g ik ++ (wTab cI q T (jc 0) ++ (wTab cI kq K (jc 1) ++ (wTab cI vq V (jc 2) ++ (wSh cI h SB SS SN ++ (wTp cB g tn TB jc ++ (wA cI f 7 F))))))) (fun _ => rfl) rfl hl.1 rfl (Nat.le_of_ble_eq_true rfl) dX4_feed_3 ⟨Nat.le_of_ble_eq_true rfl, Nat.le_of_ble_eq_true rfl⟩ (fun _ H locs _ hP hD hS => ?_)
  refine W.eq (g2 := F0 m 6 ls [.int (iI (b2 (decide (1 ≤ n ∧ n ≤ 4))))]) rfl ?_
  refine x_ifb_ne (tgt := 16) hx hb dX4_feed_6 (by decide) (fun c_6 => ?_) (fun c_6 => ?_)
  · obtain ⟨n0, rfl⟩ : ∃ n0 : Nat, n = (n0 : Int) := ⟨n.toNat, by omega⟩
    obtain ⟨m0, rfl⟩ : ∃ m0 : Nat, tn = (m0 : Int) := ⟨tn.toNat, by omega⟩
    refine lv_aload_n hx hb dX4_feed_16 rfl (lv_at hl 0 rfl) ?_
    refine va_get (D := D) (ci := 3) (v := .ref (g 0)) (C := RX4) (T := TX4) (N := 7) hx hb hts (iT_X4_feed_X4) hown hK hP 0 rfl rfl 4 (by decide) (hts (.fieldLink RX4 32 "WordSupper" "tape" "LWordSupper$Tape;") (by decide +kernel)) (fun _ h9 => h9) rfl dX4_feed_17 ?_
    refine va_get (D := D) (ci := 2) (v := .int (iI ((m0 : Nat) : Int))) (C := RX3) (T := TX3) (N := 6) hx hb hts (iT_X4_feed_X3) hown hK hP 29 rfl rfl 0 (by decide) (hts (.fieldLink RX4 199 "WordSupper$Tape" "size" "I") (by decide +kernel)) (fun _ h9 => h9) rfl dX4_feed_20 ?_
    refine x_bipush hx hb dX4_feed_23 (by decide) ?_
    refine lv_iload_n hx hb dX4_feed_25 rfl (lv_at hl 2 rfl) ?_
    refine x_isub hx hb dX4_feed_26 ?_
    refine x_icmp_le (tgt := 37) hx hb (by omega) (by omega) dX4_feed_27 (by decide) (fun c_27 => ?_) (fun c_27 => ?_)
    · refine lv_iload_n hx hb dX4_feed_37 rfl (lv_at hl 2 rfl) ?_
      refine x_iconst hx hb dX4_feed_38 ?_
      refine x_isub hx hb dX4_feed_39 ?_
      refine lv_istore_n (lv' := [(3, .int (iI (((n0 : Nat) : Int) - 1))), (0, .ref x), (1, .int (iI bs)), (2, .int (iI ((n0 : Nat) : Int)))]) hx hb dX4_feed_40 rfl hl (by decide) rfl (fun ls hl => ?_)
      have L41 : ∀ (k t : Nat) (c0 : Nat) (TBv : Nat → Int) (H : Heap) (locs : List Loc) (ls : Array Slot), t + k = n0 → (fdT bs k c0 TBv = fdT bs n0 m0 TB) → (c0 + k = m0 + n0) → (m0 + n0 ≤ 120) → va_P D vwCl (wObj x f q kq vq h g ik ++ (wTab cI q T (jc 0) ++ (wTab cI kq K (jc 1) ++ (wTab cI vq V (jc 2) ++ (wSh cI h SB SS SN ++ (wTp cB g ((c0 : Nat) : Int) TBv jc ++ (wA cI f 7 F))))))) H → va_D A (wObj x f q kq vq h g ik ++ (wTab cI q T (jc 0) ++ (wTab cI kq K (jc 1) ++ (wTab cI vq V (jc 2) ++ (wSh cI h SB SS SN ++ (wTp cB g ((c0 : Nat) : Int) TBv jc ++ (wA cI f 7 F))))))) → va_S A s.heap H locs → lv_has ls 4 [(0, .ref x), (1, .int (iI bs)), (2, .int (iI ((n0 : Nat) : Int))), (3, .int (iI (((k : Nat) : Int) - 1)))] → W pg l e { frames := 2, cells := 0, slots := 0, locals := 44 } s m args below meth c H locs 0 0 Q (F0 m 41 ls []) := by
        intro k
        induction k with
        | zero =>
          intro t c0 TBv H locs ls hkt hr hc hc2 hP hD hS hl
          refine lv_iload_n hx hb dX4_feed_41 rfl (lv_at hl 3 rfl) ?_
          refine x_if_lt (tgt := 65) hx hb (by omega) dX4_feed_42 (by decide) (fun c_42 => ?_) (fun c_42 => ?_)
          · refine lv_aload_n hx hb dX4_feed_65 rfl (lv_at hl 0 rfl) ?_
            refine va_get (D := D) (ci := 3) (v := .ref (g 0)) (C := RX4) (T := TX4) (N := 7) hx hb hts (iT_X4_feed_X4) hown hK hP 0 rfl rfl 4 (by decide) (hts (.fieldLink RX4 32 "WordSupper" "tape" "LWordSupper$Tape;") (by decide +kernel)) (fun _ h9 => h9) rfl dX4_feed_66 ?_
            refine va_get (D := D) (ci := 2) (v := .int (iI ((c0 : Nat) : Int))) (C := RX3) (T := TX3) (N := 6) hx hb hts (iT_X4_feed_X3) hown hK hP 29 rfl rfl 0 (by decide) (hts (.fieldLink RX4 199 "WordSupper$Tape" "size" "I") (by decide +kernel)) (fun _ h9 => h9) rfl dX4_feed_69 ?_
            exact kend ((((c0 : Nat) : Int), T, K, ik, SB, SS, SN, ((c0 : Nat) : Int), TBv, F), V, jc) hP hS rfl (by unfold m_feed; rw [if_neg (by omega), if_neg (by omega)]; simp only [Int.toNat_natCast]; rw [← hr, show ((m0 : Nat) : Int) + ((n0 : Nat) : Int) = ((c0 : Nat) : Int) by omega] <;> rfl) dX4_feed_72
          · exfalso; omega
        | succ k ih =>
          intro t c0 TBv H locs ls hkt hr hc hc2 hP hD hS hl
          refine lv_iload_n hx hb dX4_feed_41 rfl (lv_at hl 3 rfl) ?_
          refine x_if_lt (tgt := 65) hx hb (by omega) dX4_feed_42 (by decide) (fun c_42 => ?_) (fun c_42 => ?_)
          · exfalso; omega
          · refine lv_aload_n hx hb dX4_feed_45 rfl (lv_at hl 0 rfl) ?_
            refine va_get (D := D) (ci := 3) (v := .ref (g 0)) (C := RX4) (T := TX4) (N := 7) hx hb hts (iT_X4_feed_X4) hown hK hP 0 rfl rfl 4 (by decide) (hts (.fieldLink RX4 32 "WordSupper" "tape" "LWordSupper$Tape;") (by decide +kernel)) (fun _ h9 => h9) rfl dX4_feed_46 ?_
            refine lv_iload_n hx hb dX4_feed_49 rfl (lv_at hl 1 rfl) ?_
            refine x_bipush hx hb dX4_feed_50 (by decide) ?_
            refine lv_iload_n hx hb dX4_feed_52 rfl (lv_at hl 3 rfl) ?_
            refine x_imul hx hb dX4_feed_53 ?_
            refine x_topi (8 * ((k : Nat) : Int)) (by omega) ?_
            refine x_ishr hx hb dX4_feed_54 ?_
            refine x_i2b hx hb dX4_feed_55 ?_
            refine x_callV (As := [.int (iI (byteI (shrI bs (8 * ((k : Nat) : Int)))))]) (rest := []) ⟨hx, hb, hml, hown, hts⟩ (kX3_add g ((c0 : Nat) : Int) TBv jc (byteI (shrI bs (8 * ((k : Nat) : Int)))) c0 (andI (shrI bs (8 * ((k : Nat) : Int))) 255) rfl (by omega) (byte_id _) (byte_sg _).symm) (cwV 1 hts gX4_feed_X3_add rfl rfl rfl ykVX3_add ⟨Nat.le_of_ble_eq_true rfl, Nat.le_of_ble_eq_true rfl⟩) hP hK hD hS 29 2 rfl rfl rfl [29, 30] rfl (by decide) (fun _ => rfl) (fun _ => wObj x f q kq vq h g ik ++ (wTab cI q T (jc 0) ++ (wTab cI kq K (jc 1) ++ (wTab cI vq V (jc 2) ++ (wSh cI h SB SS SN ++ (wTp cB g (((c0 : Nat) : Int) + 1) (va_up TBv c0 (andI (shrI bs (8 * ((k : Nat) : Int))) 255)) jc ++ (wA cI f 7 F))))))) (fun _ => rfl) rfl hl.1 rfl (Nat.le_of_ble_eq_true rfl) dX4_feed_56 ⟨Nat.le_of_ble_eq_true rfl, Nat.le_of_ble_eq_true rfl⟩ (fun _ H locs _ hP hD hS => ?_)
            refine W.eq (g2 := F0 m 59 ls []) rfl ?_
            refine x_iinc hx hb 3 (((k : Nat) : Int) - 1) (by omega) [(3, .int (iI (((k : Nat) : Int) - 1))), (0, .ref x), (1, .int (iI bs)), (2, .int (iI ((n0 : Nat) : Int)))] dX4_feed_59 hl rfl (by decide) rfl (fun ls hl => ?_)
            refine lv_goto (tgt := 41) hx hb dX4_feed_62 (by decide) ?_
            exact ih (t + 1) (c0 + 1) (va_up TBv c0 (andI (shrI bs (8 * ((k : Nat) : Int))) 255)) _ _ _ (by omega) hr (by omega) hc2 hP hD hS (lv_sub hl [1, 2, 3, 0] rfl)
      exact L41 n0 0 m0 TB _ _ _ (by omega) rfl rfl (by omega) hP hD hS (lv_sub hl [1, 2, 3, 0] rfl)
    · refine lv_aload_n hx hb dX4_feed_30 rfl (lv_at hl 0 rfl) ?_
      refine x_ldc hx hb (-1000002) rfl hown (hts (.constant RX4 67 (-1000002)) (by decide +kernel)) dX4_feed_31 ?_
      refine x_callV (As := [.int (iI (-1000002))]) (rest := []) ⟨hx, hb, hml, hown, hts⟩ (kX4_finding x f q kq vq h g ik F (-1000002) 1 (by omega) (by omega)) (cwV 1 hts gX4_feed_X4_finding rfl rfl rfl ykVX4_finding ⟨Nat.le_of_ble_eq_true rfl, Nat.le_of_ble_eq_true rfl⟩) hP hK hD hS 0 3 rfl rfl rfl [0, 31] rfl (by decide) (fun _ => rfl) (fun _ => wObj x f q kq vq h g ik ++ (wTab cI q T (jc 0) ++ (wTab cI kq K (jc 1) ++ (wTab cI vq V (jc 2) ++ (wSh cI h SB SS SN ++ (wTp cB g ((m0 : Nat) : Int) TB jc ++ (wA cI f 7 (bmp 1 F)))))))) (fun _ => rfl) rfl hl.1 rfl (Nat.le_of_ble_eq_true rfl) dX4_feed_33 ⟨Nat.le_of_ble_eq_true rfl, Nat.le_of_ble_eq_true rfl⟩ (fun _ H locs _ hP hD hS => ?_)
      refine W.eq (g2 := F0 m 36 ls [.int (iI (-1000002))]) rfl ?_
      exact kend (((-1000002), T, K, ik, SB, SS, SN, ((m0 : Nat) : Int), TB, (bmp 1 F)), V, jc) hP hS rfl (((if_neg (by omega)).trans (if_pos (by omega)))).symm dX4_feed_36
  · refine lv_aload_n hx hb dX4_feed_9 rfl (lv_at hl 0 rfl) ?_
    refine x_ldc hx hb (-1000001) rfl hown (hts (.constant RX4 44 (-1000001)) (by decide +kernel)) dX4_feed_10 ?_
    refine x_callV (As := [.int (iI (-1000001))]) (rest := []) ⟨hx, hb, hml, hown, hts⟩ (kX4_finding x f q kq vq h g ik F (-1000001) 0 (by omega) (by omega)) (cwV 1 hts gX4_feed_X4_finding rfl rfl rfl ykVX4_finding ⟨Nat.le_of_ble_eq_true rfl, Nat.le_of_ble_eq_true rfl⟩) hP hK hD hS 0 3 rfl rfl rfl [0, 31] rfl (by decide) (fun _ => rfl) (fun _ => wObj x f q kq vq h g ik ++ (wTab cI q T (jc 0) ++ (wTab cI kq K (jc 1) ++ (wTab cI vq V (jc 2) ++ (wSh cI h SB SS SN ++ (wTp cB g tn TB jc ++ (wA cI f 7 (bmp 0 F)))))))) (fun _ => rfl) rfl hl.1 rfl (Nat.le_of_ble_eq_true rfl) dX4_feed_12 ⟨Nat.le_of_ble_eq_true rfl, Nat.le_of_ble_eq_true rfl⟩ (fun _ H locs _ hP hD hS => ?_)
    refine W.eq (g2 := F0 m 15 ls [.int (iI (-1000001))]) rfl ?_
    exact kend (((-1000001), T, K, ik, SB, SS, SN, tn, TB, (bmp 0 F)), V, jc) hP hS rfl ((if_pos (by omega))).symm dX4_feed_15
theorem ykSX4_talk : yX4_talk.cls ≠ "java/lang/invoke/MethodHandle" ∧ yX4_talk.cls ≠ "java/lang/invoke/VarHandle" ∧ (parseMethodDescriptor yX4_talk.desc).map (fun d => d.parameters.length) = some 1 := by decide +kernel
theorem ykVX4_talk : yX4_talk.cls = RX4 ∧ yX4_talk.cls ≠ "java/lang/invoke/MethodHandle" ∧ yX4_talk.cls ≠ "java/lang/invoke/VarHandle" ∧ (parseMethodDescriptor yX4_talk.desc).map (fun d => d.parameters.length) = some 1 := ⟨rfl, ykSX4_talk⟩
set_option maxRecDepth 20000 in
theorem iT_X4_talk_X4 : ∀ w ∈ u_ws RX4 TX4 7, w ∈ wsX4_talk := by decide +kernel
set_option maxRecDepth 20000 in
theorem iT_X4_talk_X2 : ∀ w ∈ u_ws RX2 TX2 12, w ∈ wsX4_talk := by decide +kernel
set_option maxHeartbeats 4000000 in
set_option maxRecDepth 100000 in
theorem kX4_talk {l : Launch} {D : va_G} {cI cB : ClassId} (x f : Nat) (q kq vq h g : Nat → Nat) (T K : Tb) (ik : Int) (SB SS SN : Nat → Int) (tn : Int) (TB F : Nat → Int) (V : Tb) (jc : Nat → Int) (n : Int) (B : Int) (hG : GI B T K ik SB SS SN tn TB F) (hB : B ≤ 40000) (h_n : rI n) : Ct l yX4_talk wsX4_talk 5 114 D [(cI, .int), (cB, .byte)] [.ref x, .int (iI n)] (wC cI cB x f q kq vq h g (T, K, ik, SB, SS, SN, tn, TB, F) V jc) (S := (Int × Gs) × Tb × (Nat → Int)) (fun u => some (.int (iI u.1.1))) (fun u => u.1 = m_talk n T K ik SB SS SN tn TB F) (fun u => wC cI cB x f q kq vq h g u.1.2 u.2.1 u.2.2) := by
  refine CtI.of (cc := cX4_talk) (maxL := 5) (by decide +kernel) rfl (Nat.le_of_ble_eq_true rfl) ?_
  intro pg e s m args below meth c Q A hx hb hml hts hown hP hK hD hS ls hl kend
  have hown : s.vm.findClass RX4 = some m.cls := hown
  have hl : lv_has ls 5 [(0, .ref x), (1, .int (iI n))] := hl
  obtain ⟨hI, hIK, hik, hSB, hSS, hSN, htn, hTB, hF⟩ := id hG
  have hn := Inv_n hI
  have hdy := Inv_d hI
  have hP : va_P D vwCl (wObj x f q kq vq h g ik ++ (wTab cI q T (jc 0) ++ (wTab cI kq K (jc 1) ++ (wTab cI vq V (jc 2) ++ (wSh cI h SB SS SN ++ (wTp cB g tn TB jc ++ (wA cI f 7 F))))))) s.heap := hP
  have hD : va_D A (wObj x f q kq vq h g ik ++ (wTab cI q T (jc 0) ++ (wTab cI kq K (jc 1) ++ (wTab cI vq V (jc 2) ++ (wSh cI h SB SS SN ++ (wTp cB g tn TB jc ++ (wA cI f 7 F))))))) := hD
  refine lv_iload_n hx hb dX4_talk_0 rfl (lv_at hl 1 rfl) ?_
  refine x_iconst hx hb dX4_talk_1 ?_
  refine x_bipush hx hb dX4_talk_2 (by decide) ?_
  refine x_callS (As := [.int (iI n), .int (iI 1), .int (iI 20)]) (rest := []) ⟨hx, hb, hml, hown, hts⟩ (kX4_isWithin n 1 20 (by omega) (by decide) (by decide)) (va_cwS 3 hts gX4_talk_X4_isWithin rfl rfl rfl ykSX4_isWithin ⟨Nat.le_of_ble_eq_true rfl, Nat.le_of_ble_eq_true rfl⟩) hP hK hD hS [] rfl (by decide) (fun _ => rfl) (fun _ => wObj x f q kq vq h g ik ++ (wTab cI q T (jc 0) ++ (wTab cI kq K (jc 1) ++ (wTab cI vq V (jc 2) ++ (wSh cI h SB SS SN ++ (wTp cB g tn TB jc ++ (wA cI f 7 F))))))) (fun _ => rfl) rfl hl.1 rfl (Nat.le_of_ble_eq_true rfl) dX4_talk_4 ⟨Nat.le_of_ble_eq_true rfl, Nat.le_of_ble_eq_true rfl⟩ (fun _ H locs _ hP hD hS => ?_)
  refine W.eq (g2 := F0 m 7 ls [.int (iI (b2 (decide (1 ≤ n ∧ n ≤ 20))))]) rfl ?_
  refine x_ifb_ne (tgt := 17) hx hb dX4_talk_7 (by decide) (fun c_7 => ?_) (fun c_7 => ?_)
  · refine lv_aload_n hx hb dX4_talk_17 rfl (lv_at hl 0 rfl) ?_
    refine va_get (D := D) (ci := 3) (v := .ref (q 0)) (C := RX4) (T := TX4) (N := 7) hx hb hts (iT_X4_talk_X4) hown hK hP 0 rfl rfl 0 (by decide) (hts (.fieldLink RX4 10 "WordSupper" "table" "LWordSupper$Table;") (by decide +kernel)) (fun _ h9 => h9) rfl dX4_talk_18 ?_
    refine va_get (D := D) (ci := 1) (v := .int (iI (T 1))) (C := RX2) (T := TX2) (N := 12) hx hb hts (iT_X4_talk_X2) hown hK hP 1 rfl rfl 0 (by decide) (hts (.fieldLink RX4 110 "WordSupper$Table" "day" "I") (by decide +kernel)) (fun _ h9 => h9) rfl dX4_talk_21 ?_
    refine x_ldc hx hb 99999 rfl hown (hts (.constant RX4 97 (99999)) (by decide +kernel)) dX4_talk_24 ?_
    refine lv_iload_n hx hb dX4_talk_26 rfl (lv_at hl 1 rfl) ?_
    refine x_isub hx hb dX4_talk_27 ?_
    refine x_icmp_le (tgt := 38) hx hb (by omega) (by omega) dX4_talk_28 (by decide) (fun c_28 => ?_) (fun c_28 => ?_)
    · obtain ⟨n0, rfl⟩ : ∃ n0 : Nat, n = (n0 : Int) := ⟨n.toNat, by omega⟩
      refine x_iconst hx hb dX4_talk_38 ?_
      refine lv_istore_n (lv' := [(2, .int (iI 0)), (0, .ref x), (1, .int (iI ((n0 : Nat) : Int)))]) hx hb dX4_talk_39 rfl hl (by decide) rfl (fun ls hl => ?_)
      have L40 : ∀ (k t : Nat) (Tt : Tb) (bt : Int) (H : Heap) (locs : List Loc) (ls : Array Slot), t + k = n0 → (run tlS k t Tt = run tlS n0 0 T) → (Inv (B + (t : Int)) Tt) → va_P D vwCl (wObj x f q kq vq h g ik ++ (wTab cI q Tt bt ++ (wTab cI kq K (jc 1) ++ (wTab cI vq V (jc 2) ++ (wSh cI h SB SS SN ++ (wTp cB g tn TB jc ++ (wA cI f 7 F))))))) H → va_D A (wObj x f q kq vq h g ik ++ (wTab cI q Tt bt ++ (wTab cI kq K (jc 1) ++ (wTab cI vq V (jc 2) ++ (wSh cI h SB SS SN ++ (wTp cB g tn TB jc ++ (wA cI f 7 F))))))) → va_S A s.heap H locs → lv_has ls 5 [(0, .ref x), (1, .int (iI ((n0 : Nat) : Int))), (2, .int (iI ((t : Nat) : Int)))] → W pg l e { frames := 5, cells := 0, slots := 0, locals := 114 } s m args below meth c H locs 0 0 Q (F0 m 40 ls []) := by
        intro k
        induction k with
        | zero =>
          intro t Tt bt H locs ls hkt hr hi0 hP hD hS hl
          refine lv_iload_n hx hb dX4_talk_40 rfl (lv_at hl 2 rfl) ?_
          refine lv_iload_n hx hb dX4_talk_41 rfl (lv_at hl 1 rfl) ?_
          refine x_icmp_ge (tgt := 100) hx hb (by omega) (by omega) dX4_talk_42 (by decide) (fun c_42 => ?_) (fun c_42 => ?_)
          · have hn9 := Inv_n hi0
            refine lv_aload_n hx hb dX4_talk_100 rfl (lv_at hl 0 rfl) ?_
            refine va_get (D := D) (ci := 3) (v := .ref (q 0)) (C := RX4) (T := TX4) (N := 7) hx hb hts (iT_X4_talk_X4) hown hK hP 0 rfl rfl 0 (by decide) (hts (.fieldLink RX4 10 "WordSupper" "table" "LWordSupper$Table;") (by decide +kernel)) (fun _ h9 => h9) rfl dX4_talk_101 ?_
            refine x_callV (As := []) (rest := []) ⟨hx, hb, hml, hown, hts⟩ (kX2_allLeft q Tt bt (by omega)) (cwV 0 hts gX4_talk_X2_allLeft rfl rfl rfl ykVX2_allLeft ⟨Nat.le_of_ble_eq_true rfl, Nat.le_of_ble_eq_true rfl⟩) hP hK hD hS 1 1 rfl rfl rfl [1, 2, 3, 4, 5, 6, 7, 8] rfl (by decide) (fun _ => rfl) (fun _ => wObj x f q kq vq h g ik ++ (wTab cI q Tt bt ++ (wTab cI kq K (jc 1) ++ (wTab cI vq V (jc 2) ++ (wSh cI h SB SS SN ++ (wTp cB g tn TB jc ++ (wA cI f 7 F))))))) (fun _ => rfl) rfl hl.1 rfl (Nat.le_of_ble_eq_true rfl) dX4_talk_104 ⟨Nat.le_of_ble_eq_true rfl, Nat.le_of_ble_eq_true rfl⟩ (fun _ H locs _ hP hD hS => ?_)
            refine W.eq (g2 := F0 m 107 ls [.int (iI (alF Tt))]) rfl ?_
            exact kend ((alF Tt, Tt, K, ik, SB, SS, SN, tn, TB, F), V, va_up jc 0 bt) hP hS rfl (by unfold m_talk; rw [if_pos (by omega)]; simp only [Int.toNat_natCast]; rw [← hr] <;> rfl) dX4_talk_107
          · exfalso; omega
        | succ k ih =>
          intro t Tt bt H locs ls hkt hr hi0 hP hD hS hl
          refine lv_iload_n hx hb dX4_talk_40 rfl (lv_at hl 2 rfl) ?_
          refine lv_iload_n hx hb dX4_talk_41 rfl (lv_at hl 1 rfl) ?_
          refine x_icmp_ge (tgt := 100) hx hb (by omega) (by omega) dX4_talk_42 (by decide) (fun c_42 => ?_) (fun c_42 => ?_)
          · exfalso; omega
          · refine lv_aload_n hx hb dX4_talk_45 rfl (lv_at hl 0 rfl) ?_
            refine va_get (D := D) (ci := 3) (v := .ref (q 0)) (C := RX4) (T := TX4) (N := 7) hx hb hts (iT_X4_talk_X4) hown hK hP 0 rfl rfl 0 (by decide) (hts (.fieldLink RX4 10 "WordSupper" "table" "LWordSupper$Table;") (by decide +kernel)) (fun _ h9 => h9) rfl dX4_talk_46 ?_
            refine x_callV (As := []) (rest := []) ⟨hx, hb, hml, hown, hts⟩ (kX2_draw q Tt bt ) (cwV 0 hts gX4_talk_X2_draw rfl rfl rfl ykVX2_draw ⟨Nat.le_of_ble_eq_true rfl, Nat.le_of_ble_eq_true rfl⟩) hP hK hD hS 1 1 rfl rfl rfl [1, 2, 3, 4, 5, 6, 7, 8] rfl (by decide) (fun _ => rfl) (fun _ => wObj x f q kq vq h g ik ++ (wTab cI q (drF Tt) bt ++ (wTab cI kq K (jc 1) ++ (wTab cI vq V (jc 2) ++ (wSh cI h SB SS SN ++ (wTp cB g tn TB jc ++ (wA cI f 7 F))))))) (fun _ => rfl) rfl hl.1 rfl (Nat.le_of_ble_eq_true rfl) dX4_talk_49 ⟨Nat.le_of_ble_eq_true rfl, Nat.le_of_ble_eq_true rfl⟩ (fun _ H locs _ hP hD hS => ?_)
            refine W.eq (g2 := F0 m 52 ls [.int (iI (ushrI (drF Tt 2) 8))]) rfl ?_
            have hu1 := ushr8_b (drF Tt 2)
            refine x_bipush hx hb dX4_talk_52 (by decide) ?_
            refine x_irem hx hb (by omega) (by omega) (by decide) (by decide) dX4_talk_54 ?_
            refine lv_istore_n (lv' := [(3, .int (iI ((ushrI (drF Tt 2) 8) % 6))), (0, .ref x), (1, .int (iI ((n0 : Nat) : Int))), (2, .int (iI ((t : Nat) : Int)))]) hx hb dX4_talk_55 rfl hl (by decide) rfl (fun ls hl => ?_)
            refine lv_aload_n hx hb dX4_talk_56 rfl (lv_at hl 1 rfl) ?_
            refine va_get (D := D) (ci := 3) (v := .ref (q 0)) (C := RX4) (T := TX4) (N := 7) hx hb hts (iT_X4_talk_X4) hown hK hP 0 rfl rfl 0 (by decide) (hts (.fieldLink RX4 10 "WordSupper" "table" "LWordSupper$Table;") (by decide +kernel)) (fun _ h9 => h9) rfl dX4_talk_57 ?_
            refine x_callV (As := []) (rest := []) ⟨hx, hb, hml, hown, hts⟩ (kX2_draw q (drF Tt) bt ) (cwV 0 hts gX4_talk_X2_draw rfl rfl rfl ykVX2_draw ⟨Nat.le_of_ble_eq_true rfl, Nat.le_of_ble_eq_true rfl⟩) hP hK hD hS 1 1 rfl rfl rfl [1, 2, 3, 4, 5, 6, 7, 8] rfl (by decide) (fun _ => rfl) (fun _ => wObj x f q kq vq h g ik ++ (wTab cI q (drF (drF Tt)) bt ++ (wTab cI kq K (jc 1) ++ (wTab cI vq V (jc 2) ++ (wSh cI h SB SS SN ++ (wTp cB g tn TB jc ++ (wA cI f 7 F))))))) (fun _ => rfl) rfl hl.1 rfl (Nat.le_of_ble_eq_true rfl) dX4_talk_60 ⟨Nat.le_of_ble_eq_true rfl, Nat.le_of_ble_eq_true rfl⟩ (fun _ H locs _ hP hD hS => ?_)
            refine W.eq (g2 := F0 m 63 ls [.int (iI (ushrI (drF (drF Tt) 2) 8))]) rfl ?_
            have hu2 := ushr8_b (drF (drF Tt) 2)
            refine x_bipush hx hb dX4_talk_63 (by decide) ?_
            refine x_irem hx hb (by omega) (by omega) (by decide) (by decide) dX4_talk_65 ?_
            refine lv_istore (lv' := [(4, .int (iI ((ushrI (drF (drF Tt) 2) 8) % 21))), (3, .int (iI ((ushrI (drF Tt 2) 8) % 6))), (0, .ref x), (1, .int (iI ((n0 : Nat) : Int))), (2, .int (iI ((t : Nat) : Int)))]) hx hb dX4_talk_66 hl (by decide) rfl (fun ls hl => ?_)
            refine lv_iload_n hx hb dX4_talk_68 rfl (lv_at hl 1 rfl) ?_
            refine x_callS (As := [.int (iI ((ushrI (drF Tt 2) 8) % 6))]) (rest := []) ⟨hx, hb, hml, hown, hts⟩ (kX4_isTaste ((ushrI (drF Tt 2) 8) % 6) (by omega)) (va_cwS 1 hts gX4_talk_X4_isTaste rfl rfl rfl ykSX4_isTaste ⟨Nat.le_of_ble_eq_true rfl, Nat.le_of_ble_eq_true rfl⟩) hP hK hD hS [] rfl (by decide) (fun _ => rfl) (fun _ => wObj x f q kq vq h g ik ++ (wTab cI q (drF (drF Tt)) bt ++ (wTab cI kq K (jc 1) ++ (wTab cI vq V (jc 2) ++ (wSh cI h SB SS SN ++ (wTp cB g tn TB jc ++ (wA cI f 7 F))))))) (fun _ => rfl) rfl hl.1 rfl (Nat.le_of_ble_eq_true rfl) dX4_talk_69 ⟨Nat.le_of_ble_eq_true rfl, Nat.le_of_ble_eq_true rfl⟩ (fun _ H locs _ hP hD hS => ?_)
            refine W.eq (g2 := F0 m 72 ls [.int (iI (b2 (decide (0 ≤ ((ushrI (drF Tt 2) 8) % 6) ∧ ((ushrI (drF Tt 2) 8) % 6) ≤ 5))))]) rfl ?_
            refine x_ifb_eq (tgt := 86) hx hb dX4_talk_72 (by decide) (fun c_72 => ?_) (fun c_72 => ?_)
            · exfalso; omega
            · refine lv_aload_n hx hb dX4_talk_75 rfl (lv_at hl 2 rfl) ?_
              refine va_get (D := D) (ci := 3) (v := .ref (q 0)) (C := RX4) (T := TX4) (N := 7) hx hb hts (iT_X4_talk_X4) hown hK hP 0 rfl rfl 0 (by decide) (hts (.fieldLink RX4 10 "WordSupper" "table" "LWordSupper$Table;") (by decide +kernel)) (fun _ h9 => h9) rfl dX4_talk_76 ?_
              refine va_get (D := D) (ci := 1) (v := .ref (q 1)) (C := RX2) (T := TX2) (N := 12) hx hb hts (iT_X4_talk_X2) hown hK hP 1 rfl rfl 5 (by decide) (hts (.fieldLink RX4 57 "WordSupper$Table" "listed" "[I") (by decide +kernel)) (fun _ h9 => h9) rfl dX4_talk_79 ?_
              refine lv_iload_n hx hb dX4_talk_82 rfl (lv_at hl 1 rfl) ?_
              refine lv_iload hx hb dX4_talk_83 (lv_at hl 0 rfl) ?_
              refine x_iast hx hb hK hP hD hS 2 0 rfl rfl (((ushrI (drF Tt 2) 8) % 6).toNat) (by omega) (by omega) (by decide) (wObj x f q kq vq h g ik ++ (wTab cI q (va_up (drF (drF Tt)) (4 + (((ushrI (drF Tt 2) 8) % 6).toNat)) ((ushrI (drF (drF Tt) 2) 8) % 21)) bt ++ (wTab cI kq K (jc 1) ++ (wTab cI vq V (jc 2) ++ (wSh cI h SB SS SN ++ (wTp cB g tn TB jc ++ (wA cI f 7 F))))))) (by rw [← wT_listed cI q (drF (drF Tt)) bt ((ushrI (drF (drF Tt) 2) 8) % 21) (((ushrI (drF Tt 2) 8) % 6).toNat) (by omega)]; rfl) dX4_talk_85 (fun H locs hP hD hS => ?_)
              refine lv_aload_n hx hb dX4_talk_86 rfl (lv_at hl 2 rfl) ?_
              refine va_get (D := D) (ci := 3) (v := .ref (q 0)) (C := RX4) (T := TX4) (N := 7) hx hb hts (iT_X4_talk_X4) hown hK hP 0 rfl rfl 0 (by decide) (hts (.fieldLink RX4 10 "WordSupper" "table" "LWordSupper$Table;") (by decide +kernel)) (fun _ h9 => h9) rfl dX4_talk_87 ?_
              have hi9 := Inv_li (t := ((ushrI (drF Tt 2) 8) % 6).toNat) (v := (ushrI (drF (drF Tt) 2) 8) % 21) (Inv_dr (Inv_dr hi0)) (by omega) (by omega)
              refine x_iconst hx hb dX4_talk_90 ?_
              refine x_callV (As := [.int (iI 0)]) (rest := []) ⟨hx, hb, hml, hown, hts⟩ (kX2_passDay q (va_up (drF (drF Tt)) (4 + (((ushrI (drF Tt 2) 8) % 6).toNat)) ((ushrI (drF (drF Tt) 2) 8) % 21)) bt 0 (B + (t : Int)) hi9 (by omega) (by decide)) (cwV 1 hts gX4_talk_X2_passDay rfl rfl rfl ykVX2_passDay ⟨Nat.le_of_ble_eq_true rfl, Nat.le_of_ble_eq_true rfl⟩) hP hK hD hS 1 1 rfl rfl rfl [1, 2, 3, 4, 5, 6, 7, 8] rfl (by decide) (fun _ => rfl) (fun u => wObj x f q kq vq h g ik ++ (wTab cI q u.1 u.2 ++ (wTab cI kq K (jc 1) ++ (wTab cI vq V (jc 2) ++ (wSh cI h SB SS SN ++ (wTp cB g tn TB jc ++ (wA cI f 7 F))))))) (fun _ => rfl) rfl hl.1 rfl (Nat.le_of_ble_eq_true rfl) dX4_talk_91 ⟨Nat.le_of_ble_eq_true rfl, Nat.le_of_ble_eq_true rfl⟩ (fun u3 H locs hp4 hP hD hS => ?_)
              obtain ⟨T11, b12⟩ := u3
              replace hp4 : T11 = dyF 0 (va_up (drF (drF Tt)) (4 + (((ushrI (drF Tt 2) 8) % 6).toNat)) ((ushrI (drF (drF Tt) 2) 8) % 21)) := hp4
              have hP : va_P D vwCl (wObj x f q kq vq h g ik ++ (wTab cI q T11 b12 ++ (wTab cI kq K (jc 1) ++ (wTab cI vq V (jc 2) ++ (wSh cI h SB SS SN ++ (wTp cB g tn TB jc ++ (wA cI f 7 F))))))) H := hP
              have hD : va_D A (wObj x f q kq vq h g ik ++ (wTab cI q T11 b12 ++ (wTab cI kq K (jc 1) ++ (wTab cI vq V (jc 2) ++ (wSh cI h SB SS SN ++ (wTp cB g tn TB jc ++ (wA cI f 7 F))))))) := hD
              refine W.eq (g2 := F0 m 94 ls []) rfl ?_
              refine x_iinc hx hb 4 ((t + 1 : Nat) : Int) (by omega) [(2, .int (iI ((t + 1 : Nat) : Int))), (4, .int (iI ((ushrI (drF (drF Tt) 2) 8) % 21))), (3, .int (iI ((ushrI (drF Tt 2) 8) % 6))), (0, .ref x), (1, .int (iI ((n0 : Nat) : Int)))] dX4_talk_94 hl rfl (by decide) rfl (fun ls hl => ?_)
              refine lv_goto (tgt := 40) hx hb dX4_talk_97 (by decide) ?_
              exact ih (t + 1) T11 b12 _ _ _ (by omega) (run_step hr hp4.symm) (by rw [hp4, show B + ((t + 1 : Nat) : Int) = B + (t : Int) + 1 by omega]; exact (dyF_I hi9).1) hP hD hS (lv_sub hl [3, 4, 0] rfl)
      exact L40 n0 0 T (jc 0) _ _ _ (by omega) rfl (by simpa using hI) hP hD hS (lv_sub hl [1, 2, 0] rfl)
    · exfalso; omega
  · refine lv_aload_n hx hb dX4_talk_10 rfl (lv_at hl 0 rfl) ?_
    refine x_ldc hx hb (-1000001) rfl hown (hts (.constant RX4 44 (-1000001)) (by decide +kernel)) dX4_talk_11 ?_
    refine x_callV (As := [.int (iI (-1000001))]) (rest := []) ⟨hx, hb, hml, hown, hts⟩ (kX4_finding x f q kq vq h g ik F (-1000001) 0 (by omega) (by omega)) (cwV 1 hts gX4_talk_X4_finding rfl rfl rfl ykVX4_finding ⟨Nat.le_of_ble_eq_true rfl, Nat.le_of_ble_eq_true rfl⟩) hP hK hD hS 0 3 rfl rfl rfl [0, 31] rfl (by decide) (fun _ => rfl) (fun _ => wObj x f q kq vq h g ik ++ (wTab cI q T (jc 0) ++ (wTab cI kq K (jc 1) ++ (wTab cI vq V (jc 2) ++ (wSh cI h SB SS SN ++ (wTp cB g tn TB jc ++ (wA cI f 7 (bmp 0 F)))))))) (fun _ => rfl) rfl hl.1 rfl (Nat.le_of_ble_eq_true rfl) dX4_talk_13 ⟨Nat.le_of_ble_eq_true rfl, Nat.le_of_ble_eq_true rfl⟩ (fun _ H locs _ hP hD hS => ?_)
    refine W.eq (g2 := F0 m 16 ls [.int (iI (-1000001))]) rfl ?_
    exact kend (((-1000001), T, K, ik, SB, SS, SN, tn, TB, (bmp 0 F)), V, jc) hP hS rfl (if_neg (by omega)).symm dX4_talk_16
theorem ykSX4_odds : yX4_odds.cls ≠ "java/lang/invoke/MethodHandle" ∧ yX4_odds.cls ≠ "java/lang/invoke/VarHandle" ∧ (parseMethodDescriptor yX4_odds.desc).map (fun d => d.parameters.length) = some 3 := by decide +kernel
theorem ykVX4_odds : yX4_odds.cls = RX4 ∧ yX4_odds.cls ≠ "java/lang/invoke/MethodHandle" ∧ yX4_odds.cls ≠ "java/lang/invoke/VarHandle" ∧ (parseMethodDescriptor yX4_odds.desc).map (fun d => d.parameters.length) = some 3 := ⟨rfl, ykSX4_odds⟩
set_option maxRecDepth 20000 in
theorem iT_X4_odds_X4 : ∀ w ∈ u_ws RX4 TX4 7, w ∈ wsX4_odds := by decide +kernel
set_option maxRecDepth 20000 in
theorem iT_X4_odds_X2 : ∀ w ∈ u_ws RX2 TX2 12, w ∈ wsX4_odds := by decide +kernel
set_option maxHeartbeats 4000000 in
set_option maxRecDepth 100000 in
theorem kX4_odds {l : Launch} {D : va_G} {cI cB : ClassId} (x f : Nat) (q kq vq h g : Nat → Nat) (T K : Tb) (ik : Int) (SB SS SN : Nat → Int) (tn : Int) (TB F : Nat → Int) (V : Tb) (jc : Nat → Int) (sp n wh : Int) (B : Int) (hG : GI B T K ik SB SS SN tn TB F) (hB : B ≤ 40000) (h_sp : rI sp) (h_n : rI n) (h_wh : rI wh) : Ct l yX4_odds wsX4_odds 2 44 D [(cI, .int), (cB, .byte)] [.ref x, .int (iI sp), .int (iI n), .int (iI wh)] (wC cI cB x f q kq vq h g (T, K, ik, SB, SS, SN, tn, TB, F) V jc) (S := (Int × Gs) × Tb × (Nat → Int)) (fun u => some (.long (lI u.1.1))) (fun u => u.1 = m_odds sp n wh T K ik SB SS SN tn TB F) (fun u => wC cI cB x f q kq vq h g u.1.2 u.2.1 u.2.2) := by
  refine CtL.of (cc := cX4_odds) (maxL := 6) (by decide +kernel) rfl (Nat.le_of_ble_eq_true rfl) ?_
  intro pg e s m args below meth c Q A hx hb hml hts hown hP hK hD hS ls hl kend
  have hown : s.vm.findClass RX4 = some m.cls := hown
  have hl : lv_has ls 6 [(0, .ref x), (1, .int (iI sp)), (2, .int (iI n)), (3, .int (iI wh))] := hl
  obtain ⟨hI, hIK, hik, hSB, hSS, hSN, htn, hTB, hF⟩ := id hG
  have hn := Inv_n hI
  have hdy := Inv_d hI
  have hP : va_P D vwCl (wObj x f q kq vq h g ik ++ (wTab cI q T (jc 0) ++ (wTab cI kq K (jc 1) ++ (wTab cI vq V (jc 2) ++ (wSh cI h SB SS SN ++ (wTp cB g tn TB jc ++ (wA cI f 7 F))))))) s.heap := hP
  have hD : va_D A (wObj x f q kq vq h g ik ++ (wTab cI q T (jc 0) ++ (wTab cI kq K (jc 1) ++ (wTab cI vq V (jc 2) ++ (wSh cI h SB SS SN ++ (wTp cB g tn TB jc ++ (wA cI f 7 F))))))) := hD
  refine lv_aload_n hx hb dX4_odds_0 rfl (lv_at hl 0 rfl) ?_
  refine va_get (D := D) (ci := 3) (v := .ref (q 0)) (C := RX4) (T := TX4) (N := 7) hx hb hts (iT_X4_odds_X4) hown hK hP 0 rfl rfl 0 (by decide) (hts (.fieldLink RX4 10 "WordSupper" "table" "LWordSupper$Table;") (by decide +kernel)) (fun _ h9 => h9) rfl dX4_odds_1 ?_
  refine lv_iload_n hx hb dX4_odds_4 rfl (lv_at hl 1 rfl) ?_
  refine x_callV (As := [.int (iI sp)]) (rest := []) ⟨hx, hb, hml, hown, hts⟩ (kX2_isSeat q T (jc 0) sp (by omega) (by omega)) (cwV 1 hts gX4_odds_X2_isSeat rfl rfl rfl ykVX2_isSeat ⟨Nat.le_of_ble_eq_true rfl, Nat.le_of_ble_eq_true rfl⟩) hP hK hD hS 1 1 rfl rfl rfl [1, 2, 3, 4, 5, 6, 7, 8] rfl (by decide) (fun _ => rfl) (fun _ => wObj x f q kq vq h g ik ++ (wTab cI q T (jc 0) ++ (wTab cI kq K (jc 1) ++ (wTab cI vq V (jc 2) ++ (wSh cI h SB SS SN ++ (wTp cB g tn TB jc ++ (wA cI f 7 F))))))) (fun _ => rfl) rfl hl.1 rfl (Nat.le_of_ble_eq_true rfl) dX4_odds_5 ⟨Nat.le_of_ble_eq_true rfl, Nat.le_of_ble_eq_true rfl⟩ (fun _ H locs _ hP hD hS => ?_)
  refine W.eq (g2 := F0 m 8 ls [.int (iI (b2 (decide (0 ≤ sp ∧ sp < T 0))))]) rfl ?_
  refine x_ifb_eq (tgt := 30) hx hb dX4_odds_8 (by decide) (fun c_8 => ?_) (fun c_8 => ?_)
  · refine lv_aload_n hx hb dX4_odds_30 rfl (lv_at hl 0 rfl) ?_
    refine x_ldc hx hb (-1000001) rfl hown (hts (.constant RX4 44 (-1000001)) (by decide +kernel)) dX4_odds_31 ?_
    refine x_callV (As := [.int (iI (-1000001))]) (rest := []) ⟨hx, hb, hml, hown, hts⟩ (kX4_finding x f q kq vq h g ik F (-1000001) 0 (by omega) (by omega)) (cwV 1 hts gX4_odds_X4_finding rfl rfl rfl ykVX4_finding ⟨Nat.le_of_ble_eq_true rfl, Nat.le_of_ble_eq_true rfl⟩) hP hK hD hS 0 3 rfl rfl rfl [0, 31] rfl (by decide) (fun _ => rfl) (fun _ => wObj x f q kq vq h g ik ++ (wTab cI q T (jc 0) ++ (wTab cI kq K (jc 1) ++ (wTab cI vq V (jc 2) ++ (wSh cI h SB SS SN ++ (wTp cB g tn TB jc ++ (wA cI f 7 (bmp 0 F)))))))) (fun _ => rfl) rfl hl.1 rfl (Nat.le_of_ble_eq_true rfl) dX4_odds_33 ⟨Nat.le_of_ble_eq_true rfl, Nat.le_of_ble_eq_true rfl⟩ (fun _ H locs _ hP hD hS => ?_)
    refine W.eq (g2 := F0 m 36 ls [.int (iI (-1000001))]) rfl ?_
    refine x_i2l hx hb (by omega) dX4_odds_36 ?_
    exact kend (((-1000001), T, K, ik, SB, SS, SN, tn, TB, (bmp 0 F)), V, jc) hP hS rfl (if_neg (by omega)).symm dX4_odds_37
  · refine lv_iload_n hx hb dX4_odds_11 rfl (lv_at hl 2 rfl) ?_
    refine x_iconst hx hb dX4_odds_12 ?_
    refine x_bipush hx hb dX4_odds_13 (by decide) ?_
    refine x_callS (As := [.int (iI n), .int (iI 0), .int (iI 23)]) (rest := []) ⟨hx, hb, hml, hown, hts⟩ (kX4_isWithin n 0 23 (by omega) (by decide) (by decide)) (va_cwS 3 hts gX4_odds_X4_isWithin rfl rfl rfl ykSX4_isWithin ⟨Nat.le_of_ble_eq_true rfl, Nat.le_of_ble_eq_true rfl⟩) hP hK hD hS [] rfl (by decide) (fun _ => rfl) (fun _ => wObj x f q kq vq h g ik ++ (wTab cI q T (jc 0) ++ (wTab cI kq K (jc 1) ++ (wTab cI vq V (jc 2) ++ (wSh cI h SB SS SN ++ (wTp cB g tn TB jc ++ (wA cI f 7 F))))))) (fun _ => rfl) rfl hl.1 rfl (Nat.le_of_ble_eq_true rfl) dX4_odds_15 ⟨Nat.le_of_ble_eq_true rfl, Nat.le_of_ble_eq_true rfl⟩ (fun _ H locs _ hP hD hS => ?_)
    refine W.eq (g2 := F0 m 18 ls [.int (iI (b2 (decide (0 ≤ n ∧ n ≤ 23))))]) rfl ?_
    refine x_ifb_eq (tgt := 30) hx hb dX4_odds_18 (by decide) (fun c_18 => ?_) (fun c_18 => ?_)
    · refine lv_aload_n hx hb dX4_odds_30 rfl (lv_at hl 0 rfl) ?_
      refine x_ldc hx hb (-1000001) rfl hown (hts (.constant RX4 44 (-1000001)) (by decide +kernel)) dX4_odds_31 ?_
      refine x_callV (As := [.int (iI (-1000001))]) (rest := []) ⟨hx, hb, hml, hown, hts⟩ (kX4_finding x f q kq vq h g ik F (-1000001) 0 (by omega) (by omega)) (cwV 1 hts gX4_odds_X4_finding rfl rfl rfl ykVX4_finding ⟨Nat.le_of_ble_eq_true rfl, Nat.le_of_ble_eq_true rfl⟩) hP hK hD hS 0 3 rfl rfl rfl [0, 31] rfl (by decide) (fun _ => rfl) (fun _ => wObj x f q kq vq h g ik ++ (wTab cI q T (jc 0) ++ (wTab cI kq K (jc 1) ++ (wTab cI vq V (jc 2) ++ (wSh cI h SB SS SN ++ (wTp cB g tn TB jc ++ (wA cI f 7 (bmp 0 F)))))))) (fun _ => rfl) rfl hl.1 rfl (Nat.le_of_ble_eq_true rfl) dX4_odds_33 ⟨Nat.le_of_ble_eq_true rfl, Nat.le_of_ble_eq_true rfl⟩ (fun _ H locs _ hP hD hS => ?_)
      refine W.eq (g2 := F0 m 36 ls [.int (iI (-1000001))]) rfl ?_
      refine x_i2l hx hb (by omega) dX4_odds_36 ?_
      exact kend (((-1000001), T, K, ik, SB, SS, SN, tn, TB, (bmp 0 F)), V, jc) hP hS rfl (if_neg (by omega)).symm dX4_odds_37
    · refine lv_iload_n hx hb dX4_odds_21 rfl (lv_at hl 3 rfl) ?_
      refine x_iconst hx hb dX4_odds_22 ?_
      refine x_iconst hx hb dX4_odds_23 ?_
      refine x_callS (As := [.int (iI wh), .int (iI 0), .int (iI 1)]) (rest := []) ⟨hx, hb, hml, hown, hts⟩ (kX4_isWithin wh 0 1 (by omega) (by decide) (by decide)) (va_cwS 3 hts gX4_odds_X4_isWithin rfl rfl rfl ykSX4_isWithin ⟨Nat.le_of_ble_eq_true rfl, Nat.le_of_ble_eq_true rfl⟩) hP hK hD hS [] rfl (by decide) (fun _ => rfl) (fun _ => wObj x f q kq vq h g ik ++ (wTab cI q T (jc 0) ++ (wTab cI kq K (jc 1) ++ (wTab cI vq V (jc 2) ++ (wSh cI h SB SS SN ++ (wTp cB g tn TB jc ++ (wA cI f 7 F))))))) (fun _ => rfl) rfl hl.1 rfl (Nat.le_of_ble_eq_true rfl) dX4_odds_24 ⟨Nat.le_of_ble_eq_true rfl, Nat.le_of_ble_eq_true rfl⟩ (fun _ H locs _ hP hD hS => ?_)
      refine W.eq (g2 := F0 m 27 ls [.int (iI (b2 (decide (0 ≤ wh ∧ wh ≤ 1))))]) rfl ?_
      refine x_ifb_ne (tgt := 38) hx hb dX4_odds_27 (by decide) (fun c_27 => ?_) (fun c_27 => ?_)
      · obtain ⟨p0, rfl⟩ : ∃ p0 : Nat, sp = (p0 : Int) := ⟨sp.toNat, by omega⟩
        obtain ⟨n0, rfl⟩ : ∃ n0 : Nat, n = (n0 : Int) := ⟨n.toNat, by omega⟩
        have hkd := Inv_k (p := p0) hI (by omega)
        have hvn := Inv_v hI
        refine x_iconst hx hb dX4_odds_38 ?_
        refine lv_istore (lv' := [(4, .int (iI 0)), (0, .ref x), (1, .int (iI ((p0 : Nat) : Int))), (2, .int (iI ((n0 : Nat) : Int))), (3, .int (iI wh))]) hx hb dX4_odds_39 hl (by decide) rfl (fun ls hl => ?_)
        refine x_iconst hx hb dX4_odds_41 ?_
        refine lv_istore (lv' := [(5, .int (iI 0)), (4, .int (iI 0)), (0, .ref x), (1, .int (iI ((p0 : Nat) : Int))), (2, .int (iI ((n0 : Nat) : Int))), (3, .int (iI wh))]) hx hb dX4_odds_42 hl (by decide) rfl (fun ls hl => ?_)
        have L44 : ∀ (k t : Nat) (cv : Nat) (H : Heap) (locs : List Loc) (ls : Array Slot), t + k = 6 → (run (fun (t : Nat) (z : Nat) => if 0 ≤ chF (T (cx p0 0)) (t : Int) (T 3) then z + 1 else z) k t cv = caF T p0) → (cv ≤ t) → va_P D vwCl (wObj x f q kq vq h g ik ++ (wTab cI q T (jc 0) ++ (wTab cI kq K (jc 1) ++ (wTab cI vq V (jc 2) ++ (wSh cI h SB SS SN ++ (wTp cB g tn TB jc ++ (wA cI f 7 F))))))) H → va_D A (wObj x f q kq vq h g ik ++ (wTab cI q T (jc 0) ++ (wTab cI kq K (jc 1) ++ (wTab cI vq V (jc 2) ++ (wSh cI h SB SS SN ++ (wTp cB g tn TB jc ++ (wA cI f 7 F))))))) → va_S A s.heap H locs → lv_has ls 6 [(0, .ref x), (1, .int (iI ((p0 : Nat) : Int))), (2, .int (iI ((n0 : Nat) : Int))), (3, .int (iI wh)), (4, .int (iI ((cv : Nat) : Int))), (5, .int (iI ((t : Nat) : Int)))] → W pg l e { frames := 2, cells := 0, slots := 0, locals := 44 } s m args below meth c H locs 0 0 Q (F0 m 44 ls []) := by
          intro k
          induction k with
          | zero =>
            intro t cv H locs ls hkt hr hc hP hD hS hl
            refine lv_iload hx hb dX4_odds_44 (lv_at hl 5 rfl) ?_
            refine x_bipush hx hb dX4_odds_46 (by decide) ?_
            refine x_icmp_ge (tgt := 84) hx hb (by omega) (by decide) dX4_odds_48 (by decide) (fun c_48 => ?_) (fun c_48 => ?_)
            · refine lv_iload_n hx hb dX4_odds_84 rfl (lv_at hl 3 rfl) ?_
              refine x_if_ne (tgt := 101) hx hb (by omega) dX4_odds_85 (by decide) (fun c_85 => ?_) (fun c_85 => ?_)
              · refine x_bipush hx hb dX4_odds_101 (by decide) ?_
                refine lv_iload hx hb dX4_odds_103 (lv_at hl 4 rfl) ?_
                refine x_callS (As := [.int (iI 6), .int (iI ((cv : Nat) : Int))]) (rest := []) ⟨hx, hb, hml, hown, hts⟩ (kX4_lowest 6 ((cv : Nat) : Int) (by omega) (by omega)) (va_cwS 2 hts gX4_odds_X4_lowest rfl rfl rfl ykSX4_lowest ⟨Nat.le_of_ble_eq_true rfl, Nat.le_of_ble_eq_true rfl⟩) hP hK hD hS [] rfl (by decide) (fun _ => rfl) (fun _ => wObj x f q kq vq h g ik ++ (wTab cI q T (jc 0) ++ (wTab cI kq K (jc 1) ++ (wTab cI vq V (jc 2) ++ (wSh cI h SB SS SN ++ (wTp cB g tn TB jc ++ (wA cI f 7 F))))))) (fun _ => rfl) rfl hl.1 rfl (Nat.le_of_ble_eq_true rfl) dX4_odds_105 ⟨Nat.le_of_ble_eq_true rfl, Nat.le_of_ble_eq_true rfl⟩ (fun _ H locs _ hP hD hS => ?_)
                refine W.eq (g2 := F0 m 108 ls [.int (iI (loF 6 ((cv : Nat) : Int) 6))]) rfl ?_
                have hl1 := loF_b (a := 6) (b := ((cv : Nat) : Int)) (by decide) 6
                refine x_i2l hx hb (by omega) dX4_odds_108 ?_
                refine lv_iload_n hx hb dX4_odds_109 rfl (lv_at hl 2 rfl) ?_
                refine x_callS (As := [.long (lI (loF 6 ((cv : Nat) : Int) 6)), .int (iI ((n0 : Nat) : Int))]) (rest := []) ⟨hx, hb, hml, hown, hts⟩ (kX4_power (loF 6 ((cv : Nat) : Int) 6) n0 (by omega)) (va_cwS 2 hts gX4_odds_X4_power rfl rfl rfl ykSX4_power ⟨Nat.le_of_ble_eq_true rfl, Nat.le_of_ble_eq_true rfl⟩) hP hK hD hS [] rfl (by decide) (fun _ => rfl) (fun _ => wObj x f q kq vq h g ik ++ (wTab cI q T (jc 0) ++ (wTab cI kq K (jc 1) ++ (wTab cI vq V (jc 2) ++ (wSh cI h SB SS SN ++ (wTp cB g tn TB jc ++ (wA cI f 7 F))))))) (fun _ => rfl) rfl hl.1 rfl (Nat.le_of_ble_eq_true rfl) dX4_odds_110 ⟨Nat.le_of_ble_eq_true rfl, Nat.le_of_ble_eq_true rfl⟩ (fun _ H locs _ hP hD hS => ?_)
                refine W.eq (g2 := F0 m 113 ls [.long (lI (pwF (loF 6 ((cv : Nat) : Int) 6) n0))]) rfl ?_
                exact kend ((pwF (loF 6 ((cv : Nat) : Int) 6) n0, T, K, ik, SB, SS, SN, tn, TB, F), V, jc) hP hS rfl (by unfold m_odds; rw [if_pos (by omega)]; simp only [Int.toNat_natCast]; rw [← hr, if_neg (by omega)] <;> rfl) dX4_odds_113
              · refine lv_iload hx hb dX4_odds_88 (lv_at hl 4 rfl) ?_
                refine x_bipush hx hb dX4_odds_90 (by decide) ?_
                refine x_callS (As := [.int (iI ((cv : Nat) : Int)), .int (iI 6)]) (rest := []) ⟨hx, hb, hml, hown, hts⟩ (kX4_lowest ((cv : Nat) : Int) 6 (by omega) (by omega)) (va_cwS 2 hts gX4_odds_X4_lowest rfl rfl rfl ykSX4_lowest ⟨Nat.le_of_ble_eq_true rfl, Nat.le_of_ble_eq_true rfl⟩) hP hK hD hS [] rfl (by decide) (fun _ => rfl) (fun _ => wObj x f q kq vq h g ik ++ (wTab cI q T (jc 0) ++ (wTab cI kq K (jc 1) ++ (wTab cI vq V (jc 2) ++ (wSh cI h SB SS SN ++ (wTp cB g tn TB jc ++ (wA cI f 7 F))))))) (fun _ => rfl) rfl hl.1 rfl (Nat.le_of_ble_eq_true rfl) dX4_odds_92 ⟨Nat.le_of_ble_eq_true rfl, Nat.le_of_ble_eq_true rfl⟩ (fun _ H locs _ hP hD hS => ?_)
                refine W.eq (g2 := F0 m 95 ls [.int (iI (loF ((cv : Nat) : Int) 6 6))]) rfl ?_
                have hl1 := loF_b (a := ((cv : Nat) : Int)) (b := 6) (by omega) 6
                refine x_i2l hx hb (by omega) dX4_odds_95 ?_
                refine lv_iload_n hx hb dX4_odds_96 rfl (lv_at hl 2 rfl) ?_
                refine x_callS (As := [.long (lI (loF ((cv : Nat) : Int) 6 6)), .int (iI ((n0 : Nat) : Int))]) (rest := []) ⟨hx, hb, hml, hown, hts⟩ (kX4_power (loF ((cv : Nat) : Int) 6 6) n0 (by omega)) (va_cwS 2 hts gX4_odds_X4_power rfl rfl rfl ykSX4_power ⟨Nat.le_of_ble_eq_true rfl, Nat.le_of_ble_eq_true rfl⟩) hP hK hD hS [] rfl (by decide) (fun _ => rfl) (fun _ => wObj x f q kq vq h g ik ++ (wTab cI q T (jc 0) ++ (wTab cI kq K (jc 1) ++ (wTab cI vq V (jc 2) ++ (wSh cI h SB SS SN ++ (wTp cB g tn TB jc ++ (wA cI f 7 F))))))) (fun _ => rfl) rfl hl.1 rfl (Nat.le_of_ble_eq_true rfl) dX4_odds_97 ⟨Nat.le_of_ble_eq_true rfl, Nat.le_of_ble_eq_true rfl⟩ (fun _ H locs _ hP hD hS => ?_)
                refine W.eq (g2 := F0 m 100 ls [.long (lI (pwF (loF ((cv : Nat) : Int) 6 6) n0))]) rfl ?_
                exact kend ((pwF (loF ((cv : Nat) : Int) 6 6) n0, T, K, ik, SB, SS, SN, tn, TB, F), V, jc) hP hS rfl (by unfold m_odds; rw [if_pos (by omega)]; simp only [Int.toNat_natCast]; rw [← hr, if_pos (by omega)] <;> rfl) dX4_odds_100
            · exfalso; omega
          | succ k ih =>
            intro t cv H locs ls hkt hr hc hP hD hS hl
            refine lv_iload hx hb dX4_odds_44 (lv_at hl 5 rfl) ?_
            refine x_bipush hx hb dX4_odds_46 (by decide) ?_
            refine x_icmp_ge (tgt := 84) hx hb (by omega) (by decide) dX4_odds_48 (by decide) (fun c_48 => ?_) (fun c_48 => ?_)
            · exfalso; omega
            · refine lv_aload_n hx hb dX4_odds_51 rfl (lv_at hl 0 rfl) ?_
              refine va_get (D := D) (ci := 3) (v := .ref (q 0)) (C := RX4) (T := TX4) (N := 7) hx hb hts (iT_X4_odds_X4) hown hK hP 0 rfl rfl 0 (by decide) (hts (.fieldLink RX4 10 "WordSupper" "table" "LWordSupper$Table;") (by decide +kernel)) (fun _ h9 => h9) rfl dX4_odds_52 ?_
              refine va_get (D := D) (ci := 1) (v := .ref (q 2)) (C := RX2) (T := TX2) (N := 12) hx hb hts (iT_X4_odds_X2) hown hK hP 1 rfl rfl 6 (by decide) (hts (.fieldLink RX4 81 "WordSupper$Table" "kind" "[I") (by decide +kernel)) (fun _ h9 => h9) rfl dX4_odds_55 ?_
              refine lv_iload_n hx hb dX4_odds_58 rfl (lv_at hl 1 rfl) ?_
              refine x_iald hx hb hK hP 3 0 rfl rfl p0 rfl (by omega) (by decide) (T (cx p0 0)) (gd_at _ (by omega)) dX4_odds_59 ?_
              refine lv_iload hx hb dX4_odds_60 (lv_at hl 5 rfl) ?_
              refine lv_aload_n hx hb dX4_odds_62 rfl (lv_at hl 0 rfl) ?_
              refine va_get (D := D) (ci := 3) (v := .ref (q 0)) (C := RX4) (T := TX4) (N := 7) hx hb hts (iT_X4_odds_X4) hown hK hP 0 rfl rfl 0 (by decide) (hts (.fieldLink RX4 10 "WordSupper" "table" "LWordSupper$Table;") (by decide +kernel)) (fun _ h9 => h9) rfl dX4_odds_63 ?_
              refine va_get (D := D) (ci := 1) (v := .int (iI (T 3))) (C := RX2) (T := TX2) (N := 12) hx hb hts (iT_X4_odds_X2) hown hK hP 1 rfl rfl 1 (by decide) (hts (.fieldLink RX4 49 "WordSupper$Table" "vinegar" "I") (by decide +kernel)) (fun _ h9 => h9) rfl dX4_odds_66 ?_
              refine x_callS (As := [.int (iI (T (cx p0 0))), .int (iI ((t : Nat) : Int)), .int (iI (T 3))]) (rest := []) ⟨hx, hb, hml, hown, hts⟩ (kX0_bites (T (cx p0 0)) t (T 3) (by omega) (by omega) (by omega)) (va_cwS 3 hts gX4_odds_X0_bites rfl rfl rfl ykSX0_bites ⟨Nat.le_of_ble_eq_true rfl, Nat.le_of_ble_eq_true rfl⟩) hP hK hD hS [] rfl (by decide) (fun _ => rfl) (fun _ => wObj x f q kq vq h g ik ++ (wTab cI q T (jc 0) ++ (wTab cI kq K (jc 1) ++ (wTab cI vq V (jc 2) ++ (wSh cI h SB SS SN ++ (wTp cB g tn TB jc ++ (wA cI f 7 F))))))) (fun _ => rfl) rfl hl.1 rfl (Nat.le_of_ble_eq_true rfl) dX4_odds_69 ⟨Nat.le_of_ble_eq_true rfl, Nat.le_of_ble_eq_true rfl⟩ (fun _ H locs _ hP hD hS => ?_)
              refine W.eq (g2 := F0 m 72 ls [.int (iI (chF (T (cx p0 0)) ((t : Nat) : Int) (T 3)))]) rfl ?_
              have hcb := chF_b (t := (t : Int)) hkd hvn
              refine x_if_lt (tgt := 78) hx hb (by omega) dX4_odds_72 (by decide) (fun c_72 => ?_) (fun c_72 => ?_)
              · refine x_iinc hx hb 5 ((t + 1 : Nat) : Int) (by omega) [(5, .int (iI ((t + 1 : Nat) : Int))), (0, .ref x), (1, .int (iI ((p0 : Nat) : Int))), (2, .int (iI ((n0 : Nat) : Int))), (3, .int (iI wh)), (4, .int (iI ((cv : Nat) : Int)))] dX4_odds_78 hl rfl (by decide) rfl (fun ls hl => ?_)
                refine lv_goto (tgt := 44) hx hb dX4_odds_81 (by decide) ?_
                exact ih (t + 1) cv _ _ _ (by omega) (run_step hr (if_neg (by omega))) (by omega) hP hD hS (lv_sub hl [1, 2, 3, 4, 5, 0] rfl)
              · refine x_iinc hx hb 4 ((cv + 1 : Nat) : Int) (by omega) [(4, .int (iI ((cv + 1 : Nat) : Int))), (0, .ref x), (1, .int (iI ((p0 : Nat) : Int))), (2, .int (iI ((n0 : Nat) : Int))), (3, .int (iI wh)), (5, .int (iI ((t : Nat) : Int)))] dX4_odds_75 hl rfl (by decide) rfl (fun ls hl => ?_)
                refine x_iinc hx hb 5 ((t + 1 : Nat) : Int) (by omega) [(5, .int (iI ((t + 1 : Nat) : Int))), (4, .int (iI ((cv + 1 : Nat) : Int))), (0, .ref x), (1, .int (iI ((p0 : Nat) : Int))), (2, .int (iI ((n0 : Nat) : Int))), (3, .int (iI wh))] dX4_odds_78 hl rfl (by decide) rfl (fun ls hl => ?_)
                refine lv_goto (tgt := 44) hx hb dX4_odds_81 (by decide) ?_
                exact ih (t + 1) (cv + 1) _ _ _ (by omega) (run_step hr (if_pos (by omega))) (by omega) hP hD hS (lv_sub hl [2, 3, 4, 5, 1, 0] rfl)
        exact L44 6 0 0 _ _ _ (by omega) rfl (Nat.le_refl 0) hP hD hS (lv_sub hl [2, 3, 4, 5, 1, 0] rfl)
      · refine lv_aload_n hx hb dX4_odds_30 rfl (lv_at hl 0 rfl) ?_
        refine x_ldc hx hb (-1000001) rfl hown (hts (.constant RX4 44 (-1000001)) (by decide +kernel)) dX4_odds_31 ?_
        refine x_callV (As := [.int (iI (-1000001))]) (rest := []) ⟨hx, hb, hml, hown, hts⟩ (kX4_finding x f q kq vq h g ik F (-1000001) 0 (by omega) (by omega)) (cwV 1 hts gX4_odds_X4_finding rfl rfl rfl ykVX4_finding ⟨Nat.le_of_ble_eq_true rfl, Nat.le_of_ble_eq_true rfl⟩) hP hK hD hS 0 3 rfl rfl rfl [0, 31] rfl (by decide) (fun _ => rfl) (fun _ => wObj x f q kq vq h g ik ++ (wTab cI q T (jc 0) ++ (wTab cI kq K (jc 1) ++ (wTab cI vq V (jc 2) ++ (wSh cI h SB SS SN ++ (wTp cB g tn TB jc ++ (wA cI f 7 (bmp 0 F)))))))) (fun _ => rfl) rfl hl.1 rfl (Nat.le_of_ble_eq_true rfl) dX4_odds_33 ⟨Nat.le_of_ble_eq_true rfl, Nat.le_of_ble_eq_true rfl⟩ (fun _ H locs _ hP hD hS => ?_)
        refine W.eq (g2 := F0 m 36 ls [.int (iI (-1000001))]) rfl ?_
        refine x_i2l hx hb (by omega) dX4_odds_36 ?_
        exact kend (((-1000001), T, K, ik, SB, SS, SN, tn, TB, (bmp 0 F)), V, jc) hP hS rfl (if_neg (by omega)).symm dX4_odds_37
theorem ykSX4_fits : yX4_fits.cls ≠ "java/lang/invoke/MethodHandle" ∧ yX4_fits.cls ≠ "java/lang/invoke/VarHandle" ∧ (parseMethodDescriptor yX4_fits.desc).map (fun d => d.parameters.length) = some 2 := by decide +kernel
theorem ykVX4_fits : yX4_fits.cls = RX4 ∧ yX4_fits.cls ≠ "java/lang/invoke/MethodHandle" ∧ yX4_fits.cls ≠ "java/lang/invoke/VarHandle" ∧ (parseMethodDescriptor yX4_fits.desc).map (fun d => d.parameters.length) = some 2 := ⟨rfl, ykSX4_fits⟩
set_option maxRecDepth 20000 in
theorem iT_X4_fits_X4 : ∀ w ∈ u_ws RX4 TX4 7, w ∈ wsX4_fits := by decide +kernel
set_option maxHeartbeats 4000000 in
set_option maxRecDepth 100000 in
theorem kX4_fits {l : Launch} {D : va_G} {cI cB : ClassId} (x f : Nat) (q kq vq h g : Nat → Nat) (T K : Tb) (ik : Int) (SB SS SN : Nat → Int) (tn : Int) (TB F : Nat → Int) (V : Tb) (jc : Nat → Int) (s0 sp : Int) (B : Int) (hG : GI B T K ik SB SS SN tn TB F) (hB : B ≤ 40000) (h_s0 : rI s0) (h_sp : rI sp) : Ct l yX4_fits wsX4_fits 6 138 D [(cI, .int), (cB, .byte)] [.ref x, .int (iI s0), .int (iI sp)] (wC cI cB x f q kq vq h g (T, K, ik, SB, SS, SN, tn, TB, F) V jc) (S := (Int × Gs) × Tb × (Nat → Int)) (fun u => some (.int (iI u.1.1))) (fun u => u.1 = m_fits s0 sp T K ik SB SS SN tn TB F) (fun u => wC cI cB x f q kq vq h g u.1.2 u.2.1 u.2.2) := by
  refine CtI.of (cc := cX4_fits) (maxL := 6) (by decide +kernel) rfl (Nat.le_of_ble_eq_true rfl) ?_
  intro pg e s m args below meth c Q A hx hb hml hts hown hP hK hD hS ls hl kend
  have hown : s.vm.findClass RX4 = some m.cls := hown
  have hl : lv_has ls 6 [(0, .ref x), (1, .int (iI s0)), (2, .int (iI sp))] := hl
  obtain ⟨hI, hIK, hik, hSB, hSS, hSN, htn, hTB, hF⟩ := id hG
  have hn := Inv_n hI
  have hdy := Inv_d hI
  have hP : va_P D vwCl (wObj x f q kq vq h g ik ++ (wTab cI q T (jc 0) ++ (wTab cI kq K (jc 1) ++ (wTab cI vq V (jc 2) ++ (wSh cI h SB SS SN ++ (wTp cB g tn TB jc ++ (wA cI f 7 F))))))) s.heap := hP
  have hD : va_D A (wObj x f q kq vq h g ik ++ (wTab cI q T (jc 0) ++ (wTab cI kq K (jc 1) ++ (wTab cI vq V (jc 2) ++ (wSh cI h SB SS SN ++ (wTp cB g tn TB jc ++ (wA cI f 7 F))))))) := hD
  have hwt := wtF_c SB (T 0) s0 sp
  refine lv_aload_n hx hb dX4_fits_0 rfl (lv_at hl 0 rfl) ?_
  refine lv_iload_n hx hb dX4_fits_1 rfl (lv_at hl 1 rfl) ?_
  refine lv_iload_n hx hb dX4_fits_2 rfl (lv_at hl 2 rfl) ?_
  refine x_callV (As := [.int (iI s0), .int (iI sp)]) (rest := []) ⟨hx, hb, hml, hown, hts⟩ (kX4_wrongTold x f q kq vq h g ik T (jc 0) SB SS SN s0 sp (by omega) (by omega) (by omega) hSB) (cwV 2 hts gX4_fits_X4_wrongTold rfl rfl rfl ykVX4_wrongTold ⟨Nat.le_of_ble_eq_true rfl, Nat.le_of_ble_eq_true rfl⟩) hP hK hD hS 0 3 rfl rfl rfl [0, 1, 2, 3, 4, 5, 6, 7, 8, 25, 26, 27, 28] rfl (by decide) (fun _ => rfl) (fun _ => wObj x f q kq vq h g ik ++ (wTab cI q T (jc 0) ++ (wTab cI kq K (jc 1) ++ (wTab cI vq V (jc 2) ++ (wSh cI h SB SS SN ++ (wTp cB g tn TB jc ++ (wA cI f 7 F))))))) (fun _ => rfl) rfl hl.1 rfl (Nat.le_of_ble_eq_true rfl) dX4_fits_3 ⟨Nat.le_of_ble_eq_true rfl, Nat.le_of_ble_eq_true rfl⟩ (fun _ H locs _ hP hD hS => ?_)
  refine W.eq (g2 := F0 m 6 ls [.int (iI (wtF SB (T 0) s0 sp))]) rfl ?_
  refine lv_istore_n (lv' := [(3, .int (iI (wtF SB (T 0) s0 sp))), (0, .ref x), (1, .int (iI s0)), (2, .int (iI sp))]) hx hb dX4_fits_6 rfl hl (by decide) rfl (fun ls hl => ?_)
  refine lv_iload_n hx hb dX4_fits_7 rfl (lv_at hl 0 rfl) ?_
  refine x_if_eq (tgt := 17) hx hb (by omega) dX4_fits_8 (by decide) (fun c_8 => ?_) (fun c_8 => ?_)
  · have hs9 := wtF_0 (show wtF SB (T 0) s0 sp = 0 by omega)
    obtain ⟨s1, rfl⟩ : ∃ s1 : Nat, s0 = (s1 : Int) := ⟨s0.toNat, by omega⟩
    obtain ⟨p0, rfl⟩ : ∃ p0 : Nat, sp = (p0 : Int) := ⟨sp.toNat, by omega⟩
    have hz := hSS s1 (by omega)
    refine x_iconst hx hb dX4_fits_17 ?_
    refine lv_istore (lv' := [(4, .int (iI 0)), (3, .int (iI (wtF SB (T 0) ((s1 : Nat) : Int) ((p0 : Nat) : Int)))), (0, .ref x), (1, .int (iI ((s1 : Nat) : Int))), (2, .int (iI ((p0 : Nat) : Int)))]) hx hb dX4_fits_18 hl (by decide) rfl (fun ls hl => ?_)
    refine x_iconst hx hb dX4_fits_20 ?_
    refine lv_istore (lv' := [(5, .int (iI 0)), (4, .int (iI 0)), (3, .int (iI (wtF SB (T 0) ((s1 : Nat) : Int) ((p0 : Nat) : Int)))), (0, .ref x), (1, .int (iI ((s1 : Nat) : Int))), (2, .int (iI ((p0 : Nat) : Int)))]) hx hb dX4_fits_21 hl (by decide) rfl (fun ls hl => ?_)
    have L23 : ∀ (k t : Nat) (Vt : Tb) (bt : Int) (sv : Int) (H : Heap) (locs : List Loc) (ls : Array Slot), t + k = 6 → (run (seS (fun (t : Nat) => toF SN (40 * s1) p0 (SS s1).toNat 0 (va_up T (cx p0 (4 + t)) (min 999 (T (cx p0 (4 + t)) + 1))))) k t sv = seF (fun (t : Nat) => toF SN (40 * s1) p0 (SS s1).toNat 0 (va_up T (cx p0 (4 + t)) (min 999 (T (cx p0 (4 + t)) + 1)))) 6) → va_P D vwCl (wObj x f q kq vq h g ik ++ (wTab cI q T (jc 0) ++ (wTab cI kq K (jc 1) ++ (wTab cI vq Vt bt ++ (wSh cI h SB SS SN ++ (wTp cB g tn TB jc ++ (wA cI f 7 F))))))) H → va_D A (wObj x f q kq vq h g ik ++ (wTab cI q T (jc 0) ++ (wTab cI kq K (jc 1) ++ (wTab cI vq Vt bt ++ (wSh cI h SB SS SN ++ (wTp cB g tn TB jc ++ (wA cI f 7 F))))))) → va_S A s.heap H locs → lv_has ls 6 [(0, .ref x), (1, .int (iI ((s1 : Nat) : Int))), (2, .int (iI ((p0 : Nat) : Int))), (3, .int (iI (wtF SB (T 0) ((s1 : Nat) : Int) ((p0 : Nat) : Int)))), (4, .int (iI sv)), (5, .int (iI ((t : Nat) : Int)))] → W pg l e { frames := 6, cells := 0, slots := 0, locals := 138 } s m args below meth c H locs 0 0 Q (F0 m 23 ls []) := by
      intro k
      induction k with
      | zero =>
        intro t Vt bt sv H locs ls hkt hr hP hD hS hl
        refine lv_iload hx hb dX4_fits_23 (lv_at hl 5 rfl) ?_
        refine x_bipush hx hb dX4_fits_25 (by decide) ?_
        refine x_icmp_ge (tgt := 76) hx hb (by omega) (by decide) dX4_fits_27 (by decide) (fun c_27 => ?_) (fun c_27 => ?_)
        · refine lv_iload hx hb dX4_fits_76 (lv_at hl 4 rfl) ?_
          exact kend ((sv, T, K, ik, SB, SS, SN, tn, TB, F), Vt, va_up jc 2 bt) hP hS rfl (by unfold m_fits; rw [if_neg (by omega)]; simp only [Int.toNat_natCast]; rw [← hr] <;> rfl) dX4_fits_78
        · exfalso; omega
      | succ k ih =>
        intro t Vt bt sv H locs ls hkt hr hP hD hS hl
        refine lv_iload hx hb dX4_fits_23 (lv_at hl 5 rfl) ?_
        refine x_bipush hx hb dX4_fits_25 (by decide) ?_
        refine x_icmp_ge (tgt := 76) hx hb (by omega) (by decide) dX4_fits_27 (by decide) (fun c_27 => ?_) (fun c_27 => ?_)
        · exfalso; omega
        · have hq1 := Inv_pl (p := p0) hI (by omega) (show t < 6 by omega)
          refine lv_aload_n hx hb dX4_fits_30 rfl (lv_at hl 0 rfl) ?_
          refine va_get (D := D) (ci := 3) (v := .ref (vq 0)) (C := RX4) (T := TX4) (N := 7) hx hb hts (iT_X4_fits_X4) hown hK hP 0 rfl rfl 2 (by decide) (hts (.fieldLink RX4 19 "WordSupper" "spare" "LWordSupper$Table;") (by decide +kernel)) (fun _ h9 => h9) rfl dX4_fits_31 ?_
          refine lv_aload_n hx hb dX4_fits_34 rfl (lv_at hl 0 rfl) ?_
          refine va_get (D := D) (ci := 3) (v := .ref (q 0)) (C := RX4) (T := TX4) (N := 7) hx hb hts (iT_X4_fits_X4) hown hK hP 0 rfl rfl 0 (by decide) (hts (.fieldLink RX4 10 "WordSupper" "table" "LWordSupper$Table;") (by decide +kernel)) (fun _ h9 => h9) rfl dX4_fits_35 ?_
          refine x_callV (As := [.ref (q 0)]) (rest := []) ⟨hx, hb, hml, hown, hts⟩ (kX2_become vq Vt bt q T (jc 0) ) (cwV 1 hts gX4_fits_X2_become rfl rfl rfl ykVX2_become ⟨Nat.le_of_ble_eq_true rfl, Nat.le_of_ble_eq_true rfl⟩) hP hK hD hS 17 1 rfl rfl rfl [17, 18, 19, 20, 21, 22, 23, 24, 1, 2, 3, 4, 5, 6, 7, 8] rfl (by decide) (fun _ => rfl) (fun _ => wObj x f q kq vq h g ik ++ (wTab cI q T (jc 0) ++ (wTab cI kq K (jc 1) ++ (wTab cI vq T bt ++ (wSh cI h SB SS SN ++ (wTp cB g tn TB jc ++ (wA cI f 7 F))))))) (fun _ => rfl) rfl hl.1 rfl (Nat.le_of_ble_eq_true rfl) dX4_fits_38 ⟨Nat.le_of_ble_eq_true rfl, Nat.le_of_ble_eq_true rfl⟩ (fun _ H locs _ hP hD hS => ?_)
          refine W.eq (g2 := F0 m 41 ls []) rfl ?_
          refine lv_aload_n hx hb dX4_fits_41 rfl (lv_at hl 0 rfl) ?_
          refine va_get (D := D) (ci := 3) (v := .ref (vq 0)) (C := RX4) (T := TX4) (N := 7) hx hb hts (iT_X4_fits_X4) hown hK hP 0 rfl rfl 2 (by decide) (hts (.fieldLink RX4 19 "WordSupper" "spare" "LWordSupper$Table;") (by decide +kernel)) (fun _ h9 => h9) rfl dX4_fits_42 ?_
          refine lv_iload_n hx hb dX4_fits_45 rfl (lv_at hl 2 rfl) ?_
          refine lv_iload hx hb dX4_fits_46 (lv_at hl 5 rfl) ?_
          refine x_iconst hx hb dX4_fits_48 ?_
          refine x_callV (As := [.int (iI ((p0 : Nat) : Int)), .int (iI ((t : Nat) : Int)), .int (iI 1)]) (rest := []) ⟨hx, hb, hml, hown, hts⟩ (kX2_say vq T bt p0 t 1 (by omega) (by omega) (by omega) (by omega)) (cwV 3 hts gX4_fits_X2_say rfl rfl rfl ykVX2_say ⟨Nat.le_of_ble_eq_true rfl, Nat.le_of_ble_eq_true rfl⟩) hP hK hD hS 17 1 rfl rfl rfl [17, 18, 19, 20, 21, 22, 23, 24] rfl (by decide) (fun _ => rfl) (fun _ => wObj x f q kq vq h g ik ++ (wTab cI q T (jc 0) ++ (wTab cI kq K (jc 1) ++ (wTab cI vq (va_up T (cx p0 (4 + t)) (min 999 (T (cx p0 (4 + t)) + 1))) bt ++ (wSh cI h SB SS SN ++ (wTp cB g tn TB jc ++ (wA cI f 7 F))))))) (fun _ => rfl) rfl hl.1 rfl (Nat.le_of_ble_eq_true rfl) dX4_fits_49 ⟨Nat.le_of_ble_eq_true rfl, Nat.le_of_ble_eq_true rfl⟩ (fun _ H locs _ hP hD hS => ?_)
          refine W.eq (g2 := F0 m 52 ls []) rfl ?_
          refine lv_aload_n hx hb dX4_fits_52 rfl (lv_at hl 0 rfl) ?_
          refine lv_iload_n hx hb dX4_fits_53 rfl (lv_at hl 1 rfl) ?_
          refine lv_iload_n hx hb dX4_fits_54 rfl (lv_at hl 2 rfl) ?_
          refine x_callV (As := [.int (iI ((s1 : Nat) : Int)), .int (iI ((p0 : Nat) : Int))]) (rest := []) ⟨hx, hb, hml, hown, hts⟩ (kX4_isAsTold x f q kq vq h g ik (va_up T (cx p0 (4 + t)) (min 999 (T (cx p0 (4 + t)) + 1))) bt SB SS SN s1 p0 B (Inv_cx hI (by omega) (by omega) (fun _ => pkd_pl (by omega))) (by omega) (by rw [up_lo _ _ (by omega)]; omega) (by omega) hSS hSN) (cwV 2 hts gX4_fits_X4_isAsTold rfl rfl rfl ykVX4_isAsTold ⟨Nat.le_of_ble_eq_true rfl, Nat.le_of_ble_eq_true rfl⟩) hP hK hD hS 0 3 rfl rfl rfl [0, 17, 18, 19, 20, 21, 22, 23, 24, 25, 26, 27, 28] rfl (by decide) (fun _ => rfl) (fun u => wObj x f q kq vq h g ik ++ (wTab cI q T (jc 0) ++ (wTab cI kq K (jc 1) ++ (wTab cI vq u.1 u.2 ++ (wSh cI h SB SS SN ++ (wTp cB g tn TB jc ++ (wA cI f 7 F))))))) (fun _ => rfl) rfl hl.1 rfl (Nat.le_of_ble_eq_true rfl) dX4_fits_55 ⟨Nat.le_of_ble_eq_true rfl, Nat.le_of_ble_eq_true rfl⟩ (fun u3 H locs hp4 hP hD hS => ?_)
          obtain ⟨V11, b12⟩ := u3
          have hP : va_P D vwCl (wObj x f q kq vq h g ik ++ (wTab cI q T (jc 0) ++ (wTab cI kq K (jc 1) ++ (wTab cI vq V11 b12 ++ (wSh cI h SB SS SN ++ (wTp cB g tn TB jc ++ (wA cI f 7 F))))))) H := hP
          have hD : va_D A (wObj x f q kq vq h g ik ++ (wTab cI q T (jc 0) ++ (wTab cI kq K (jc 1) ++ (wTab cI vq V11 b12 ++ (wSh cI h SB SS SN ++ (wTp cB g tn TB jc ++ (wA cI f 7 F))))))) := hD
          refine W.eq (g2 := F0 m 58 ls [.int (iI (b2 (decide (toF SN (40 * s1) p0 (SS s1).toNat 0 (va_up T (cx p0 (4 + t)) (min 999 (T (cx p0 (4 + t)) + 1))) = true))))]) rfl ?_
          refine x_ifb_eq (tgt := 70) hx hb dX4_fits_58 (by decide) (fun c_58 => ?_) (fun c_58 => ?_)
          · refine x_iinc hx hb 5 ((t + 1 : Nat) : Int) (by omega) [(5, .int (iI ((t + 1 : Nat) : Int))), (0, .ref x), (1, .int (iI ((s1 : Nat) : Int))), (2, .int (iI ((p0 : Nat) : Int))), (3, .int (iI (wtF SB (T 0) ((s1 : Nat) : Int) ((p0 : Nat) : Int)))), (4, .int (iI sv))] dX4_fits_70 hl rfl (by decide) rfl (fun ls hl => ?_)
            refine lv_goto (tgt := 23) hx hb dX4_fits_73 (by decide) ?_
            exact ih (t + 1) V11 b12 sv _ _ _ (by omega) (run_step hr (if_neg c_58)) hP hD hS (lv_sub hl [1, 2, 3, 4, 5, 0] rfl)
          · refine lv_iload hx hb dX4_fits_61 (lv_at hl 4 rfl) ?_
            refine x_iconst hx hb dX4_fits_63 ?_
            refine lv_iload hx hb dX4_fits_64 (lv_at hl 5 rfl) ?_
            refine x_ishl hx hb dX4_fits_66 ?_
            refine x_ior hx hb dX4_fits_67 ?_
            refine lv_istore (lv' := [(4, .int (iI (orI sv (shlI 1 ((t : Nat) : Int))))), (0, .ref x), (1, .int (iI ((s1 : Nat) : Int))), (2, .int (iI ((p0 : Nat) : Int))), (3, .int (iI (wtF SB (T 0) ((s1 : Nat) : Int) ((p0 : Nat) : Int)))), (5, .int (iI ((t : Nat) : Int)))]) hx hb dX4_fits_68 hl (by decide) rfl (fun ls hl => ?_)
            refine x_iinc hx hb 5 ((t + 1 : Nat) : Int) (by omega) [(5, .int (iI ((t + 1 : Nat) : Int))), (4, .int (iI (orI sv (shlI 1 ((t : Nat) : Int))))), (0, .ref x), (1, .int (iI ((s1 : Nat) : Int))), (2, .int (iI ((p0 : Nat) : Int))), (3, .int (iI (wtF SB (T 0) ((s1 : Nat) : Int) ((p0 : Nat) : Int))))] dX4_fits_70 hl rfl (by decide) rfl (fun ls hl => ?_)
            refine lv_goto (tgt := 23) hx hb dX4_fits_73 (by decide) ?_
            exact ih (t + 1) V11 b12 (orI sv (shlI 1 ((t : Nat) : Int))) _ _ _ (by omega) (run_step hr (if_pos c_58)) hP hD hS (lv_sub hl [2, 3, 4, 5, 1, 0] rfl)
    exact L23 6 0 V (jc 2) 0 _ _ _ (by omega) rfl hP hD hS (lv_sub hl [3, 4, 5, 2, 1, 0] rfl)
  · refine lv_aload_n hx hb dX4_fits_11 rfl (lv_at hl 1 rfl) ?_
    refine lv_iload_n hx hb dX4_fits_12 rfl (lv_at hl 0 rfl) ?_
    refine x_callV (As := [.int (iI (wtF SB (T 0) s0 sp))]) (rest := []) ⟨hx, hb, hml, hown, hts⟩ (kX4_finding x f q kq vq h g ik F (wtF SB (T 0) s0 sp) (-1000001 - wtF SB (T 0) s0 sp).toNat (by omega) (by omega)) (cwV 1 hts gX4_fits_X4_finding rfl rfl rfl ykVX4_finding ⟨Nat.le_of_ble_eq_true rfl, Nat.le_of_ble_eq_true rfl⟩) hP hK hD hS 0 3 rfl rfl rfl [0, 31] rfl (by decide) (fun _ => rfl) (fun _ => wObj x f q kq vq h g ik ++ (wTab cI q T (jc 0) ++ (wTab cI kq K (jc 1) ++ (wTab cI vq V (jc 2) ++ (wSh cI h SB SS SN ++ (wTp cB g tn TB jc ++ (wA cI f 7 (bmp (-1000001 - wtF SB (T 0) s0 sp).toNat F)))))))) (fun _ => rfl) rfl hl.1 rfl (Nat.le_of_ble_eq_true rfl) dX4_fits_13 ⟨Nat.le_of_ble_eq_true rfl, Nat.le_of_ble_eq_true rfl⟩ (fun _ H locs _ hP hD hS => ?_)
    refine W.eq (g2 := F0 m 16 ls [.int (iI (wtF SB (T 0) s0 sp))]) rfl ?_
    exact kend (((wtF SB (T 0) s0 sp), T, K, ik, SB, SS, SN, tn, TB, (bmp (-1000001 - wtF SB (T 0) s0 sp).toNat F)), V, jc) hP hS rfl (if_pos (by omega)).symm dX4_fits_16
theorem ykSX4_kinds : yX4_kinds.cls ≠ "java/lang/invoke/MethodHandle" ∧ yX4_kinds.cls ≠ "java/lang/invoke/VarHandle" ∧ (parseMethodDescriptor yX4_kinds.desc).map (fun d => d.parameters.length) = some 2 := by decide +kernel
theorem ykVX4_kinds : yX4_kinds.cls = RX4 ∧ yX4_kinds.cls ≠ "java/lang/invoke/MethodHandle" ∧ yX4_kinds.cls ≠ "java/lang/invoke/VarHandle" ∧ (parseMethodDescriptor yX4_kinds.desc).map (fun d => d.parameters.length) = some 2 := ⟨rfl, ykSX4_kinds⟩
set_option maxRecDepth 20000 in
theorem iT_X4_kinds_X4 : ∀ w ∈ u_ws RX4 TX4 7, w ∈ wsX4_kinds := by decide +kernel
set_option maxRecDepth 20000 in
theorem iT_X4_kinds_X2 : ∀ w ∈ u_ws RX2 TX2 12, w ∈ wsX4_kinds := by decide +kernel
set_option maxHeartbeats 4000000 in
set_option maxRecDepth 100000 in
theorem kX4_kinds {l : Launch} {D : va_G} {cI cB : ClassId} (x f : Nat) (q kq vq h g : Nat → Nat) (T K : Tb) (ik : Int) (SB SS SN : Nat → Int) (tn : Int) (TB F : Nat → Int) (V : Tb) (jc : Nat → Int) (s0 sp : Int) (B : Int) (hG : GI B T K ik SB SS SN tn TB F) (hB : B ≤ 40000) (h_s0 : rI s0) (h_sp : rI sp) : Ct l yX4_kinds wsX4_kinds 6 138 D [(cI, .int), (cB, .byte)] [.ref x, .int (iI s0), .int (iI sp)] (wC cI cB x f q kq vq h g (T, K, ik, SB, SS, SN, tn, TB, F) V jc) (S := (Int × Gs) × Tb × (Nat → Int)) (fun u => some (.int (iI u.1.1))) (fun u => u.1 = m_kinds s0 sp T K ik SB SS SN tn TB F) (fun u => wC cI cB x f q kq vq h g u.1.2 u.2.1 u.2.2) := by
  refine CtI.of (cc := cX4_kinds) (maxL := 6) (by decide +kernel) rfl (Nat.le_of_ble_eq_true rfl) ?_
  intro pg e s m args below meth c Q A hx hb hml hts hown hP hK hD hS ls hl kend
  have hown : s.vm.findClass RX4 = some m.cls := hown
  have hl : lv_has ls 6 [(0, .ref x), (1, .int (iI s0)), (2, .int (iI sp))] := hl
  obtain ⟨hI, hIK, hik, hSB, hSS, hSN, htn, hTB, hF⟩ := id hG
  have hn := Inv_n hI
  have hdy := Inv_d hI
  have hP : va_P D vwCl (wObj x f q kq vq h g ik ++ (wTab cI q T (jc 0) ++ (wTab cI kq K (jc 1) ++ (wTab cI vq V (jc 2) ++ (wSh cI h SB SS SN ++ (wTp cB g tn TB jc ++ (wA cI f 7 F))))))) s.heap := hP
  have hD : va_D A (wObj x f q kq vq h g ik ++ (wTab cI q T (jc 0) ++ (wTab cI kq K (jc 1) ++ (wTab cI vq V (jc 2) ++ (wSh cI h SB SS SN ++ (wTp cB g tn TB jc ++ (wA cI f 7 F))))))) := hD
  have hwt := wtF_c SB (T 0) s0 sp
  refine lv_aload_n hx hb dX4_kinds_0 rfl (lv_at hl 0 rfl) ?_
  refine lv_iload_n hx hb dX4_kinds_1 rfl (lv_at hl 1 rfl) ?_
  refine lv_iload_n hx hb dX4_kinds_2 rfl (lv_at hl 2 rfl) ?_
  refine x_callV (As := [.int (iI s0), .int (iI sp)]) (rest := []) ⟨hx, hb, hml, hown, hts⟩ (kX4_wrongTold x f q kq vq h g ik T (jc 0) SB SS SN s0 sp (by omega) (by omega) (by omega) hSB) (cwV 2 hts gX4_kinds_X4_wrongTold rfl rfl rfl ykVX4_wrongTold ⟨Nat.le_of_ble_eq_true rfl, Nat.le_of_ble_eq_true rfl⟩) hP hK hD hS 0 3 rfl rfl rfl [0, 1, 2, 3, 4, 5, 6, 7, 8, 25, 26, 27, 28] rfl (by decide) (fun _ => rfl) (fun _ => wObj x f q kq vq h g ik ++ (wTab cI q T (jc 0) ++ (wTab cI kq K (jc 1) ++ (wTab cI vq V (jc 2) ++ (wSh cI h SB SS SN ++ (wTp cB g tn TB jc ++ (wA cI f 7 F))))))) (fun _ => rfl) rfl hl.1 rfl (Nat.le_of_ble_eq_true rfl) dX4_kinds_3 ⟨Nat.le_of_ble_eq_true rfl, Nat.le_of_ble_eq_true rfl⟩ (fun _ H locs _ hP hD hS => ?_)
  refine W.eq (g2 := F0 m 6 ls [.int (iI (wtF SB (T 0) s0 sp))]) rfl ?_
  refine lv_istore_n (lv' := [(3, .int (iI (wtF SB (T 0) s0 sp))), (0, .ref x), (1, .int (iI s0)), (2, .int (iI sp))]) hx hb dX4_kinds_6 rfl hl (by decide) rfl (fun ls hl => ?_)
  refine lv_iload_n hx hb dX4_kinds_7 rfl (lv_at hl 0 rfl) ?_
  refine x_if_eq (tgt := 17) hx hb (by omega) dX4_kinds_8 (by decide) (fun c_8 => ?_) (fun c_8 => ?_)
  · have hs9 := wtF_0 (show wtF SB (T 0) s0 sp = 0 by omega)
    obtain ⟨s1, rfl⟩ : ∃ s1 : Nat, s0 = (s1 : Int) := ⟨s0.toNat, by omega⟩
    obtain ⟨p0, rfl⟩ : ∃ p0 : Nat, sp = (p0 : Int) := ⟨sp.toNat, by omega⟩
    have hz := hSS s1 (by omega)
    refine x_iconst hx hb dX4_kinds_17 ?_
    refine lv_istore (lv' := [(4, .int (iI 0)), (3, .int (iI (wtF SB (T 0) ((s1 : Nat) : Int) ((p0 : Nat) : Int)))), (0, .ref x), (1, .int (iI ((s1 : Nat) : Int))), (2, .int (iI ((p0 : Nat) : Int)))]) hx hb dX4_kinds_18 hl (by decide) rfl (fun ls hl => ?_)
    refine x_iconst hx hb dX4_kinds_20 ?_
    refine lv_istore (lv' := [(5, .int (iI 0)), (4, .int (iI 0)), (3, .int (iI (wtF SB (T 0) ((s1 : Nat) : Int) ((p0 : Nat) : Int)))), (0, .ref x), (1, .int (iI ((s1 : Nat) : Int))), (2, .int (iI ((p0 : Nat) : Int)))]) hx hb dX4_kinds_21 hl (by decide) rfl (fun ls hl => ?_)
    have L23 : ∀ (k t : Nat) (Vt : Tb) (bt : Int) (sv : Int) (H : Heap) (locs : List Loc) (ls : Array Slot), t + k = 7 → (run (seS (fun (t : Nat) => toF SN (40 * s1) p0 (SS s1).toNat 0 (va_up T (cx p0 0) (t : Int)))) k t sv = seF (fun (t : Nat) => toF SN (40 * s1) p0 (SS s1).toNat 0 (va_up T (cx p0 0) (t : Int))) 7) → va_P D vwCl (wObj x f q kq vq h g ik ++ (wTab cI q T (jc 0) ++ (wTab cI kq K (jc 1) ++ (wTab cI vq Vt bt ++ (wSh cI h SB SS SN ++ (wTp cB g tn TB jc ++ (wA cI f 7 F))))))) H → va_D A (wObj x f q kq vq h g ik ++ (wTab cI q T (jc 0) ++ (wTab cI kq K (jc 1) ++ (wTab cI vq Vt bt ++ (wSh cI h SB SS SN ++ (wTp cB g tn TB jc ++ (wA cI f 7 F))))))) → va_S A s.heap H locs → lv_has ls 6 [(0, .ref x), (1, .int (iI ((s1 : Nat) : Int))), (2, .int (iI ((p0 : Nat) : Int))), (3, .int (iI (wtF SB (T 0) ((s1 : Nat) : Int) ((p0 : Nat) : Int)))), (4, .int (iI sv)), (5, .int (iI ((t : Nat) : Int)))] → W pg l e { frames := 6, cells := 0, slots := 0, locals := 138 } s m args below meth c H locs 0 0 Q (F0 m 23 ls []) := by
      intro k
      induction k with
      | zero =>
        intro t Vt bt sv H locs ls hkt hr hP hD hS hl
        refine lv_iload hx hb dX4_kinds_23 (lv_at hl 5 rfl) ?_
        refine x_bipush hx hb dX4_kinds_25 (by decide) ?_
        refine x_icmp_ge (tgt := 76) hx hb (by omega) (by decide) dX4_kinds_27 (by decide) (fun c_27 => ?_) (fun c_27 => ?_)
        · refine lv_iload hx hb dX4_kinds_76 (lv_at hl 4 rfl) ?_
          exact kend ((sv, T, K, ik, SB, SS, SN, tn, TB, F), Vt, va_up jc 2 bt) hP hS rfl (by unfold m_kinds; rw [if_neg (by omega)]; simp only [Int.toNat_natCast]; rw [← hr] <;> rfl) dX4_kinds_78
        · exfalso; omega
      | succ k ih =>
        intro t Vt bt sv H locs ls hkt hr hP hD hS hl
        refine lv_iload hx hb dX4_kinds_23 (lv_at hl 5 rfl) ?_
        refine x_bipush hx hb dX4_kinds_25 (by decide) ?_
        refine x_icmp_ge (tgt := 76) hx hb (by omega) (by decide) dX4_kinds_27 (by decide) (fun c_27 => ?_) (fun c_27 => ?_)
        · exfalso; omega
        · have hq1 := hn
          refine lv_aload_n hx hb dX4_kinds_30 rfl (lv_at hl 0 rfl) ?_
          refine va_get (D := D) (ci := 3) (v := .ref (vq 0)) (C := RX4) (T := TX4) (N := 7) hx hb hts (iT_X4_kinds_X4) hown hK hP 0 rfl rfl 2 (by decide) (hts (.fieldLink RX4 19 "WordSupper" "spare" "LWordSupper$Table;") (by decide +kernel)) (fun _ h9 => h9) rfl dX4_kinds_31 ?_
          refine lv_aload_n hx hb dX4_kinds_34 rfl (lv_at hl 0 rfl) ?_
          refine va_get (D := D) (ci := 3) (v := .ref (q 0)) (C := RX4) (T := TX4) (N := 7) hx hb hts (iT_X4_kinds_X4) hown hK hP 0 rfl rfl 0 (by decide) (hts (.fieldLink RX4 10 "WordSupper" "table" "LWordSupper$Table;") (by decide +kernel)) (fun _ h9 => h9) rfl dX4_kinds_35 ?_
          refine x_callV (As := [.ref (q 0)]) (rest := []) ⟨hx, hb, hml, hown, hts⟩ (kX2_become vq Vt bt q T (jc 0) ) (cwV 1 hts gX4_kinds_X2_become rfl rfl rfl ykVX2_become ⟨Nat.le_of_ble_eq_true rfl, Nat.le_of_ble_eq_true rfl⟩) hP hK hD hS 17 1 rfl rfl rfl [17, 18, 19, 20, 21, 22, 23, 24, 1, 2, 3, 4, 5, 6, 7, 8] rfl (by decide) (fun _ => rfl) (fun _ => wObj x f q kq vq h g ik ++ (wTab cI q T (jc 0) ++ (wTab cI kq K (jc 1) ++ (wTab cI vq T bt ++ (wSh cI h SB SS SN ++ (wTp cB g tn TB jc ++ (wA cI f 7 F))))))) (fun _ => rfl) rfl hl.1 rfl (Nat.le_of_ble_eq_true rfl) dX4_kinds_38 ⟨Nat.le_of_ble_eq_true rfl, Nat.le_of_ble_eq_true rfl⟩ (fun _ H locs _ hP hD hS => ?_)
          refine W.eq (g2 := F0 m 41 ls []) rfl ?_
          refine lv_aload_n hx hb dX4_kinds_41 rfl (lv_at hl 0 rfl) ?_
          refine va_get (D := D) (ci := 3) (v := .ref (vq 0)) (C := RX4) (T := TX4) (N := 7) hx hb hts (iT_X4_kinds_X4) hown hK hP 0 rfl rfl 2 (by decide) (hts (.fieldLink RX4 19 "WordSupper" "spare" "LWordSupper$Table;") (by decide +kernel)) (fun _ h9 => h9) rfl dX4_kinds_42 ?_
          refine va_get (D := D) (ci := 1) (v := .ref (vq 2)) (C := RX2) (T := TX2) (N := 12) hx hb hts (iT_X4_kinds_X2) hown hK hP 17 rfl rfl 6 (by decide) (hts (.fieldLink RX4 81 "WordSupper$Table" "kind" "[I") (by decide +kernel)) (fun _ h9 => h9) rfl dX4_kinds_45 ?_
          refine lv_iload_n hx hb dX4_kinds_48 rfl (lv_at hl 2 rfl) ?_
          refine lv_iload hx hb dX4_kinds_49 (lv_at hl 5 rfl) ?_
          refine x_iast hx hb hK hP hD hS 19 0 rfl rfl p0 rfl (by omega) (by decide) (wObj x f q kq vq h g ik ++ (wTab cI q T (jc 0) ++ (wTab cI kq K (jc 1) ++ (wTab cI vq (va_up T (cx p0 0) ((t : Nat) : Int)) bt ++ (wSh cI h SB SS SN ++ (wTp cB g tn TB jc ++ (wA cI f 7 F))))))) (by rw [← wT_kind cI vq T bt ((t : Nat) : Int) p0 (by omega)]; rfl) dX4_kinds_51 (fun H locs hP hD hS => ?_)
          refine lv_aload_n hx hb dX4_kinds_52 rfl (lv_at hl 0 rfl) ?_
          refine lv_iload_n hx hb dX4_kinds_53 rfl (lv_at hl 1 rfl) ?_
          refine lv_iload_n hx hb dX4_kinds_54 rfl (lv_at hl 2 rfl) ?_
          refine x_callV (As := [.int (iI ((s1 : Nat) : Int)), .int (iI ((p0 : Nat) : Int))]) (rest := []) ⟨hx, hb, hml, hown, hts⟩ (kX4_isAsTold x f q kq vq h g ik (va_up T (cx p0 0) ((t : Nat) : Int)) bt SB SS SN s1 p0 B (Inv_cx hI (by omega) (by omega) (fun _ => show 0 ≤ ((t : Nat) : Int) ∧ ((t : Nat) : Int) ≤ 6 by omega)) (by omega) (by rw [up_lo _ _ (by omega)]; omega) (by omega) hSS hSN) (cwV 2 hts gX4_kinds_X4_isAsTold rfl rfl rfl ykVX4_isAsTold ⟨Nat.le_of_ble_eq_true rfl, Nat.le_of_ble_eq_true rfl⟩) hP hK hD hS 0 3 rfl rfl rfl [0, 17, 18, 19, 20, 21, 22, 23, 24, 25, 26, 27, 28] rfl (by decide) (fun _ => rfl) (fun u => wObj x f q kq vq h g ik ++ (wTab cI q T (jc 0) ++ (wTab cI kq K (jc 1) ++ (wTab cI vq u.1 u.2 ++ (wSh cI h SB SS SN ++ (wTp cB g tn TB jc ++ (wA cI f 7 F))))))) (fun _ => rfl) rfl hl.1 rfl (Nat.le_of_ble_eq_true rfl) dX4_kinds_55 ⟨Nat.le_of_ble_eq_true rfl, Nat.le_of_ble_eq_true rfl⟩ (fun u3 H locs hp4 hP hD hS => ?_)
          obtain ⟨V11, b12⟩ := u3
          have hP : va_P D vwCl (wObj x f q kq vq h g ik ++ (wTab cI q T (jc 0) ++ (wTab cI kq K (jc 1) ++ (wTab cI vq V11 b12 ++ (wSh cI h SB SS SN ++ (wTp cB g tn TB jc ++ (wA cI f 7 F))))))) H := hP
          have hD : va_D A (wObj x f q kq vq h g ik ++ (wTab cI q T (jc 0) ++ (wTab cI kq K (jc 1) ++ (wTab cI vq V11 b12 ++ (wSh cI h SB SS SN ++ (wTp cB g tn TB jc ++ (wA cI f 7 F))))))) := hD
          refine W.eq (g2 := F0 m 58 ls [.int (iI (b2 (decide (toF SN (40 * s1) p0 (SS s1).toNat 0 (va_up T (cx p0 0) ((t : Nat) : Int)) = true))))]) rfl ?_
          refine x_ifb_eq (tgt := 70) hx hb dX4_kinds_58 (by decide) (fun c_58 => ?_) (fun c_58 => ?_)
          · refine x_iinc hx hb 5 ((t + 1 : Nat) : Int) (by omega) [(5, .int (iI ((t + 1 : Nat) : Int))), (0, .ref x), (1, .int (iI ((s1 : Nat) : Int))), (2, .int (iI ((p0 : Nat) : Int))), (3, .int (iI (wtF SB (T 0) ((s1 : Nat) : Int) ((p0 : Nat) : Int)))), (4, .int (iI sv))] dX4_kinds_70 hl rfl (by decide) rfl (fun ls hl => ?_)
            refine lv_goto (tgt := 23) hx hb dX4_kinds_73 (by decide) ?_
            exact ih (t + 1) V11 b12 sv _ _ _ (by omega) (run_step hr (if_neg c_58)) hP hD hS (lv_sub hl [1, 2, 3, 4, 5, 0] rfl)
          · refine lv_iload hx hb dX4_kinds_61 (lv_at hl 4 rfl) ?_
            refine x_iconst hx hb dX4_kinds_63 ?_
            refine lv_iload hx hb dX4_kinds_64 (lv_at hl 5 rfl) ?_
            refine x_ishl hx hb dX4_kinds_66 ?_
            refine x_ior hx hb dX4_kinds_67 ?_
            refine lv_istore (lv' := [(4, .int (iI (orI sv (shlI 1 ((t : Nat) : Int))))), (0, .ref x), (1, .int (iI ((s1 : Nat) : Int))), (2, .int (iI ((p0 : Nat) : Int))), (3, .int (iI (wtF SB (T 0) ((s1 : Nat) : Int) ((p0 : Nat) : Int)))), (5, .int (iI ((t : Nat) : Int)))]) hx hb dX4_kinds_68 hl (by decide) rfl (fun ls hl => ?_)
            refine x_iinc hx hb 5 ((t + 1 : Nat) : Int) (by omega) [(5, .int (iI ((t + 1 : Nat) : Int))), (4, .int (iI (orI sv (shlI 1 ((t : Nat) : Int))))), (0, .ref x), (1, .int (iI ((s1 : Nat) : Int))), (2, .int (iI ((p0 : Nat) : Int))), (3, .int (iI (wtF SB (T 0) ((s1 : Nat) : Int) ((p0 : Nat) : Int))))] dX4_kinds_70 hl rfl (by decide) rfl (fun ls hl => ?_)
            refine lv_goto (tgt := 23) hx hb dX4_kinds_73 (by decide) ?_
            exact ih (t + 1) V11 b12 (orI sv (shlI 1 ((t : Nat) : Int))) _ _ _ (by omega) (run_step hr (if_pos c_58)) hP hD hS (lv_sub hl [2, 3, 4, 5, 1, 0] rfl)
    exact L23 7 0 V (jc 2) 0 _ _ _ (by omega) rfl hP hD hS (lv_sub hl [3, 4, 5, 2, 1, 0] rfl)
  · refine lv_aload_n hx hb dX4_kinds_11 rfl (lv_at hl 1 rfl) ?_
    refine lv_iload_n hx hb dX4_kinds_12 rfl (lv_at hl 0 rfl) ?_
    refine x_callV (As := [.int (iI (wtF SB (T 0) s0 sp))]) (rest := []) ⟨hx, hb, hml, hown, hts⟩ (kX4_finding x f q kq vq h g ik F (wtF SB (T 0) s0 sp) (-1000001 - wtF SB (T 0) s0 sp).toNat (by omega) (by omega)) (cwV 1 hts gX4_kinds_X4_finding rfl rfl rfl ykVX4_finding ⟨Nat.le_of_ble_eq_true rfl, Nat.le_of_ble_eq_true rfl⟩) hP hK hD hS 0 3 rfl rfl rfl [0, 31] rfl (by decide) (fun _ => rfl) (fun _ => wObj x f q kq vq h g ik ++ (wTab cI q T (jc 0) ++ (wTab cI kq K (jc 1) ++ (wTab cI vq V (jc 2) ++ (wSh cI h SB SS SN ++ (wTp cB g tn TB jc ++ (wA cI f 7 (bmp (-1000001 - wtF SB (T 0) s0 sp).toNat F)))))))) (fun _ => rfl) rfl hl.1 rfl (Nat.le_of_ble_eq_true rfl) dX4_kinds_13 ⟨Nat.le_of_ble_eq_true rfl, Nat.le_of_ble_eq_true rfl⟩ (fun _ H locs _ hP hD hS => ?_)
    refine W.eq (g2 := F0 m 16 ls [.int (iI (wtF SB (T 0) s0 sp))]) rfl ?_
    exact kend (((wtF SB (T 0) s0 sp), T, K, ik, SB, SS, SN, tn, TB, (bmp (-1000001 - wtF SB (T 0) s0 sp).toNat F)), V, jc) hP hS rfl (if_pos (by omega)).symm dX4_kinds_16
