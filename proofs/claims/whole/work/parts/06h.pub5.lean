theorem ykSX4_love : yX4_love.cls ≠ "java/lang/invoke/MethodHandle" ∧ yX4_love.cls ≠ "java/lang/invoke/VarHandle" ∧ (parseMethodDescriptor yX4_love.desc).map (fun d => d.parameters.length) = some 2 := by decide +kernel
theorem ykVX4_love : yX4_love.cls = RX4 ∧ yX4_love.cls ≠ "java/lang/invoke/MethodHandle" ∧ yX4_love.cls ≠ "java/lang/invoke/VarHandle" ∧ (parseMethodDescriptor yX4_love.desc).map (fun d => d.parameters.length) = some 2 := ⟨rfl, ykSX4_love⟩
set_option maxRecDepth 20000 in
theorem iT_X4_love_X4 : ∀ w ∈ u_ws RX4 TX4 7, w ∈ wsX4_love := by decide +kernel
set_option maxRecDepth 20000 in
theorem iT_X4_love_X2 : ∀ w ∈ u_ws RX2 TX2 12, w ∈ wsX4_love := by decide +kernel
set_option maxHeartbeats 4000000 in
set_option maxRecDepth 100000 in
theorem kX4_love {l : Launch} {D : va_G} {cI cB : ClassId} (x f : Nat) (q kq vq h g : Nat → Nat) (T K : Tb) (ik : Int) (SB SS SN : Nat → Int) (tn : Int) (TB F : Nat → Int) (V : Tb) (jc : Nat → Int) (sp n : Int) (B : Int) (hG : GI B T K ik SB SS SN tn TB F) (hB : B ≤ 40000) (h_sp : rI sp) (h_n : rI n) : Ct l yX4_love wsX4_love 6 137 D [(cI, .int), (cB, .byte)] [.ref x, .int (iI sp), .int (iI n)] (wC cI cB x f q kq vq h g (T, K, ik, SB, SS, SN, tn, TB, F) V jc) (S := (Int × Gs) × Tb × (Nat → Int)) (fun u => some (.int (iI u.1.1))) (fun u => u.1 = m_love sp n T K ik SB SS SN tn TB F) (fun u => wC cI cB x f q kq vq h g u.1.2 u.2.1 u.2.2) := by
  refine CtI.of (cc := cX4_love) (maxL := 7) (by decide +kernel) rfl (Nat.le_of_ble_eq_true rfl) ?_
  intro pg e s m args below meth c Q A hx hb hml hts hown hP hK hD hS ls hl kend
  have hown : s.vm.findClass RX4 = some m.cls := hown
  have hl : lv_has ls 7 [(0, .ref x), (1, .int (iI sp)), (2, .int (iI n))] := hl
  obtain ⟨hI, hIK, hik, hSB, hSS, hSN, htn, hTB, hF⟩ := id hG
  have hn := Inv_n hI
  have hdy := Inv_d hI
  have hP : va_P D vwCl (wObj x f q kq vq h g ik ++ (wTab cI q T (jc 0) ++ (wTab cI kq K (jc 1) ++ (wTab cI vq V (jc 2) ++ (wSh cI h SB SS SN ++ (wTp cB g tn TB jc ++ (wA cI f 7 F))))))) s.heap := hP
  have hD : va_D A (wObj x f q kq vq h g ik ++ (wTab cI q T (jc 0) ++ (wTab cI kq K (jc 1) ++ (wTab cI vq V (jc 2) ++ (wSh cI h SB SS SN ++ (wTp cB g tn TB jc ++ (wA cI f 7 F))))))) := hD
  refine lv_aload_n hx hb dX4_love_0 rfl (lv_at hl 0 rfl) ?_
  refine va_get (D := D) (ci := 3) (v := .ref (q 0)) (C := RX4) (T := TX4) (N := 7) hx hb hts (iT_X4_love_X4) hown hK hP 0 rfl rfl 0 (by decide) (hts (.fieldLink RX4 10 "WordSupper" "table" "LWordSupper$Table;") (by decide +kernel)) (fun _ h9 => h9) rfl dX4_love_1 ?_
  refine lv_iload_n hx hb dX4_love_4 rfl (lv_at hl 1 rfl) ?_
  refine x_callV (As := [.int (iI sp)]) (rest := []) ⟨hx, hb, hml, hown, hts⟩ (kX2_isSeat q T (jc 0) sp (by omega) (by omega)) (cwV 1 hts gX4_love_X2_isSeat rfl rfl rfl ykVX2_isSeat ⟨Nat.le_of_ble_eq_true rfl, Nat.le_of_ble_eq_true rfl⟩) hP hK hD hS 1 1 rfl rfl rfl [1, 2, 3, 4, 5, 6, 7, 8] rfl (by decide) (fun _ => rfl) (fun _ => wObj x f q kq vq h g ik ++ (wTab cI q T (jc 0) ++ (wTab cI kq K (jc 1) ++ (wTab cI vq V (jc 2) ++ (wSh cI h SB SS SN ++ (wTp cB g tn TB jc ++ (wA cI f 7 F))))))) (fun _ => rfl) rfl hl.1 rfl (Nat.le_of_ble_eq_true rfl) dX4_love_5 ⟨Nat.le_of_ble_eq_true rfl, Nat.le_of_ble_eq_true rfl⟩ (fun _ H locs _ hP hD hS => ?_)
  refine W.eq (g2 := F0 m 8 ls [.int (iI (b2 (decide (0 ≤ sp ∧ sp < T 0))))]) rfl ?_
  refine x_ifb_eq (tgt := 21) hx hb dX4_love_8 (by decide) (fun c_8 => ?_) (fun c_8 => ?_)
  · refine lv_aload_n hx hb dX4_love_21 rfl (lv_at hl 0 rfl) ?_
    refine x_ldc hx hb (-1000001) rfl hown (hts (.constant RX4 44 (-1000001)) (by decide +kernel)) dX4_love_22 ?_
    refine x_callV (As := [.int (iI (-1000001))]) (rest := []) ⟨hx, hb, hml, hown, hts⟩ (kX4_finding x f q kq vq h g ik F (-1000001) 0 (by omega) (by omega)) (cwV 1 hts gX4_love_X4_finding rfl rfl rfl ykVX4_finding ⟨Nat.le_of_ble_eq_true rfl, Nat.le_of_ble_eq_true rfl⟩) hP hK hD hS 0 3 rfl rfl rfl [0, 31] rfl (by decide) (fun _ => rfl) (fun _ => wObj x f q kq vq h g ik ++ (wTab cI q T (jc 0) ++ (wTab cI kq K (jc 1) ++ (wTab cI vq V (jc 2) ++ (wSh cI h SB SS SN ++ (wTp cB g tn TB jc ++ (wA cI f 7 (bmp 0 F)))))))) (fun _ => rfl) rfl hl.1 rfl (Nat.le_of_ble_eq_true rfl) dX4_love_24 ⟨Nat.le_of_ble_eq_true rfl, Nat.le_of_ble_eq_true rfl⟩ (fun _ H locs _ hP hD hS => ?_)
    refine W.eq (g2 := F0 m 27 ls [.int (iI (-1000001))]) rfl ?_
    exact kend (((-1000001), T, K, ik, SB, SS, SN, tn, TB, (bmp 0 F)), V, jc) hP hS rfl (if_neg (by omega)).symm dX4_love_27
  · refine lv_iload_n hx hb dX4_love_11 rfl (lv_at hl 2 rfl) ?_
    refine x_iconst hx hb dX4_love_12 ?_
    refine x_bipush hx hb dX4_love_13 (by decide) ?_
    refine x_callS (As := [.int (iI n), .int (iI 0), .int (iI 40)]) (rest := []) ⟨hx, hb, hml, hown, hts⟩ (kX4_isWithin n 0 40 (by omega) (by decide) (by decide)) (va_cwS 3 hts gX4_love_X4_isWithin rfl rfl rfl ykSX4_isWithin ⟨Nat.le_of_ble_eq_true rfl, Nat.le_of_ble_eq_true rfl⟩) hP hK hD hS [] rfl (by decide) (fun _ => rfl) (fun _ => wObj x f q kq vq h g ik ++ (wTab cI q T (jc 0) ++ (wTab cI kq K (jc 1) ++ (wTab cI vq V (jc 2) ++ (wSh cI h SB SS SN ++ (wTp cB g tn TB jc ++ (wA cI f 7 F))))))) (fun _ => rfl) rfl hl.1 rfl (Nat.le_of_ble_eq_true rfl) dX4_love_15 ⟨Nat.le_of_ble_eq_true rfl, Nat.le_of_ble_eq_true rfl⟩ (fun _ H locs _ hP hD hS => ?_)
    refine W.eq (g2 := F0 m 18 ls [.int (iI (b2 (decide (0 ≤ n ∧ n ≤ 40))))]) rfl ?_
    refine x_ifb_ne (tgt := 28) hx hb dX4_love_18 (by decide) (fun c_18 => ?_) (fun c_18 => ?_)
    · obtain ⟨p0, rfl⟩ : ∃ p0 : Nat, sp = (p0 : Int) := ⟨sp.toNat, by omega⟩
      obtain ⟨n0, rfl⟩ : ∃ n0 : Nat, n = (n0 : Int) := ⟨n.toNat, by omega⟩
      refine x_iconst hx hb dX4_love_28 ?_
      refine lv_istore_n (lv' := [(3, .int (iI (-1))), (0, .ref x), (1, .int (iI ((p0 : Nat) : Int))), (2, .int (iI ((n0 : Nat) : Int)))]) hx hb dX4_love_29 rfl hl (by decide) rfl (fun ls hl => ?_)
      refine x_ldc hx hb 1000000 rfl hown (hts (.constant RX4 146 (1000000)) (by decide +kernel)) dX4_love_30 ?_
      refine lv_istore (lv' := [(4, .int (iI 1000000)), (3, .int (iI (-1))), (0, .ref x), (1, .int (iI ((p0 : Nat) : Int))), (2, .int (iI ((n0 : Nat) : Int)))]) hx hb dX4_love_32 hl (by decide) rfl (fun ls hl => ?_)
      refine x_iconst hx hb dX4_love_34 ?_
      refine lv_istore (lv' := [(5, .int (iI 0)), (4, .int (iI 1000000)), (3, .int (iI (-1))), (0, .ref x), (1, .int (iI ((p0 : Nat) : Int))), (2, .int (iI ((n0 : Nat) : Int)))]) hx hb dX4_love_35 hl (by decide) rfl (fun ls hl => ?_)
      have L37 : ∀ (k t : Nat) (Vt : Tb) (bt : Int) (bv : Int) (lv : Int) (H : Heap) (locs : List Loc) (ls : Array Slot), t + k = (T 0).toNat + 1 → (run (beS (fun (i : Nat) => alF (dsF 0 n0 (va_up T (cx p0 1) (lvW T i)))) (fun (i : Nat) => decide (lvW T i ≠ ((p0 : Nat) : Int))) (lvW T)) k t (bv, lv) = beF (fun (i : Nat) => alF (dsF 0 n0 (va_up T (cx p0 1) (lvW T i)))) (fun (i : Nat) => decide (lvW T i ≠ ((p0 : Nat) : Int))) (lvW T) ((T 0).toNat + 1) (-1, 1000000)) → (0 ≤ lv ∧ lv ≤ 1000000) → va_P D vwCl (wObj x f q kq vq h g ik ++ (wTab cI q T (jc 0) ++ (wTab cI kq K (jc 1) ++ (wTab cI vq Vt bt ++ (wSh cI h SB SS SN ++ (wTp cB g tn TB jc ++ (wA cI f 7 F))))))) H → va_D A (wObj x f q kq vq h g ik ++ (wTab cI q T (jc 0) ++ (wTab cI kq K (jc 1) ++ (wTab cI vq Vt bt ++ (wSh cI h SB SS SN ++ (wTp cB g tn TB jc ++ (wA cI f 7 F))))))) → va_S A s.heap H locs → lv_has ls 7 [(0, .ref x), (1, .int (iI ((p0 : Nat) : Int))), (2, .int (iI ((n0 : Nat) : Int))), (3, .int (iI bv)), (4, .int (iI lv)), (5, .int (iI ((t : Nat) : Int)))] → W pg l e { frames := 6, cells := 0, slots := 0, locals := 137 } s m args below meth c H locs 0 0 Q (F0 m 37 ls []) := by
        intro k
        induction k with
        | zero =>
          intro t Vt bt bv lv H locs ls hkt hr hl9 hP hD hS hl
          refine lv_iload hx hb dX4_love_37 (lv_at hl 5 rfl) ?_
          refine lv_aload_n hx hb dX4_love_39 rfl (lv_at hl 0 rfl) ?_
          refine va_get (D := D) (ci := 3) (v := .ref (q 0)) (C := RX4) (T := TX4) (N := 7) hx hb hts (iT_X4_love_X4) hown hK hP 0 rfl rfl 0 (by decide) (hts (.fieldLink RX4 10 "WordSupper" "table" "LWordSupper$Table;") (by decide +kernel)) (fun _ h9 => h9) rfl dX4_love_40 ?_
          refine va_get (D := D) (ci := 1) (v := .int (iI (T 0))) (C := RX2) (T := TX2) (N := 12) hx hb hts (iT_X4_love_X2) hown hK hP 1 rfl rfl 3 (by decide) (hts (.fieldLink RX4 152 "WordSupper$Table" "seats" "I") (by decide +kernel)) (fun _ h9 => h9) rfl dX4_love_43 ?_
          refine x_icmp_gt (tgt := 139) hx hb (by omega) (by omega) dX4_love_46 (by decide) (fun c_46 => ?_) (fun c_46 => ?_)
          · refine lv_iload_n hx hb dX4_love_139 rfl (lv_at hl 3 rfl) ?_
            exact kend ((bv, T, K, ik, SB, SS, SN, tn, TB, F), Vt, va_up jc 2 bt) hP hS rfl (by unfold m_love; rw [if_pos (by omega)]; simp only [Int.toNat_natCast]; rw [← hr] <;> rfl) dX4_love_140
          · exfalso; omega
        | succ k ih =>
          intro t Vt bt bv lv H locs ls hkt hr hl9 hP hD hS hl
          refine lv_iload hx hb dX4_love_37 (lv_at hl 5 rfl) ?_
          refine lv_aload_n hx hb dX4_love_39 rfl (lv_at hl 0 rfl) ?_
          refine va_get (D := D) (ci := 3) (v := .ref (q 0)) (C := RX4) (T := TX4) (N := 7) hx hb hts (iT_X4_love_X4) hown hK hP 0 rfl rfl 0 (by decide) (hts (.fieldLink RX4 10 "WordSupper" "table" "LWordSupper$Table;") (by decide +kernel)) (fun _ h9 => h9) rfl dX4_love_40 ?_
          refine va_get (D := D) (ci := 1) (v := .int (iI (T 0))) (C := RX2) (T := TX2) (N := 12) hx hb hts (iT_X4_love_X2) hown hK hP 1 rfl rfl 3 (by decide) (hts (.fieldLink RX4 152 "WordSupper$Table" "seats" "I") (by decide +kernel)) (fun _ h9 => h9) rfl dX4_love_43 ?_
          refine x_icmp_gt (tgt := 139) hx hb (by omega) (by omega) dX4_love_46 (by decide) (fun c_46 => ?_) (fun c_46 => ?_)
          · exfalso; omega
          · refine lv_iload hx hb dX4_love_49 (lv_at hl 5 rfl) ?_
            refine lv_aload_n hx hb dX4_love_51 rfl (lv_at hl 0 rfl) ?_
            refine va_get (D := D) (ci := 3) (v := .ref (q 0)) (C := RX4) (T := TX4) (N := 7) hx hb hts (iT_X4_love_X4) hown hK hP 0 rfl rfl 0 (by decide) (hts (.fieldLink RX4 10 "WordSupper" "table" "LWordSupper$Table;") (by decide +kernel)) (fun _ h9 => h9) rfl dX4_love_52 ?_
            refine va_get (D := D) (ci := 1) (v := .int (iI (T 0))) (C := RX2) (T := TX2) (N := 12) hx hb hts (iT_X4_love_X2) hown hK hP 1 rfl rfl 3 (by decide) (hts (.fieldLink RX4 152 "WordSupper$Table" "seats" "I") (by decide +kernel)) (fun _ h9 => h9) rfl dX4_love_55 ?_
            refine x_icmp_ge (tgt := 66) hx hb (by omega) (by omega) dX4_love_58 (by decide) (fun c_58 => ?_) (fun c_58 => ?_)
            · refine x_iconst hx hb dX4_love_66 ?_
              refine lv_istore (lv' := [(6, .int (iI (-1))), (0, .ref x), (1, .int (iI ((p0 : Nat) : Int))), (2, .int (iI ((n0 : Nat) : Int))), (3, .int (iI bv)), (4, .int (iI lv)), (5, .int (iI ((t : Nat) : Int)))]) hx hb dX4_love_67 hl (by decide) rfl (fun ls hl => ?_)
              have e_w : lvW T t = (-1) := by unfold lvW; rw [if_neg (by omega)]
              refine lv_iload hx hb dX4_love_69 (lv_at hl 0 rfl) ?_
              refine lv_iload_n hx hb dX4_love_71 rfl (lv_at hl 2 rfl) ?_
              refine x_icmp_ne (tgt := 78) hx hb (by decide) (by omega) dX4_love_72 (by decide) (fun c_72 => ?_) (fun c_72 => ?_)
              · refine lv_aload_n hx hb dX4_love_78 rfl (lv_at hl 1 rfl) ?_
                refine va_get (D := D) (ci := 3) (v := .ref (vq 0)) (C := RX4) (T := TX4) (N := 7) hx hb hts (iT_X4_love_X4) hown hK hP 0 rfl rfl 2 (by decide) (hts (.fieldLink RX4 19 "WordSupper" "spare" "LWordSupper$Table;") (by decide +kernel)) (fun _ h9 => h9) rfl dX4_love_79 ?_
                refine lv_aload_n hx hb dX4_love_82 rfl (lv_at hl 1 rfl) ?_
                refine va_get (D := D) (ci := 3) (v := .ref (q 0)) (C := RX4) (T := TX4) (N := 7) hx hb hts (iT_X4_love_X4) hown hK hP 0 rfl rfl 0 (by decide) (hts (.fieldLink RX4 10 "WordSupper" "table" "LWordSupper$Table;") (by decide +kernel)) (fun _ h9 => h9) rfl dX4_love_83 ?_
                refine x_callV (As := [.ref (q 0)]) (rest := []) ⟨hx, hb, hml, hown, hts⟩ (kX2_become vq Vt bt q T (jc 0) ) (cwV 1 hts gX4_love_X2_become rfl rfl rfl ykVX2_become ⟨Nat.le_of_ble_eq_true rfl, Nat.le_of_ble_eq_true rfl⟩) hP hK hD hS 17 1 rfl rfl rfl [17, 18, 19, 20, 21, 22, 23, 24, 1, 2, 3, 4, 5, 6, 7, 8] rfl (by decide) (fun _ => rfl) (fun _ => wObj x f q kq vq h g ik ++ (wTab cI q T (jc 0) ++ (wTab cI kq K (jc 1) ++ (wTab cI vq T bt ++ (wSh cI h SB SS SN ++ (wTp cB g tn TB jc ++ (wA cI f 7 F))))))) (fun _ => rfl) rfl hl.1 rfl (Nat.le_of_ble_eq_true rfl) dX4_love_86 ⟨Nat.le_of_ble_eq_true rfl, Nat.le_of_ble_eq_true rfl⟩ (fun _ H locs _ hP hD hS => ?_)
                refine W.eq (g2 := F0 m 89 ls []) rfl ?_
                refine lv_aload_n hx hb dX4_love_89 rfl (lv_at hl 1 rfl) ?_
                refine va_get (D := D) (ci := 3) (v := .ref (vq 0)) (C := RX4) (T := TX4) (N := 7) hx hb hts (iT_X4_love_X4) hown hK hP 0 rfl rfl 2 (by decide) (hts (.fieldLink RX4 19 "WordSupper" "spare" "LWordSupper$Table;") (by decide +kernel)) (fun _ h9 => h9) rfl dX4_love_90 ?_
                refine va_get (D := D) (ci := 1) (v := .ref (vq 3)) (C := RX2) (T := TX2) (N := 12) hx hb hts (iT_X4_love_X2) hown hK hP 17 rfl rfl 7 (by decide) (hts (.fieldLink RX4 88 "WordSupper$Table" "loves" "[I") (by decide +kernel)) (fun _ h9 => h9) rfl dX4_love_93 ?_
                refine lv_iload_n hx hb dX4_love_96 rfl (lv_at hl 2 rfl) ?_
                refine lv_iload hx hb dX4_love_97 (lv_at hl 0 rfl) ?_
                refine x_iast hx hb hK hP hD hS 20 0 rfl rfl p0 rfl (by omega) (by decide) (wObj x f q kq vq h g ik ++ (wTab cI q T (jc 0) ++ (wTab cI kq K (jc 1) ++ (wTab cI vq (va_up T (cx p0 1) (-1)) bt ++ (wSh cI h SB SS SN ++ (wTp cB g tn TB jc ++ (wA cI f 7 F))))))) (by rw [← wT_loves cI vq T bt (-1) p0 (by omega)]; rfl) dX4_love_99 (fun H locs hP hD hS => ?_)
                have iS : Inv B (va_up T (cx p0 1) (-1)) := Inv_cx hI (by omega) (by omega) (fun _ => show -1 ≤ (-1) ∧ (-1) < T 0 by omega)
                have nS : va_up T (cx p0 1) (-1) 0 = T 0 := up_lo _ _ (by omega)
                refine lv_aload_n hx hb dX4_love_100 rfl (lv_at hl 1 rfl) ?_
                refine va_get (D := D) (ci := 3) (v := .ref (vq 0)) (C := RX4) (T := TX4) (N := 7) hx hb hts (iT_X4_love_X4) hown hK hP 0 rfl rfl 2 (by decide) (hts (.fieldLink RX4 19 "WordSupper" "spare" "LWordSupper$Table;") (by decide +kernel)) (fun _ h9 => h9) rfl dX4_love_101 ?_
                refine lv_iload_n hx hb dX4_love_104 rfl (lv_at hl 3 rfl) ?_
                refine x_iconst hx hb dX4_love_105 ?_
                refine x_callV (As := [.int (iI ((n0 : Nat) : Int)), .int (iI 0)]) (rest := []) ⟨hx, hb, hml, hown, hts⟩ (kX2_passDays vq (va_up T (cx p0 1) (-1)) bt n0 0 B iS (by omega) (by omega) (by decide)) (cwV 2 hts gX4_love_X2_passDays rfl rfl rfl ykVX2_passDays ⟨Nat.le_of_ble_eq_true rfl, Nat.le_of_ble_eq_true rfl⟩) hP hK hD hS 17 1 rfl rfl rfl [17, 18, 19, 20, 21, 22, 23, 24] rfl (by decide) (fun _ => rfl) (fun u => wObj x f q kq vq h g ik ++ (wTab cI q T (jc 0) ++ (wTab cI kq K (jc 1) ++ (wTab cI vq u.1 u.2 ++ (wSh cI h SB SS SN ++ (wTp cB g tn TB jc ++ (wA cI f 7 F))))))) (fun _ => rfl) rfl hl.1 rfl (Nat.le_of_ble_eq_true rfl) dX4_love_106 ⟨Nat.le_of_ble_eq_true rfl, Nat.le_of_ble_eq_true rfl⟩ (fun u3 H locs hp4 hP hD hS => ?_)
                obtain ⟨T11, b12⟩ := u3
                replace hp4 : T11 = dsF 0 n0 (va_up T (cx p0 1) (-1)) := hp4
                have hP : va_P D vwCl (wObj x f q kq vq h g ik ++ (wTab cI q T (jc 0) ++ (wTab cI kq K (jc 1) ++ (wTab cI vq T11 b12 ++ (wSh cI h SB SS SN ++ (wTp cB g tn TB jc ++ (wA cI f 7 F))))))) H := hP
                have hD : va_D A (wObj x f q kq vq h g ik ++ (wTab cI q T (jc 0) ++ (wTab cI kq K (jc 1) ++ (wTab cI vq T11 b12 ++ (wSh cI h SB SS SN ++ (wTp cB g tn TB jc ++ (wA cI f 7 F))))))) := hD
                refine W.eq (g2 := F0 m 109 ls []) rfl ?_
                have iV : Inv (B + (n0 : Int)) T11 := by rw [hp4]; exact (dsF_I n0 iS).1
                have nV : T11 0 = T 0 := by rw [hp4, (dsF_I n0 iS).2.1]; exact nS
                have aV := al_b iV
                refine lv_aload_n hx hb dX4_love_109 rfl (lv_at hl 1 rfl) ?_
                refine va_get (D := D) (ci := 3) (v := .ref (vq 0)) (C := RX4) (T := TX4) (N := 7) hx hb hts (iT_X4_love_X4) hown hK hP 0 rfl rfl 2 (by decide) (hts (.fieldLink RX4 19 "WordSupper" "spare" "LWordSupper$Table;") (by decide +kernel)) (fun _ h9 => h9) rfl dX4_love_110 ?_
                refine x_callV (As := []) (rest := []) ⟨hx, hb, hml, hown, hts⟩ (kX2_allLeft vq T11 b12 (by omega)) (cwV 0 hts gX4_love_X2_allLeft rfl rfl rfl ykVX2_allLeft ⟨Nat.le_of_ble_eq_true rfl, Nat.le_of_ble_eq_true rfl⟩) hP hK hD hS 17 1 rfl rfl rfl [17, 18, 19, 20, 21, 22, 23, 24] rfl (by decide) (fun _ => rfl) (fun _ => wObj x f q kq vq h g ik ++ (wTab cI q T (jc 0) ++ (wTab cI kq K (jc 1) ++ (wTab cI vq T11 b12 ++ (wSh cI h SB SS SN ++ (wTp cB g tn TB jc ++ (wA cI f 7 F))))))) (fun _ => rfl) rfl hl.1 rfl (Nat.le_of_ble_eq_true rfl) dX4_love_113 ⟨Nat.le_of_ble_eq_true rfl, Nat.le_of_ble_eq_true rfl⟩ (fun _ H locs _ hP hD hS => ?_)
                refine W.eq (g2 := F0 m 116 ls [.int (iI (alF T11))]) rfl ?_
                refine lv_iload hx hb dX4_love_116 (lv_at hl 5 rfl) ?_
                refine x_icmp_ge (tgt := 133) hx hb (by omega) (by omega) dX4_love_118 (by decide) (fun c_118 => ?_) (fun c_118 => ?_)
                · refine x_iinc hx hb 6 ((t + 1 : Nat) : Int) (by omega) [(5, .int (iI ((t + 1 : Nat) : Int))), (6, .int (iI (-1))), (0, .ref x), (1, .int (iI ((p0 : Nat) : Int))), (2, .int (iI ((n0 : Nat) : Int))), (3, .int (iI bv)), (4, .int (iI lv))] dX4_love_133 hl rfl (by decide) rfl (fun ls hl => ?_)
                  refine lv_goto (tgt := 37) hx hb dX4_love_136 (by decide) ?_
                  exact ih (t + 1) T11 b12 bv lv _ _ _ (by omega) (run_step hr (beS_n (b := alF T11) (by (try dsimp only); rw [e_w, ← hp4]) (by (try dsimp only); omega))) (by omega) hP hD hS (lv_sub hl [2, 3, 4, 5, 6, 0] rfl)
                · refine lv_aload_n hx hb dX4_love_121 rfl (lv_at hl 1 rfl) ?_
                  refine va_get (D := D) (ci := 3) (v := .ref (vq 0)) (C := RX4) (T := TX4) (N := 7) hx hb hts (iT_X4_love_X4) hown hK hP 0 rfl rfl 2 (by decide) (hts (.fieldLink RX4 19 "WordSupper" "spare" "LWordSupper$Table;") (by decide +kernel)) (fun _ h9 => h9) rfl dX4_love_122 ?_
                  refine x_callV (As := []) (rest := []) ⟨hx, hb, hml, hown, hts⟩ (kX2_allLeft vq T11 b12 (by omega)) (cwV 0 hts gX4_love_X2_allLeft rfl rfl rfl ykVX2_allLeft ⟨Nat.le_of_ble_eq_true rfl, Nat.le_of_ble_eq_true rfl⟩) hP hK hD hS 17 1 rfl rfl rfl [17, 18, 19, 20, 21, 22, 23, 24] rfl (by decide) (fun _ => rfl) (fun _ => wObj x f q kq vq h g ik ++ (wTab cI q T (jc 0) ++ (wTab cI kq K (jc 1) ++ (wTab cI vq T11 b12 ++ (wSh cI h SB SS SN ++ (wTp cB g tn TB jc ++ (wA cI f 7 F))))))) (fun _ => rfl) rfl hl.1 rfl (Nat.le_of_ble_eq_true rfl) dX4_love_125 ⟨Nat.le_of_ble_eq_true rfl, Nat.le_of_ble_eq_true rfl⟩ (fun _ H locs _ hP hD hS => ?_)
                  refine W.eq (g2 := F0 m 128 ls [.int (iI (alF T11))]) rfl ?_
                  refine lv_istore (lv' := [(4, .int (iI (alF T11))), (6, .int (iI (-1))), (0, .ref x), (1, .int (iI ((p0 : Nat) : Int))), (2, .int (iI ((n0 : Nat) : Int))), (3, .int (iI bv)), (5, .int (iI ((t : Nat) : Int)))]) hx hb dX4_love_128 hl (by decide) rfl (fun ls hl => ?_)
                  refine lv_iload hx hb dX4_love_130 (lv_at hl 1 rfl) ?_
                  refine lv_istore_n (lv' := [(3, .int (iI (-1))), (4, .int (iI (alF T11))), (6, .int (iI (-1))), (0, .ref x), (1, .int (iI ((p0 : Nat) : Int))), (2, .int (iI ((n0 : Nat) : Int))), (5, .int (iI ((t : Nat) : Int)))]) hx hb dX4_love_132 rfl hl (by decide) rfl (fun ls hl => ?_)
                  refine x_iinc hx hb 6 ((t + 1 : Nat) : Int) (by omega) [(5, .int (iI ((t + 1 : Nat) : Int))), (3, .int (iI (-1))), (4, .int (iI (alF T11))), (6, .int (iI (-1))), (0, .ref x), (1, .int (iI ((p0 : Nat) : Int))), (2, .int (iI ((n0 : Nat) : Int)))] dX4_love_133 hl rfl (by decide) rfl (fun ls hl => ?_)
                  refine lv_goto (tgt := 37) hx hb dX4_love_136 (by decide) ?_
                  exact ih (t + 1) T11 b12 (-1) (alF T11) _ _ _ (by omega) (run_step hr (beS_t (a := (-1)) (b := alF T11) (decide_eq_true (by rw [e_w]; omega)) (by (try dsimp only); rw [e_w, ← hp4]) (by (try dsimp only); rw [e_w]) (by (try dsimp only); omega))) (by omega) hP hD hS (lv_sub hl [4, 5, 6, 1, 2, 0] rfl)
              · refine lv_goto (tgt := 133) hx hb dX4_love_75 (by decide) ?_
                refine x_iinc hx hb 6 ((t + 1 : Nat) : Int) (by omega) [(5, .int (iI ((t + 1 : Nat) : Int))), (6, .int (iI (-1))), (0, .ref x), (1, .int (iI ((p0 : Nat) : Int))), (2, .int (iI ((n0 : Nat) : Int))), (3, .int (iI bv)), (4, .int (iI lv))] dX4_love_133 hl rfl (by decide) rfl (fun ls hl => ?_)
                refine lv_goto (tgt := 37) hx hb dX4_love_136 (by decide) ?_
                exact ih (t + 1) Vt bt bv lv _ _ _ (by omega) (run_step hr (beS_o (decide_eq_false (by rw [e_w]; omega)))) (by omega) hP hD hS (lv_sub hl [2, 3, 4, 5, 6, 0] rfl)
            · refine lv_iload hx hb dX4_love_61 (lv_at hl 5 rfl) ?_
              refine lv_goto (tgt := 67) hx hb dX4_love_63 (by decide) ?_
              refine lv_istore (lv' := [(6, .int (iI ((t : Nat) : Int))), (0, .ref x), (1, .int (iI ((p0 : Nat) : Int))), (2, .int (iI ((n0 : Nat) : Int))), (3, .int (iI bv)), (4, .int (iI lv)), (5, .int (iI ((t : Nat) : Int)))]) hx hb dX4_love_67 hl (by decide) rfl (fun ls hl => ?_)
              have e_w : lvW T t = ((t : Nat) : Int) := by unfold lvW; rw [if_pos (by omega)]
              refine lv_iload hx hb dX4_love_69 (lv_at hl 0 rfl) ?_
              refine lv_iload_n hx hb dX4_love_71 rfl (lv_at hl 2 rfl) ?_
              refine x_icmp_ne (tgt := 78) hx hb (by omega) (by omega) dX4_love_72 (by decide) (fun c_72 => ?_) (fun c_72 => ?_)
              · refine lv_aload_n hx hb dX4_love_78 rfl (lv_at hl 1 rfl) ?_
                refine va_get (D := D) (ci := 3) (v := .ref (vq 0)) (C := RX4) (T := TX4) (N := 7) hx hb hts (iT_X4_love_X4) hown hK hP 0 rfl rfl 2 (by decide) (hts (.fieldLink RX4 19 "WordSupper" "spare" "LWordSupper$Table;") (by decide +kernel)) (fun _ h9 => h9) rfl dX4_love_79 ?_
                refine lv_aload_n hx hb dX4_love_82 rfl (lv_at hl 1 rfl) ?_
                refine va_get (D := D) (ci := 3) (v := .ref (q 0)) (C := RX4) (T := TX4) (N := 7) hx hb hts (iT_X4_love_X4) hown hK hP 0 rfl rfl 0 (by decide) (hts (.fieldLink RX4 10 "WordSupper" "table" "LWordSupper$Table;") (by decide +kernel)) (fun _ h9 => h9) rfl dX4_love_83 ?_
                refine x_callV (As := [.ref (q 0)]) (rest := []) ⟨hx, hb, hml, hown, hts⟩ (kX2_become vq Vt bt q T (jc 0) ) (cwV 1 hts gX4_love_X2_become rfl rfl rfl ykVX2_become ⟨Nat.le_of_ble_eq_true rfl, Nat.le_of_ble_eq_true rfl⟩) hP hK hD hS 17 1 rfl rfl rfl [17, 18, 19, 20, 21, 22, 23, 24, 1, 2, 3, 4, 5, 6, 7, 8] rfl (by decide) (fun _ => rfl) (fun _ => wObj x f q kq vq h g ik ++ (wTab cI q T (jc 0) ++ (wTab cI kq K (jc 1) ++ (wTab cI vq T bt ++ (wSh cI h SB SS SN ++ (wTp cB g tn TB jc ++ (wA cI f 7 F))))))) (fun _ => rfl) rfl hl.1 rfl (Nat.le_of_ble_eq_true rfl) dX4_love_86 ⟨Nat.le_of_ble_eq_true rfl, Nat.le_of_ble_eq_true rfl⟩ (fun _ H locs _ hP hD hS => ?_)
                refine W.eq (g2 := F0 m 89 ls []) rfl ?_
                refine lv_aload_n hx hb dX4_love_89 rfl (lv_at hl 1 rfl) ?_
                refine va_get (D := D) (ci := 3) (v := .ref (vq 0)) (C := RX4) (T := TX4) (N := 7) hx hb hts (iT_X4_love_X4) hown hK hP 0 rfl rfl 2 (by decide) (hts (.fieldLink RX4 19 "WordSupper" "spare" "LWordSupper$Table;") (by decide +kernel)) (fun _ h9 => h9) rfl dX4_love_90 ?_
                refine va_get (D := D) (ci := 1) (v := .ref (vq 3)) (C := RX2) (T := TX2) (N := 12) hx hb hts (iT_X4_love_X2) hown hK hP 17 rfl rfl 7 (by decide) (hts (.fieldLink RX4 88 "WordSupper$Table" "loves" "[I") (by decide +kernel)) (fun _ h9 => h9) rfl dX4_love_93 ?_
                refine lv_iload_n hx hb dX4_love_96 rfl (lv_at hl 2 rfl) ?_
                refine lv_iload hx hb dX4_love_97 (lv_at hl 0 rfl) ?_
                refine x_iast hx hb hK hP hD hS 20 0 rfl rfl p0 rfl (by omega) (by decide) (wObj x f q kq vq h g ik ++ (wTab cI q T (jc 0) ++ (wTab cI kq K (jc 1) ++ (wTab cI vq (va_up T (cx p0 1) ((t : Nat) : Int)) bt ++ (wSh cI h SB SS SN ++ (wTp cB g tn TB jc ++ (wA cI f 7 F))))))) (by rw [← wT_loves cI vq T bt ((t : Nat) : Int) p0 (by omega)]; rfl) dX4_love_99 (fun H locs hP hD hS => ?_)
                have iS : Inv B (va_up T (cx p0 1) ((t : Nat) : Int)) := Inv_cx hI (by omega) (by omega) (fun _ => show -1 ≤ ((t : Nat) : Int) ∧ ((t : Nat) : Int) < T 0 by omega)
                have nS : va_up T (cx p0 1) ((t : Nat) : Int) 0 = T 0 := up_lo _ _ (by omega)
                refine lv_aload_n hx hb dX4_love_100 rfl (lv_at hl 1 rfl) ?_
                refine va_get (D := D) (ci := 3) (v := .ref (vq 0)) (C := RX4) (T := TX4) (N := 7) hx hb hts (iT_X4_love_X4) hown hK hP 0 rfl rfl 2 (by decide) (hts (.fieldLink RX4 19 "WordSupper" "spare" "LWordSupper$Table;") (by decide +kernel)) (fun _ h9 => h9) rfl dX4_love_101 ?_
                refine lv_iload_n hx hb dX4_love_104 rfl (lv_at hl 3 rfl) ?_
                refine x_iconst hx hb dX4_love_105 ?_
                refine x_callV (As := [.int (iI ((n0 : Nat) : Int)), .int (iI 0)]) (rest := []) ⟨hx, hb, hml, hown, hts⟩ (kX2_passDays vq (va_up T (cx p0 1) ((t : Nat) : Int)) bt n0 0 B iS (by omega) (by omega) (by decide)) (cwV 2 hts gX4_love_X2_passDays rfl rfl rfl ykVX2_passDays ⟨Nat.le_of_ble_eq_true rfl, Nat.le_of_ble_eq_true rfl⟩) hP hK hD hS 17 1 rfl rfl rfl [17, 18, 19, 20, 21, 22, 23, 24] rfl (by decide) (fun _ => rfl) (fun u => wObj x f q kq vq h g ik ++ (wTab cI q T (jc 0) ++ (wTab cI kq K (jc 1) ++ (wTab cI vq u.1 u.2 ++ (wSh cI h SB SS SN ++ (wTp cB g tn TB jc ++ (wA cI f 7 F))))))) (fun _ => rfl) rfl hl.1 rfl (Nat.le_of_ble_eq_true rfl) dX4_love_106 ⟨Nat.le_of_ble_eq_true rfl, Nat.le_of_ble_eq_true rfl⟩ (fun u7 H locs hp8 hP hD hS => ?_)
                obtain ⟨T15, b16⟩ := u7
                replace hp8 : T15 = dsF 0 n0 (va_up T (cx p0 1) ((t : Nat) : Int)) := hp8
                have hP : va_P D vwCl (wObj x f q kq vq h g ik ++ (wTab cI q T (jc 0) ++ (wTab cI kq K (jc 1) ++ (wTab cI vq T15 b16 ++ (wSh cI h SB SS SN ++ (wTp cB g tn TB jc ++ (wA cI f 7 F))))))) H := hP
                have hD : va_D A (wObj x f q kq vq h g ik ++ (wTab cI q T (jc 0) ++ (wTab cI kq K (jc 1) ++ (wTab cI vq T15 b16 ++ (wSh cI h SB SS SN ++ (wTp cB g tn TB jc ++ (wA cI f 7 F))))))) := hD
                refine W.eq (g2 := F0 m 109 ls []) rfl ?_
                have iV : Inv (B + (n0 : Int)) T15 := by rw [hp8]; exact (dsF_I n0 iS).1
                have nV : T15 0 = T 0 := by rw [hp8, (dsF_I n0 iS).2.1]; exact nS
                have aV := al_b iV
                refine lv_aload_n hx hb dX4_love_109 rfl (lv_at hl 1 rfl) ?_
                refine va_get (D := D) (ci := 3) (v := .ref (vq 0)) (C := RX4) (T := TX4) (N := 7) hx hb hts (iT_X4_love_X4) hown hK hP 0 rfl rfl 2 (by decide) (hts (.fieldLink RX4 19 "WordSupper" "spare" "LWordSupper$Table;") (by decide +kernel)) (fun _ h9 => h9) rfl dX4_love_110 ?_
                refine x_callV (As := []) (rest := []) ⟨hx, hb, hml, hown, hts⟩ (kX2_allLeft vq T15 b16 (by omega)) (cwV 0 hts gX4_love_X2_allLeft rfl rfl rfl ykVX2_allLeft ⟨Nat.le_of_ble_eq_true rfl, Nat.le_of_ble_eq_true rfl⟩) hP hK hD hS 17 1 rfl rfl rfl [17, 18, 19, 20, 21, 22, 23, 24] rfl (by decide) (fun _ => rfl) (fun _ => wObj x f q kq vq h g ik ++ (wTab cI q T (jc 0) ++ (wTab cI kq K (jc 1) ++ (wTab cI vq T15 b16 ++ (wSh cI h SB SS SN ++ (wTp cB g tn TB jc ++ (wA cI f 7 F))))))) (fun _ => rfl) rfl hl.1 rfl (Nat.le_of_ble_eq_true rfl) dX4_love_113 ⟨Nat.le_of_ble_eq_true rfl, Nat.le_of_ble_eq_true rfl⟩ (fun _ H locs _ hP hD hS => ?_)
                refine W.eq (g2 := F0 m 116 ls [.int (iI (alF T15))]) rfl ?_
                refine lv_iload hx hb dX4_love_116 (lv_at hl 5 rfl) ?_
                refine x_icmp_ge (tgt := 133) hx hb (by omega) (by omega) dX4_love_118 (by decide) (fun c_118 => ?_) (fun c_118 => ?_)
                · refine x_iinc hx hb 6 ((t + 1 : Nat) : Int) (by omega) [(5, .int (iI ((t + 1 : Nat) : Int))), (6, .int (iI ((t : Nat) : Int))), (0, .ref x), (1, .int (iI ((p0 : Nat) : Int))), (2, .int (iI ((n0 : Nat) : Int))), (3, .int (iI bv)), (4, .int (iI lv))] dX4_love_133 hl rfl (by decide) rfl (fun ls hl => ?_)
                  refine lv_goto (tgt := 37) hx hb dX4_love_136 (by decide) ?_
                  exact ih (t + 1) T15 b16 bv lv _ _ _ (by omega) (run_step hr (beS_n (b := alF T15) (by (try dsimp only); rw [e_w, ← hp8]) (by (try dsimp only); omega))) (by omega) hP hD hS (lv_sub hl [2, 3, 4, 5, 6, 0] rfl)
                · refine lv_aload_n hx hb dX4_love_121 rfl (lv_at hl 1 rfl) ?_
                  refine va_get (D := D) (ci := 3) (v := .ref (vq 0)) (C := RX4) (T := TX4) (N := 7) hx hb hts (iT_X4_love_X4) hown hK hP 0 rfl rfl 2 (by decide) (hts (.fieldLink RX4 19 "WordSupper" "spare" "LWordSupper$Table;") (by decide +kernel)) (fun _ h9 => h9) rfl dX4_love_122 ?_
                  refine x_callV (As := []) (rest := []) ⟨hx, hb, hml, hown, hts⟩ (kX2_allLeft vq T15 b16 (by omega)) (cwV 0 hts gX4_love_X2_allLeft rfl rfl rfl ykVX2_allLeft ⟨Nat.le_of_ble_eq_true rfl, Nat.le_of_ble_eq_true rfl⟩) hP hK hD hS 17 1 rfl rfl rfl [17, 18, 19, 20, 21, 22, 23, 24] rfl (by decide) (fun _ => rfl) (fun _ => wObj x f q kq vq h g ik ++ (wTab cI q T (jc 0) ++ (wTab cI kq K (jc 1) ++ (wTab cI vq T15 b16 ++ (wSh cI h SB SS SN ++ (wTp cB g tn TB jc ++ (wA cI f 7 F))))))) (fun _ => rfl) rfl hl.1 rfl (Nat.le_of_ble_eq_true rfl) dX4_love_125 ⟨Nat.le_of_ble_eq_true rfl, Nat.le_of_ble_eq_true rfl⟩ (fun _ H locs _ hP hD hS => ?_)
                  refine W.eq (g2 := F0 m 128 ls [.int (iI (alF T15))]) rfl ?_
                  refine lv_istore (lv' := [(4, .int (iI (alF T15))), (6, .int (iI ((t : Nat) : Int))), (0, .ref x), (1, .int (iI ((p0 : Nat) : Int))), (2, .int (iI ((n0 : Nat) : Int))), (3, .int (iI bv)), (5, .int (iI ((t : Nat) : Int)))]) hx hb dX4_love_128 hl (by decide) rfl (fun ls hl => ?_)
                  refine lv_iload hx hb dX4_love_130 (lv_at hl 1 rfl) ?_
                  refine lv_istore_n (lv' := [(3, .int (iI ((t : Nat) : Int))), (4, .int (iI (alF T15))), (6, .int (iI ((t : Nat) : Int))), (0, .ref x), (1, .int (iI ((p0 : Nat) : Int))), (2, .int (iI ((n0 : Nat) : Int))), (5, .int (iI ((t : Nat) : Int)))]) hx hb dX4_love_132 rfl hl (by decide) rfl (fun ls hl => ?_)
                  refine x_iinc hx hb 6 ((t + 1 : Nat) : Int) (by omega) [(5, .int (iI ((t + 1 : Nat) : Int))), (3, .int (iI ((t : Nat) : Int))), (4, .int (iI (alF T15))), (6, .int (iI ((t : Nat) : Int))), (0, .ref x), (1, .int (iI ((p0 : Nat) : Int))), (2, .int (iI ((n0 : Nat) : Int)))] dX4_love_133 hl rfl (by decide) rfl (fun ls hl => ?_)
                  refine lv_goto (tgt := 37) hx hb dX4_love_136 (by decide) ?_
                  exact ih (t + 1) T15 b16 ((t : Nat) : Int) (alF T15) _ _ _ (by omega) (run_step hr (beS_t (a := ((t : Nat) : Int)) (b := alF T15) (decide_eq_true (by rw [e_w]; omega)) (by (try dsimp only); rw [e_w, ← hp8]) (by (try dsimp only); rw [e_w]) (by (try dsimp only); omega))) (by omega) hP hD hS (lv_sub hl [4, 5, 6, 1, 2, 0] rfl)
              · refine lv_goto (tgt := 133) hx hb dX4_love_75 (by decide) ?_
                refine x_iinc hx hb 6 ((t + 1 : Nat) : Int) (by omega) [(5, .int (iI ((t + 1 : Nat) : Int))), (6, .int (iI ((t : Nat) : Int))), (0, .ref x), (1, .int (iI ((p0 : Nat) : Int))), (2, .int (iI ((n0 : Nat) : Int))), (3, .int (iI bv)), (4, .int (iI lv))] dX4_love_133 hl rfl (by decide) rfl (fun ls hl => ?_)
                refine lv_goto (tgt := 37) hx hb dX4_love_136 (by decide) ?_
                exact ih (t + 1) Vt bt bv lv _ _ _ (by omega) (run_step hr (beS_o (decide_eq_false (by rw [e_w]; omega)))) (by omega) hP hD hS (lv_sub hl [2, 3, 4, 5, 6, 0] rfl)
      exact L37 ((T 0).toNat + 1) 0 V (jc 2) (-1) 1000000 _ _ _ (by omega) rfl (by decide) hP hD hS (lv_sub hl [3, 4, 5, 2, 1, 0] rfl)
    · refine lv_aload_n hx hb dX4_love_21 rfl (lv_at hl 0 rfl) ?_
      refine x_ldc hx hb (-1000001) rfl hown (hts (.constant RX4 44 (-1000001)) (by decide +kernel)) dX4_love_22 ?_
      refine x_callV (As := [.int (iI (-1000001))]) (rest := []) ⟨hx, hb, hml, hown, hts⟩ (kX4_finding x f q kq vq h g ik F (-1000001) 0 (by omega) (by omega)) (cwV 1 hts gX4_love_X4_finding rfl rfl rfl ykVX4_finding ⟨Nat.le_of_ble_eq_true rfl, Nat.le_of_ble_eq_true rfl⟩) hP hK hD hS 0 3 rfl rfl rfl [0, 31] rfl (by decide) (fun _ => rfl) (fun _ => wObj x f q kq vq h g ik ++ (wTab cI q T (jc 0) ++ (wTab cI kq K (jc 1) ++ (wTab cI vq V (jc 2) ++ (wSh cI h SB SS SN ++ (wTp cB g tn TB jc ++ (wA cI f 7 (bmp 0 F)))))))) (fun _ => rfl) rfl hl.1 rfl (Nat.le_of_ble_eq_true rfl) dX4_love_24 ⟨Nat.le_of_ble_eq_true rfl, Nat.le_of_ble_eq_true rfl⟩ (fun _ H locs _ hP hD hS => ?_)
      refine W.eq (g2 := F0 m 27 ls [.int (iI (-1000001))]) rfl ?_
      exact kend (((-1000001), T, K, ik, SB, SS, SN, tn, TB, (bmp 0 F)), V, jc) hP hS rfl (if_neg (by omega)).symm dX4_love_27
theorem ykSX4_kindFor : yX4_kindFor.cls ≠ "java/lang/invoke/MethodHandle" ∧ yX4_kindFor.cls ≠ "java/lang/invoke/VarHandle" ∧ (parseMethodDescriptor yX4_kindFor.desc).map (fun d => d.parameters.length) = some 2 := by decide +kernel
theorem ykVX4_kindFor : yX4_kindFor.cls = RX4 ∧ yX4_kindFor.cls ≠ "java/lang/invoke/MethodHandle" ∧ yX4_kindFor.cls ≠ "java/lang/invoke/VarHandle" ∧ (parseMethodDescriptor yX4_kindFor.desc).map (fun d => d.parameters.length) = some 2 := ⟨rfl, ykSX4_kindFor⟩
set_option maxRecDepth 20000 in
theorem iT_X4_kindFor_X4 : ∀ w ∈ u_ws RX4 TX4 7, w ∈ wsX4_kindFor := by decide +kernel
set_option maxRecDepth 20000 in
theorem iT_X4_kindFor_X2 : ∀ w ∈ u_ws RX2 TX2 12, w ∈ wsX4_kindFor := by decide +kernel
set_option maxHeartbeats 4000000 in
set_option maxRecDepth 100000 in
theorem kX4_kindFor {l : Launch} {D : va_G} {cI cB : ClassId} (x f : Nat) (q kq vq h g : Nat → Nat) (T K : Tb) (ik : Int) (SB SS SN : Nat → Int) (tn : Int) (TB F : Nat → Int) (V : Tb) (jc : Nat → Int) (sp n : Int) (B : Int) (hG : GI B T K ik SB SS SN tn TB F) (hB : B ≤ 40000) (h_sp : rI sp) (h_n : rI n) : Ct l yX4_kindFor wsX4_kindFor 6 137 D [(cI, .int), (cB, .byte)] [.ref x, .int (iI sp), .int (iI n)] (wC cI cB x f q kq vq h g (T, K, ik, SB, SS, SN, tn, TB, F) V jc) (S := (Int × Gs) × Tb × (Nat → Int)) (fun u => some (.int (iI u.1.1))) (fun u => u.1 = m_kindFor sp n T K ik SB SS SN tn TB F) (fun u => wC cI cB x f q kq vq h g u.1.2 u.2.1 u.2.2) := by
  refine CtI.of (cc := cX4_kindFor) (maxL := 6) (by decide +kernel) rfl (Nat.le_of_ble_eq_true rfl) ?_
  intro pg e s m args below meth c Q A hx hb hml hts hown hP hK hD hS ls hl kend
  have hown : s.vm.findClass RX4 = some m.cls := hown
  have hl : lv_has ls 6 [(0, .ref x), (1, .int (iI sp)), (2, .int (iI n))] := hl
  obtain ⟨hI, hIK, hik, hSB, hSS, hSN, htn, hTB, hF⟩ := id hG
  have hn := Inv_n hI
  have hdy := Inv_d hI
  have hP : va_P D vwCl (wObj x f q kq vq h g ik ++ (wTab cI q T (jc 0) ++ (wTab cI kq K (jc 1) ++ (wTab cI vq V (jc 2) ++ (wSh cI h SB SS SN ++ (wTp cB g tn TB jc ++ (wA cI f 7 F))))))) s.heap := hP
  have hD : va_D A (wObj x f q kq vq h g ik ++ (wTab cI q T (jc 0) ++ (wTab cI kq K (jc 1) ++ (wTab cI vq V (jc 2) ++ (wSh cI h SB SS SN ++ (wTp cB g tn TB jc ++ (wA cI f 7 F))))))) := hD
  refine lv_aload_n hx hb dX4_kindFor_0 rfl (lv_at hl 0 rfl) ?_
  refine va_get (D := D) (ci := 3) (v := .ref (q 0)) (C := RX4) (T := TX4) (N := 7) hx hb hts (iT_X4_kindFor_X4) hown hK hP 0 rfl rfl 0 (by decide) (hts (.fieldLink RX4 10 "WordSupper" "table" "LWordSupper$Table;") (by decide +kernel)) (fun _ h9 => h9) rfl dX4_kindFor_1 ?_
  refine lv_iload_n hx hb dX4_kindFor_4 rfl (lv_at hl 1 rfl) ?_
  refine x_callV (As := [.int (iI sp)]) (rest := []) ⟨hx, hb, hml, hown, hts⟩ (kX2_isSeat q T (jc 0) sp (by omega) (by omega)) (cwV 1 hts gX4_kindFor_X2_isSeat rfl rfl rfl ykVX2_isSeat ⟨Nat.le_of_ble_eq_true rfl, Nat.le_of_ble_eq_true rfl⟩) hP hK hD hS 1 1 rfl rfl rfl [1, 2, 3, 4, 5, 6, 7, 8] rfl (by decide) (fun _ => rfl) (fun _ => wObj x f q kq vq h g ik ++ (wTab cI q T (jc 0) ++ (wTab cI kq K (jc 1) ++ (wTab cI vq V (jc 2) ++ (wSh cI h SB SS SN ++ (wTp cB g tn TB jc ++ (wA cI f 7 F))))))) (fun _ => rfl) rfl hl.1 rfl (Nat.le_of_ble_eq_true rfl) dX4_kindFor_5 ⟨Nat.le_of_ble_eq_true rfl, Nat.le_of_ble_eq_true rfl⟩ (fun _ H locs _ hP hD hS => ?_)
  refine W.eq (g2 := F0 m 8 ls [.int (iI (b2 (decide (0 ≤ sp ∧ sp < T 0))))]) rfl ?_
  refine x_ifb_eq (tgt := 21) hx hb dX4_kindFor_8 (by decide) (fun c_8 => ?_) (fun c_8 => ?_)
  · refine lv_aload_n hx hb dX4_kindFor_21 rfl (lv_at hl 0 rfl) ?_
    refine x_ldc hx hb (-1000001) rfl hown (hts (.constant RX4 44 (-1000001)) (by decide +kernel)) dX4_kindFor_22 ?_
    refine x_callV (As := [.int (iI (-1000001))]) (rest := []) ⟨hx, hb, hml, hown, hts⟩ (kX4_finding x f q kq vq h g ik F (-1000001) 0 (by omega) (by omega)) (cwV 1 hts gX4_kindFor_X4_finding rfl rfl rfl ykVX4_finding ⟨Nat.le_of_ble_eq_true rfl, Nat.le_of_ble_eq_true rfl⟩) hP hK hD hS 0 3 rfl rfl rfl [0, 31] rfl (by decide) (fun _ => rfl) (fun _ => wObj x f q kq vq h g ik ++ (wTab cI q T (jc 0) ++ (wTab cI kq K (jc 1) ++ (wTab cI vq V (jc 2) ++ (wSh cI h SB SS SN ++ (wTp cB g tn TB jc ++ (wA cI f 7 (bmp 0 F)))))))) (fun _ => rfl) rfl hl.1 rfl (Nat.le_of_ble_eq_true rfl) dX4_kindFor_24 ⟨Nat.le_of_ble_eq_true rfl, Nat.le_of_ble_eq_true rfl⟩ (fun _ H locs _ hP hD hS => ?_)
    refine W.eq (g2 := F0 m 27 ls [.int (iI (-1000001))]) rfl ?_
    exact kend (((-1000001), T, K, ik, SB, SS, SN, tn, TB, (bmp 0 F)), V, jc) hP hS rfl (if_neg (by omega)).symm dX4_kindFor_27
  · refine lv_iload_n hx hb dX4_kindFor_11 rfl (lv_at hl 2 rfl) ?_
    refine x_iconst hx hb dX4_kindFor_12 ?_
    refine x_bipush hx hb dX4_kindFor_13 (by decide) ?_
    refine x_callS (As := [.int (iI n), .int (iI 0), .int (iI 40)]) (rest := []) ⟨hx, hb, hml, hown, hts⟩ (kX4_isWithin n 0 40 (by omega) (by decide) (by decide)) (va_cwS 3 hts gX4_kindFor_X4_isWithin rfl rfl rfl ykSX4_isWithin ⟨Nat.le_of_ble_eq_true rfl, Nat.le_of_ble_eq_true rfl⟩) hP hK hD hS [] rfl (by decide) (fun _ => rfl) (fun _ => wObj x f q kq vq h g ik ++ (wTab cI q T (jc 0) ++ (wTab cI kq K (jc 1) ++ (wTab cI vq V (jc 2) ++ (wSh cI h SB SS SN ++ (wTp cB g tn TB jc ++ (wA cI f 7 F))))))) (fun _ => rfl) rfl hl.1 rfl (Nat.le_of_ble_eq_true rfl) dX4_kindFor_15 ⟨Nat.le_of_ble_eq_true rfl, Nat.le_of_ble_eq_true rfl⟩ (fun _ H locs _ hP hD hS => ?_)
    refine W.eq (g2 := F0 m 18 ls [.int (iI (b2 (decide (0 ≤ n ∧ n ≤ 40))))]) rfl ?_
    refine x_ifb_ne (tgt := 28) hx hb dX4_kindFor_18 (by decide) (fun c_18 => ?_) (fun c_18 => ?_)
    · obtain ⟨p0, rfl⟩ : ∃ p0 : Nat, sp = (p0 : Int) := ⟨sp.toNat, by omega⟩
      obtain ⟨n0, rfl⟩ : ∃ n0 : Nat, n = (n0 : Int) := ⟨n.toNat, by omega⟩
      refine x_iconst hx hb dX4_kindFor_28 ?_
      refine lv_istore_n (lv' := [(3, .int (iI 0)), (0, .ref x), (1, .int (iI ((p0 : Nat) : Int))), (2, .int (iI ((n0 : Nat) : Int)))]) hx hb dX4_kindFor_29 rfl hl (by decide) rfl (fun ls hl => ?_)
      refine x_ldc hx hb 1000000 rfl hown (hts (.constant RX4 146 (1000000)) (by decide +kernel)) dX4_kindFor_30 ?_
      refine lv_istore (lv' := [(4, .int (iI 1000000)), (3, .int (iI 0)), (0, .ref x), (1, .int (iI ((p0 : Nat) : Int))), (2, .int (iI ((n0 : Nat) : Int)))]) hx hb dX4_kindFor_32 hl (by decide) rfl (fun ls hl => ?_)
      refine x_iconst hx hb dX4_kindFor_34 ?_
      refine lv_istore (lv' := [(5, .int (iI 0)), (4, .int (iI 1000000)), (3, .int (iI 0)), (0, .ref x), (1, .int (iI ((p0 : Nat) : Int))), (2, .int (iI ((n0 : Nat) : Int)))]) hx hb dX4_kindFor_35 hl (by decide) rfl (fun ls hl => ?_)
      have L37 : ∀ (k t : Nat) (Vt : Tb) (bt : Int) (bv : Int) (lv : Int) (H : Heap) (locs : List Loc) (ls : Array Slot), t + k = 7 → (run (beS (fun (i : Nat) => lfF (dsF 0 n0 (va_up T (cx p0 0) (i : Int))) p0) (fun (_ : Nat) => true) (fun (i : Nat) => (i : Int))) k t (bv, lv) = beF (fun (i : Nat) => lfF (dsF 0 n0 (va_up T (cx p0 0) (i : Int))) p0) (fun (_ : Nat) => true) (fun (i : Nat) => (i : Int)) 7 (0, 1000000)) → (0 ≤ lv ∧ lv ≤ 1000000) → va_P D vwCl (wObj x f q kq vq h g ik ++ (wTab cI q T (jc 0) ++ (wTab cI kq K (jc 1) ++ (wTab cI vq Vt bt ++ (wSh cI h SB SS SN ++ (wTp cB g tn TB jc ++ (wA cI f 7 F))))))) H → va_D A (wObj x f q kq vq h g ik ++ (wTab cI q T (jc 0) ++ (wTab cI kq K (jc 1) ++ (wTab cI vq Vt bt ++ (wSh cI h SB SS SN ++ (wTp cB g tn TB jc ++ (wA cI f 7 F))))))) → va_S A s.heap H locs → lv_has ls 6 [(0, .ref x), (1, .int (iI ((p0 : Nat) : Int))), (2, .int (iI ((n0 : Nat) : Int))), (3, .int (iI bv)), (4, .int (iI lv)), (5, .int (iI ((t : Nat) : Int)))] → W pg l e { frames := 6, cells := 0, slots := 0, locals := 137 } s m args below meth c H locs 0 0 Q (F0 m 37 ls []) := by
        intro k
        induction k with
        | zero =>
          intro t Vt bt bv lv H locs ls hkt hr hl9 hP hD hS hl
          refine lv_iload hx hb dX4_kindFor_37 (lv_at hl 5 rfl) ?_
          refine x_bipush hx hb dX4_kindFor_39 (by decide) ?_
          refine x_icmp_ge (tgt := 107) hx hb (by omega) (by decide) dX4_kindFor_41 (by decide) (fun c_41 => ?_) (fun c_41 => ?_)
          · refine lv_iload_n hx hb dX4_kindFor_107 rfl (lv_at hl 3 rfl) ?_
            exact kend ((bv, T, K, ik, SB, SS, SN, tn, TB, F), Vt, va_up jc 2 bt) hP hS rfl (by unfold m_kindFor; rw [if_pos (by omega)]; simp only [Int.toNat_natCast]; rw [← hr] <;> rfl) dX4_kindFor_108
          · exfalso; omega
        | succ k ih =>
          intro t Vt bt bv lv H locs ls hkt hr hl9 hP hD hS hl
          refine lv_iload hx hb dX4_kindFor_37 (lv_at hl 5 rfl) ?_
          refine x_bipush hx hb dX4_kindFor_39 (by decide) ?_
          refine x_icmp_ge (tgt := 107) hx hb (by omega) (by decide) dX4_kindFor_41 (by decide) (fun c_41 => ?_) (fun c_41 => ?_)
          · exfalso; omega
          · refine lv_aload_n hx hb dX4_kindFor_44 rfl (lv_at hl 0 rfl) ?_
            refine va_get (D := D) (ci := 3) (v := .ref (vq 0)) (C := RX4) (T := TX4) (N := 7) hx hb hts (iT_X4_kindFor_X4) hown hK hP 0 rfl rfl 2 (by decide) (hts (.fieldLink RX4 19 "WordSupper" "spare" "LWordSupper$Table;") (by decide +kernel)) (fun _ h9 => h9) rfl dX4_kindFor_45 ?_
            refine lv_aload_n hx hb dX4_kindFor_48 rfl (lv_at hl 0 rfl) ?_
            refine va_get (D := D) (ci := 3) (v := .ref (q 0)) (C := RX4) (T := TX4) (N := 7) hx hb hts (iT_X4_kindFor_X4) hown hK hP 0 rfl rfl 0 (by decide) (hts (.fieldLink RX4 10 "WordSupper" "table" "LWordSupper$Table;") (by decide +kernel)) (fun _ h9 => h9) rfl dX4_kindFor_49 ?_
            refine x_callV (As := [.ref (q 0)]) (rest := []) ⟨hx, hb, hml, hown, hts⟩ (kX2_become vq Vt bt q T (jc 0) ) (cwV 1 hts gX4_kindFor_X2_become rfl rfl rfl ykVX2_become ⟨Nat.le_of_ble_eq_true rfl, Nat.le_of_ble_eq_true rfl⟩) hP hK hD hS 17 1 rfl rfl rfl [17, 18, 19, 20, 21, 22, 23, 24, 1, 2, 3, 4, 5, 6, 7, 8] rfl (by decide) (fun _ => rfl) (fun _ => wObj x f q kq vq h g ik ++ (wTab cI q T (jc 0) ++ (wTab cI kq K (jc 1) ++ (wTab cI vq T bt ++ (wSh cI h SB SS SN ++ (wTp cB g tn TB jc ++ (wA cI f 7 F))))))) (fun _ => rfl) rfl hl.1 rfl (Nat.le_of_ble_eq_true rfl) dX4_kindFor_52 ⟨Nat.le_of_ble_eq_true rfl, Nat.le_of_ble_eq_true rfl⟩ (fun _ H locs _ hP hD hS => ?_)
            refine W.eq (g2 := F0 m 55 ls []) rfl ?_
            refine lv_aload_n hx hb dX4_kindFor_55 rfl (lv_at hl 0 rfl) ?_
            refine va_get (D := D) (ci := 3) (v := .ref (vq 0)) (C := RX4) (T := TX4) (N := 7) hx hb hts (iT_X4_kindFor_X4) hown hK hP 0 rfl rfl 2 (by decide) (hts (.fieldLink RX4 19 "WordSupper" "spare" "LWordSupper$Table;") (by decide +kernel)) (fun _ h9 => h9) rfl dX4_kindFor_56 ?_
            refine va_get (D := D) (ci := 1) (v := .ref (vq 2)) (C := RX2) (T := TX2) (N := 12) hx hb hts (iT_X4_kindFor_X2) hown hK hP 17 rfl rfl 6 (by decide) (hts (.fieldLink RX4 81 "WordSupper$Table" "kind" "[I") (by decide +kernel)) (fun _ h9 => h9) rfl dX4_kindFor_59 ?_
            refine lv_iload_n hx hb dX4_kindFor_62 rfl (lv_at hl 1 rfl) ?_
            refine lv_iload hx hb dX4_kindFor_63 (lv_at hl 5 rfl) ?_
            refine x_iast hx hb hK hP hD hS 19 0 rfl rfl p0 rfl (by omega) (by decide) (wObj x f q kq vq h g ik ++ (wTab cI q T (jc 0) ++ (wTab cI kq K (jc 1) ++ (wTab cI vq (va_up T (cx p0 0) ((t : Nat) : Int)) bt ++ (wSh cI h SB SS SN ++ (wTp cB g tn TB jc ++ (wA cI f 7 F))))))) (by rw [← wT_kind cI vq T bt ((t : Nat) : Int) p0 (by omega)]; rfl) dX4_kindFor_65 (fun H locs hP hD hS => ?_)
            have iS : Inv B (va_up T (cx p0 0) ((t : Nat) : Int)) := Inv_cx hI (by omega) (by omega) (fun _ => show 0 ≤ ((t : Nat) : Int) ∧ ((t : Nat) : Int) ≤ 6 by omega)
            have nS : va_up T (cx p0 0) ((t : Nat) : Int) 0 = T 0 := up_lo _ _ (by omega)
            refine lv_aload_n hx hb dX4_kindFor_66 rfl (lv_at hl 0 rfl) ?_
            refine va_get (D := D) (ci := 3) (v := .ref (vq 0)) (C := RX4) (T := TX4) (N := 7) hx hb hts (iT_X4_kindFor_X4) hown hK hP 0 rfl rfl 2 (by decide) (hts (.fieldLink RX4 19 "WordSupper" "spare" "LWordSupper$Table;") (by decide +kernel)) (fun _ h9 => h9) rfl dX4_kindFor_67 ?_
            refine lv_iload_n hx hb dX4_kindFor_70 rfl (lv_at hl 2 rfl) ?_
            refine x_iconst hx hb dX4_kindFor_71 ?_
            refine x_callV (As := [.int (iI ((n0 : Nat) : Int)), .int (iI 0)]) (rest := []) ⟨hx, hb, hml, hown, hts⟩ (kX2_passDays vq (va_up T (cx p0 0) ((t : Nat) : Int)) bt n0 0 B iS (by omega) (by omega) (by decide)) (cwV 2 hts gX4_kindFor_X2_passDays rfl rfl rfl ykVX2_passDays ⟨Nat.le_of_ble_eq_true rfl, Nat.le_of_ble_eq_true rfl⟩) hP hK hD hS 17 1 rfl rfl rfl [17, 18, 19, 20, 21, 22, 23, 24] rfl (by decide) (fun _ => rfl) (fun u => wObj x f q kq vq h g ik ++ (wTab cI q T (jc 0) ++ (wTab cI kq K (jc 1) ++ (wTab cI vq u.1 u.2 ++ (wSh cI h SB SS SN ++ (wTp cB g tn TB jc ++ (wA cI f 7 F))))))) (fun _ => rfl) rfl hl.1 rfl (Nat.le_of_ble_eq_true rfl) dX4_kindFor_72 ⟨Nat.le_of_ble_eq_true rfl, Nat.le_of_ble_eq_true rfl⟩ (fun u3 H locs hp4 hP hD hS => ?_)
            obtain ⟨T11, b12⟩ := u3
            replace hp4 : T11 = dsF 0 n0 (va_up T (cx p0 0) ((t : Nat) : Int)) := hp4
            have hP : va_P D vwCl (wObj x f q kq vq h g ik ++ (wTab cI q T (jc 0) ++ (wTab cI kq K (jc 1) ++ (wTab cI vq T11 b12 ++ (wSh cI h SB SS SN ++ (wTp cB g tn TB jc ++ (wA cI f 7 F))))))) H := hP
            have hD : va_D A (wObj x f q kq vq h g ik ++ (wTab cI q T (jc 0) ++ (wTab cI kq K (jc 1) ++ (wTab cI vq T11 b12 ++ (wSh cI h SB SS SN ++ (wTp cB g tn TB jc ++ (wA cI f 7 F))))))) := hD
            refine W.eq (g2 := F0 m 75 ls []) rfl ?_
            have iV : Inv (B + (n0 : Int)) T11 := by rw [hp4]; exact (dsF_I n0 iS).1
            have nV : T11 0 = T 0 := by rw [hp4, (dsF_I n0 iS).2.1]; exact nS
            have aV := al_b iV
            refine lv_aload_n hx hb dX4_kindFor_75 rfl (lv_at hl 0 rfl) ?_
            refine va_get (D := D) (ci := 3) (v := .ref (vq 0)) (C := RX4) (T := TX4) (N := 7) hx hb hts (iT_X4_kindFor_X4) hown hK hP 0 rfl rfl 2 (by decide) (hts (.fieldLink RX4 19 "WordSupper" "spare" "LWordSupper$Table;") (by decide +kernel)) (fun _ h9 => h9) rfl dX4_kindFor_76 ?_
            refine lv_iload_n hx hb dX4_kindFor_79 rfl (lv_at hl 1 rfl) ?_
            refine x_callV (As := [.int (iI ((p0 : Nat) : Int))]) (rest := []) ⟨hx, hb, hml, hown, hts⟩ (kX2_left vq T11 b12 p0 (by omega)) (cwV 1 hts gX4_kindFor_X2_left rfl rfl rfl ykVX2_left ⟨Nat.le_of_ble_eq_true rfl, Nat.le_of_ble_eq_true rfl⟩) hP hK hD hS 17 1 rfl rfl rfl [17, 18, 19, 20, 21, 22, 23, 24] rfl (by decide) (fun _ => rfl) (fun _ => wObj x f q kq vq h g ik ++ (wTab cI q T (jc 0) ++ (wTab cI kq K (jc 1) ++ (wTab cI vq T11 b12 ++ (wSh cI h SB SS SN ++ (wTp cB g tn TB jc ++ (wA cI f 7 F))))))) (fun _ => rfl) rfl hl.1 rfl (Nat.le_of_ble_eq_true rfl) dX4_kindFor_80 ⟨Nat.le_of_ble_eq_true rfl, Nat.le_of_ble_eq_true rfl⟩ (fun _ H locs _ hP hD hS => ?_)
            refine W.eq (g2 := F0 m 83 ls [.int (iI (lfF T11 p0))]) rfl ?_
            have lV := Inv_lf (p := p0) iV (by omega)
            refine lv_iload hx hb dX4_kindFor_83 (lv_at hl 4 rfl) ?_
            refine x_icmp_ge (tgt := 101) hx hb (by omega) (by omega) dX4_kindFor_85 (by decide) (fun c_85 => ?_) (fun c_85 => ?_)
            · refine x_iinc hx hb 5 ((t + 1 : Nat) : Int) (by omega) [(5, .int (iI ((t + 1 : Nat) : Int))), (0, .ref x), (1, .int (iI ((p0 : Nat) : Int))), (2, .int (iI ((n0 : Nat) : Int))), (3, .int (iI bv)), (4, .int (iI lv))] dX4_kindFor_101 hl rfl (by decide) rfl (fun ls hl => ?_)
              refine lv_goto (tgt := 37) hx hb dX4_kindFor_104 (by decide) ?_
              exact ih (t + 1) T11 b12 bv lv _ _ _ (by omega) (run_step hr (beS_n (b := lfF T11 p0) (by (try dsimp only); rw [← hp4]) (by (try dsimp only); omega))) (by omega) hP hD hS (lv_sub hl [1, 2, 3, 4, 5, 0] rfl)
            · refine lv_aload_n hx hb dX4_kindFor_88 rfl (lv_at hl 0 rfl) ?_
              refine va_get (D := D) (ci := 3) (v := .ref (vq 0)) (C := RX4) (T := TX4) (N := 7) hx hb hts (iT_X4_kindFor_X4) hown hK hP 0 rfl rfl 2 (by decide) (hts (.fieldLink RX4 19 "WordSupper" "spare" "LWordSupper$Table;") (by decide +kernel)) (fun _ h9 => h9) rfl dX4_kindFor_89 ?_
              refine lv_iload_n hx hb dX4_kindFor_92 rfl (lv_at hl 1 rfl) ?_
              refine x_callV (As := [.int (iI ((p0 : Nat) : Int))]) (rest := []) ⟨hx, hb, hml, hown, hts⟩ (kX2_left vq T11 b12 p0 (by omega)) (cwV 1 hts gX4_kindFor_X2_left rfl rfl rfl ykVX2_left ⟨Nat.le_of_ble_eq_true rfl, Nat.le_of_ble_eq_true rfl⟩) hP hK hD hS 17 1 rfl rfl rfl [17, 18, 19, 20, 21, 22, 23, 24] rfl (by decide) (fun _ => rfl) (fun _ => wObj x f q kq vq h g ik ++ (wTab cI q T (jc 0) ++ (wTab cI kq K (jc 1) ++ (wTab cI vq T11 b12 ++ (wSh cI h SB SS SN ++ (wTp cB g tn TB jc ++ (wA cI f 7 F))))))) (fun _ => rfl) rfl hl.1 rfl (Nat.le_of_ble_eq_true rfl) dX4_kindFor_93 ⟨Nat.le_of_ble_eq_true rfl, Nat.le_of_ble_eq_true rfl⟩ (fun _ H locs _ hP hD hS => ?_)
              refine W.eq (g2 := F0 m 96 ls [.int (iI (lfF T11 p0))]) rfl ?_
              refine lv_istore (lv' := [(4, .int (iI (lfF T11 p0))), (0, .ref x), (1, .int (iI ((p0 : Nat) : Int))), (2, .int (iI ((n0 : Nat) : Int))), (3, .int (iI bv)), (5, .int (iI ((t : Nat) : Int)))]) hx hb dX4_kindFor_96 hl (by decide) rfl (fun ls hl => ?_)
              refine lv_iload hx hb dX4_kindFor_98 (lv_at hl 5 rfl) ?_
              refine lv_istore_n (lv' := [(3, .int (iI ((t : Nat) : Int))), (4, .int (iI (lfF T11 p0))), (0, .ref x), (1, .int (iI ((p0 : Nat) : Int))), (2, .int (iI ((n0 : Nat) : Int))), (5, .int (iI ((t : Nat) : Int)))]) hx hb dX4_kindFor_100 rfl hl (by decide) rfl (fun ls hl => ?_)
              refine x_iinc hx hb 5 ((t + 1 : Nat) : Int) (by omega) [(5, .int (iI ((t + 1 : Nat) : Int))), (3, .int (iI ((t : Nat) : Int))), (4, .int (iI (lfF T11 p0))), (0, .ref x), (1, .int (iI ((p0 : Nat) : Int))), (2, .int (iI ((n0 : Nat) : Int)))] dX4_kindFor_101 hl rfl (by decide) rfl (fun ls hl => ?_)
              refine lv_goto (tgt := 37) hx hb dX4_kindFor_104 (by decide) ?_
              exact ih (t + 1) T11 b12 ((t : Nat) : Int) (lfF T11 p0) _ _ _ (by omega) (run_step hr (beS_t (a := ((t : Nat) : Int)) (b := lfF T11 p0) rfl (by (try dsimp only); rw [← hp4]) rfl (by (try dsimp only); omega))) (by omega) hP hD hS (lv_sub hl [3, 4, 5, 1, 2, 0] rfl)
      exact L37 7 0 V (jc 2) 0 1000000 _ _ _ (by omega) rfl (by decide) hP hD hS (lv_sub hl [3, 4, 5, 2, 1, 0] rfl)
    · refine lv_aload_n hx hb dX4_kindFor_21 rfl (lv_at hl 0 rfl) ?_
      refine x_ldc hx hb (-1000001) rfl hown (hts (.constant RX4 44 (-1000001)) (by decide +kernel)) dX4_kindFor_22 ?_
      refine x_callV (As := [.int (iI (-1000001))]) (rest := []) ⟨hx, hb, hml, hown, hts⟩ (kX4_finding x f q kq vq h g ik F (-1000001) 0 (by omega) (by omega)) (cwV 1 hts gX4_kindFor_X4_finding rfl rfl rfl ykVX4_finding ⟨Nat.le_of_ble_eq_true rfl, Nat.le_of_ble_eq_true rfl⟩) hP hK hD hS 0 3 rfl rfl rfl [0, 31] rfl (by decide) (fun _ => rfl) (fun _ => wObj x f q kq vq h g ik ++ (wTab cI q T (jc 0) ++ (wTab cI kq K (jc 1) ++ (wTab cI vq V (jc 2) ++ (wSh cI h SB SS SN ++ (wTp cB g tn TB jc ++ (wA cI f 7 (bmp 0 F)))))))) (fun _ => rfl) rfl hl.1 rfl (Nat.le_of_ble_eq_true rfl) dX4_kindFor_24 ⟨Nat.le_of_ble_eq_true rfl, Nat.le_of_ble_eq_true rfl⟩ (fun _ H locs _ hP hD hS => ?_)
      refine W.eq (g2 := F0 m 27 ls [.int (iI (-1000001))]) rfl ?_
      exact kend (((-1000001), T, K, ik, SB, SS, SN, tn, TB, (bmp 0 F)), V, jc) hP hS rfl (if_neg (by omega)).symm dX4_kindFor_27
theorem ykSX4_unsay : yX4_unsay.cls ≠ "java/lang/invoke/MethodHandle" ∧ yX4_unsay.cls ≠ "java/lang/invoke/VarHandle" ∧ (parseMethodDescriptor yX4_unsay.desc).map (fun d => d.parameters.length) = some 1 := by decide +kernel
theorem ykVX4_unsay : yX4_unsay.cls = RX4 ∧ yX4_unsay.cls ≠ "java/lang/invoke/MethodHandle" ∧ yX4_unsay.cls ≠ "java/lang/invoke/VarHandle" ∧ (parseMethodDescriptor yX4_unsay.desc).map (fun d => d.parameters.length) = some 1 := ⟨rfl, ykSX4_unsay⟩
set_option maxRecDepth 20000 in
theorem iT_X4_unsay_X4 : ∀ w ∈ u_ws RX4 TX4 7, w ∈ wsX4_unsay := by decide +kernel
set_option maxRecDepth 20000 in
theorem iT_X4_unsay_X2 : ∀ w ∈ u_ws RX2 TX2 12, w ∈ wsX4_unsay := by decide +kernel
set_option maxHeartbeats 4000000 in
set_option maxRecDepth 100000 in
theorem kX4_unsay {l : Launch} {D : va_G} {cI cB : ClassId} (x f : Nat) (q kq vq h g : Nat → Nat) (T K : Tb) (ik : Int) (SB SS SN : Nat → Int) (tn : Int) (TB F : Nat → Int) (V : Tb) (jc : Nat → Int) (n : Int) (B : Int) (hG : GI B T K ik SB SS SN tn TB F) (hB : B ≤ 40000) (h_n : rI n) : Ct l yX4_unsay wsX4_unsay 6 137 D [(cI, .int), (cB, .byte)] [.ref x, .int (iI n)] (wC cI cB x f q kq vq h g (T, K, ik, SB, SS, SN, tn, TB, F) V jc) (S := (Int × Gs) × Tb × (Nat → Int)) (fun u => some (.int (iI u.1.1))) (fun u => u.1 = m_unsay n T K ik SB SS SN tn TB F) (fun u => wC cI cB x f q kq vq h g u.1.2 u.2.1 u.2.2) := by
  refine CtI.of (cc := cX4_unsay) (maxL := 5) (by decide +kernel) rfl (Nat.le_of_ble_eq_true rfl) ?_
  intro pg e s m args below meth c Q A hx hb hml hts hown hP hK hD hS ls hl kend
  have hown : s.vm.findClass RX4 = some m.cls := hown
  have hl : lv_has ls 5 [(0, .ref x), (1, .int (iI n))] := hl
  obtain ⟨hI, hIK, hik, hSB, hSS, hSN, htn, hTB, hF⟩ := id hG
  have hn := Inv_n hI
  have hdy := Inv_d hI
  have hP : va_P D vwCl (wObj x f q kq vq h g ik ++ (wTab cI q T (jc 0) ++ (wTab cI kq K (jc 1) ++ (wTab cI vq V (jc 2) ++ (wSh cI h SB SS SN ++ (wTp cB g tn TB jc ++ (wA cI f 7 F))))))) s.heap := hP
  have hD : va_D A (wObj x f q kq vq h g ik ++ (wTab cI q T (jc 0) ++ (wTab cI kq K (jc 1) ++ (wTab cI vq V (jc 2) ++ (wSh cI h SB SS SN ++ (wTp cB g tn TB jc ++ (wA cI f 7 F))))))) := hD
  refine lv_iload_n hx hb dX4_unsay_0 rfl (lv_at hl 1 rfl) ?_
  refine x_iconst hx hb dX4_unsay_1 ?_
  refine x_bipush hx hb dX4_unsay_2 (by decide) ?_
  refine x_callS (As := [.int (iI n), .int (iI 0), .int (iI 40)]) (rest := []) ⟨hx, hb, hml, hown, hts⟩ (kX4_isWithin n 0 40 (by omega) (by decide) (by decide)) (va_cwS 3 hts gX4_unsay_X4_isWithin rfl rfl rfl ykSX4_isWithin ⟨Nat.le_of_ble_eq_true rfl, Nat.le_of_ble_eq_true rfl⟩) hP hK hD hS [] rfl (by decide) (fun _ => rfl) (fun _ => wObj x f q kq vq h g ik ++ (wTab cI q T (jc 0) ++ (wTab cI kq K (jc 1) ++ (wTab cI vq V (jc 2) ++ (wSh cI h SB SS SN ++ (wTp cB g tn TB jc ++ (wA cI f 7 F))))))) (fun _ => rfl) rfl hl.1 rfl (Nat.le_of_ble_eq_true rfl) dX4_unsay_4 ⟨Nat.le_of_ble_eq_true rfl, Nat.le_of_ble_eq_true rfl⟩ (fun _ H locs _ hP hD hS => ?_)
  refine W.eq (g2 := F0 m 7 ls [.int (iI (b2 (decide (0 ≤ n ∧ n ≤ 40))))]) rfl ?_
  refine x_ifb_ne (tgt := 17) hx hb dX4_unsay_7 (by decide) (fun c_7 => ?_) (fun c_7 => ?_)
  · obtain ⟨n0, rfl⟩ : ∃ n0 : Nat, n = (n0 : Int) := ⟨n.toNat, by omega⟩
    refine x_iconst hx hb dX4_unsay_17 ?_
    refine lv_istore_n (lv' := [(2, .int (iI 0)), (0, .ref x), (1, .int (iI ((n0 : Nat) : Int)))]) hx hb dX4_unsay_18 rfl hl (by decide) rfl (fun ls hl => ?_)
    refine x_ldc hx hb 1000000 rfl hown (hts (.constant RX4 146 (1000000)) (by decide +kernel)) dX4_unsay_19 ?_
    refine lv_istore_n (lv' := [(3, .int (iI 1000000)), (2, .int (iI 0)), (0, .ref x), (1, .int (iI ((n0 : Nat) : Int)))]) hx hb dX4_unsay_21 rfl hl (by decide) rfl (fun ls hl => ?_)
    refine x_iconst hx hb dX4_unsay_22 ?_
    refine lv_istore (lv' := [(4, .int (iI 0)), (3, .int (iI 1000000)), (2, .int (iI 0)), (0, .ref x), (1, .int (iI ((n0 : Nat) : Int)))]) hx hb dX4_unsay_23 hl (by decide) rfl (fun ls hl => ?_)
    have L25 : ∀ (k t : Nat) (Vt : Tb) (bt : Int) (bv : Int) (lv : Int) (H : Heap) (locs : List Loc) (ls : Array Slot), t + k = 6 → (run (beS (fun (i : Nat) => alF (dsF 0 n0 (va_up T (4 + i) 0))) (fun (_ : Nat) => true) (fun (i : Nat) => (i : Int))) k t (bv, lv) = beF (fun (i : Nat) => alF (dsF 0 n0 (va_up T (4 + i) 0))) (fun (_ : Nat) => true) (fun (i : Nat) => (i : Int)) 6 (0, 1000000)) → (0 ≤ lv ∧ lv ≤ 1000000) → va_P D vwCl (wObj x f q kq vq h g ik ++ (wTab cI q T (jc 0) ++ (wTab cI kq K (jc 1) ++ (wTab cI vq Vt bt ++ (wSh cI h SB SS SN ++ (wTp cB g tn TB jc ++ (wA cI f 7 F))))))) H → va_D A (wObj x f q kq vq h g ik ++ (wTab cI q T (jc 0) ++ (wTab cI kq K (jc 1) ++ (wTab cI vq Vt bt ++ (wSh cI h SB SS SN ++ (wTp cB g tn TB jc ++ (wA cI f 7 F))))))) → va_S A s.heap H locs → lv_has ls 5 [(0, .ref x), (1, .int (iI ((n0 : Nat) : Int))), (2, .int (iI bv)), (3, .int (iI lv)), (4, .int (iI ((t : Nat) : Int)))] → W pg l e { frames := 6, cells := 0, slots := 0, locals := 137 } s m args below meth c H locs 0 0 Q (F0 m 25 ls []) := by
      intro k
      induction k with
      | zero =>
        intro t Vt bt bv lv H locs ls hkt hr hl9 hP hD hS hl
        refine lv_iload hx hb dX4_unsay_25 (lv_at hl 4 rfl) ?_
        refine x_bipush hx hb dX4_unsay_27 (by decide) ?_
        refine x_icmp_ge (tgt := 91) hx hb (by omega) (by decide) dX4_unsay_29 (by decide) (fun c_29 => ?_) (fun c_29 => ?_)
        · refine lv_iload_n hx hb dX4_unsay_91 rfl (lv_at hl 2 rfl) ?_
          exact kend ((bv, T, K, ik, SB, SS, SN, tn, TB, F), Vt, va_up jc 2 bt) hP hS rfl (by unfold m_unsay; rw [if_pos (by omega)]; simp only [Int.toNat_natCast]; rw [← hr] <;> rfl) dX4_unsay_92
        · exfalso; omega
      | succ k ih =>
        intro t Vt bt bv lv H locs ls hkt hr hl9 hP hD hS hl
        refine lv_iload hx hb dX4_unsay_25 (lv_at hl 4 rfl) ?_
        refine x_bipush hx hb dX4_unsay_27 (by decide) ?_
        refine x_icmp_ge (tgt := 91) hx hb (by omega) (by decide) dX4_unsay_29 (by decide) (fun c_29 => ?_) (fun c_29 => ?_)
        · exfalso; omega
        · refine lv_aload_n hx hb dX4_unsay_32 rfl (lv_at hl 0 rfl) ?_
          refine va_get (D := D) (ci := 3) (v := .ref (vq 0)) (C := RX4) (T := TX4) (N := 7) hx hb hts (iT_X4_unsay_X4) hown hK hP 0 rfl rfl 2 (by decide) (hts (.fieldLink RX4 19 "WordSupper" "spare" "LWordSupper$Table;") (by decide +kernel)) (fun _ h9 => h9) rfl dX4_unsay_33 ?_
          refine lv_aload_n hx hb dX4_unsay_36 rfl (lv_at hl 0 rfl) ?_
          refine va_get (D := D) (ci := 3) (v := .ref (q 0)) (C := RX4) (T := TX4) (N := 7) hx hb hts (iT_X4_unsay_X4) hown hK hP 0 rfl rfl 0 (by decide) (hts (.fieldLink RX4 10 "WordSupper" "table" "LWordSupper$Table;") (by decide +kernel)) (fun _ h9 => h9) rfl dX4_unsay_37 ?_
          refine x_callV (As := [.ref (q 0)]) (rest := []) ⟨hx, hb, hml, hown, hts⟩ (kX2_become vq Vt bt q T (jc 0) ) (cwV 1 hts gX4_unsay_X2_become rfl rfl rfl ykVX2_become ⟨Nat.le_of_ble_eq_true rfl, Nat.le_of_ble_eq_true rfl⟩) hP hK hD hS 17 1 rfl rfl rfl [17, 18, 19, 20, 21, 22, 23, 24, 1, 2, 3, 4, 5, 6, 7, 8] rfl (by decide) (fun _ => rfl) (fun _ => wObj x f q kq vq h g ik ++ (wTab cI q T (jc 0) ++ (wTab cI kq K (jc 1) ++ (wTab cI vq T bt ++ (wSh cI h SB SS SN ++ (wTp cB g tn TB jc ++ (wA cI f 7 F))))))) (fun _ => rfl) rfl hl.1 rfl (Nat.le_of_ble_eq_true rfl) dX4_unsay_40 ⟨Nat.le_of_ble_eq_true rfl, Nat.le_of_ble_eq_true rfl⟩ (fun _ H locs _ hP hD hS => ?_)
          refine W.eq (g2 := F0 m 43 ls []) rfl ?_
          refine lv_aload_n hx hb dX4_unsay_43 rfl (lv_at hl 0 rfl) ?_
          refine va_get (D := D) (ci := 3) (v := .ref (vq 0)) (C := RX4) (T := TX4) (N := 7) hx hb hts (iT_X4_unsay_X4) hown hK hP 0 rfl rfl 2 (by decide) (hts (.fieldLink RX4 19 "WordSupper" "spare" "LWordSupper$Table;") (by decide +kernel)) (fun _ h9 => h9) rfl dX4_unsay_44 ?_
          refine va_get (D := D) (ci := 1) (v := .ref (vq 1)) (C := RX2) (T := TX2) (N := 12) hx hb hts (iT_X4_unsay_X2) hown hK hP 17 rfl rfl 5 (by decide) (hts (.fieldLink RX4 57 "WordSupper$Table" "listed" "[I") (by decide +kernel)) (fun _ h9 => h9) rfl dX4_unsay_47 ?_
          refine lv_iload hx hb dX4_unsay_50 (lv_at hl 4 rfl) ?_
          refine x_iconst hx hb dX4_unsay_52 ?_
          refine x_iast hx hb hK hP hD hS 18 0 rfl rfl t rfl (by omega) (by decide) (wObj x f q kq vq h g ik ++ (wTab cI q T (jc 0) ++ (wTab cI kq K (jc 1) ++ (wTab cI vq (va_up T (4 + t) 0) bt ++ (wSh cI h SB SS SN ++ (wTp cB g tn TB jc ++ (wA cI f 7 F))))))) (by rw [← wT_listed cI vq T bt 0 t (by omega)]; rfl) dX4_unsay_53 (fun H locs hP hD hS => ?_)
          have iS : Inv B (va_up T (4 + t) 0) := Inv_li hI (by omega) (by decide)
          have nS : va_up T (4 + t) 0 0 = T 0 := up_n _ _ (by omega)
          refine lv_aload_n hx hb dX4_unsay_54 rfl (lv_at hl 0 rfl) ?_
          refine va_get (D := D) (ci := 3) (v := .ref (vq 0)) (C := RX4) (T := TX4) (N := 7) hx hb hts (iT_X4_unsay_X4) hown hK hP 0 rfl rfl 2 (by decide) (hts (.fieldLink RX4 19 "WordSupper" "spare" "LWordSupper$Table;") (by decide +kernel)) (fun _ h9 => h9) rfl dX4_unsay_55 ?_
          refine lv_iload_n hx hb dX4_unsay_58 rfl (lv_at hl 1 rfl) ?_
          refine x_iconst hx hb dX4_unsay_59 ?_
          refine x_callV (As := [.int (iI ((n0 : Nat) : Int)), .int (iI 0)]) (rest := []) ⟨hx, hb, hml, hown, hts⟩ (kX2_passDays vq (va_up T (4 + t) 0) bt n0 0 B iS (by omega) (by omega) (by decide)) (cwV 2 hts gX4_unsay_X2_passDays rfl rfl rfl ykVX2_passDays ⟨Nat.le_of_ble_eq_true rfl, Nat.le_of_ble_eq_true rfl⟩) hP hK hD hS 17 1 rfl rfl rfl [17, 18, 19, 20, 21, 22, 23, 24] rfl (by decide) (fun _ => rfl) (fun u => wObj x f q kq vq h g ik ++ (wTab cI q T (jc 0) ++ (wTab cI kq K (jc 1) ++ (wTab cI vq u.1 u.2 ++ (wSh cI h SB SS SN ++ (wTp cB g tn TB jc ++ (wA cI f 7 F))))))) (fun _ => rfl) rfl hl.1 rfl (Nat.le_of_ble_eq_true rfl) dX4_unsay_60 ⟨Nat.le_of_ble_eq_true rfl, Nat.le_of_ble_eq_true rfl⟩ (fun u3 H locs hp4 hP hD hS => ?_)
          obtain ⟨T11, b12⟩ := u3
          replace hp4 : T11 = dsF 0 n0 (va_up T (4 + t) 0) := hp4
          have hP : va_P D vwCl (wObj x f q kq vq h g ik ++ (wTab cI q T (jc 0) ++ (wTab cI kq K (jc 1) ++ (wTab cI vq T11 b12 ++ (wSh cI h SB SS SN ++ (wTp cB g tn TB jc ++ (wA cI f 7 F))))))) H := hP
          have hD : va_D A (wObj x f q kq vq h g ik ++ (wTab cI q T (jc 0) ++ (wTab cI kq K (jc 1) ++ (wTab cI vq T11 b12 ++ (wSh cI h SB SS SN ++ (wTp cB g tn TB jc ++ (wA cI f 7 F))))))) := hD
          refine W.eq (g2 := F0 m 63 ls []) rfl ?_
          have iV : Inv (B + (n0 : Int)) T11 := by rw [hp4]; exact (dsF_I n0 iS).1
          have nV : T11 0 = T 0 := by rw [hp4, (dsF_I n0 iS).2.1]; exact nS
          have aV := al_b iV
          refine lv_aload_n hx hb dX4_unsay_63 rfl (lv_at hl 0 rfl) ?_
          refine va_get (D := D) (ci := 3) (v := .ref (vq 0)) (C := RX4) (T := TX4) (N := 7) hx hb hts (iT_X4_unsay_X4) hown hK hP 0 rfl rfl 2 (by decide) (hts (.fieldLink RX4 19 "WordSupper" "spare" "LWordSupper$Table;") (by decide +kernel)) (fun _ h9 => h9) rfl dX4_unsay_64 ?_
          refine x_callV (As := []) (rest := []) ⟨hx, hb, hml, hown, hts⟩ (kX2_allLeft vq T11 b12 (by omega)) (cwV 0 hts gX4_unsay_X2_allLeft rfl rfl rfl ykVX2_allLeft ⟨Nat.le_of_ble_eq_true rfl, Nat.le_of_ble_eq_true rfl⟩) hP hK hD hS 17 1 rfl rfl rfl [17, 18, 19, 20, 21, 22, 23, 24] rfl (by decide) (fun _ => rfl) (fun _ => wObj x f q kq vq h g ik ++ (wTab cI q T (jc 0) ++ (wTab cI kq K (jc 1) ++ (wTab cI vq T11 b12 ++ (wSh cI h SB SS SN ++ (wTp cB g tn TB jc ++ (wA cI f 7 F))))))) (fun _ => rfl) rfl hl.1 rfl (Nat.le_of_ble_eq_true rfl) dX4_unsay_67 ⟨Nat.le_of_ble_eq_true rfl, Nat.le_of_ble_eq_true rfl⟩ (fun _ H locs _ hP hD hS => ?_)
          refine W.eq (g2 := F0 m 70 ls [.int (iI (alF T11))]) rfl ?_
          refine lv_iload_n hx hb dX4_unsay_70 rfl (lv_at hl 3 rfl) ?_
          refine x_icmp_ge (tgt := 85) hx hb (by omega) (by omega) dX4_unsay_71 (by decide) (fun c_71 => ?_) (fun c_71 => ?_)
          · refine x_iinc hx hb 4 ((t + 1 : Nat) : Int) (by omega) [(4, .int (iI ((t + 1 : Nat) : Int))), (0, .ref x), (1, .int (iI ((n0 : Nat) : Int))), (2, .int (iI bv)), (3, .int (iI lv))] dX4_unsay_85 hl rfl (by decide) rfl (fun ls hl => ?_)
            refine lv_goto (tgt := 25) hx hb dX4_unsay_88 (by decide) ?_
            exact ih (t + 1) T11 b12 bv lv _ _ _ (by omega) (run_step hr (beS_n (b := alF T11) (by (try dsimp only); rw [← hp4]) (by (try dsimp only); omega))) (by omega) hP hD hS (lv_sub hl [1, 2, 3, 4, 0] rfl)
          · refine lv_aload_n hx hb dX4_unsay_74 rfl (lv_at hl 0 rfl) ?_
            refine va_get (D := D) (ci := 3) (v := .ref (vq 0)) (C := RX4) (T := TX4) (N := 7) hx hb hts (iT_X4_unsay_X4) hown hK hP 0 rfl rfl 2 (by decide) (hts (.fieldLink RX4 19 "WordSupper" "spare" "LWordSupper$Table;") (by decide +kernel)) (fun _ h9 => h9) rfl dX4_unsay_75 ?_
            refine x_callV (As := []) (rest := []) ⟨hx, hb, hml, hown, hts⟩ (kX2_allLeft vq T11 b12 (by omega)) (cwV 0 hts gX4_unsay_X2_allLeft rfl rfl rfl ykVX2_allLeft ⟨Nat.le_of_ble_eq_true rfl, Nat.le_of_ble_eq_true rfl⟩) hP hK hD hS 17 1 rfl rfl rfl [17, 18, 19, 20, 21, 22, 23, 24] rfl (by decide) (fun _ => rfl) (fun _ => wObj x f q kq vq h g ik ++ (wTab cI q T (jc 0) ++ (wTab cI kq K (jc 1) ++ (wTab cI vq T11 b12 ++ (wSh cI h SB SS SN ++ (wTp cB g tn TB jc ++ (wA cI f 7 F))))))) (fun _ => rfl) rfl hl.1 rfl (Nat.le_of_ble_eq_true rfl) dX4_unsay_78 ⟨Nat.le_of_ble_eq_true rfl, Nat.le_of_ble_eq_true rfl⟩ (fun _ H locs _ hP hD hS => ?_)
            refine W.eq (g2 := F0 m 81 ls [.int (iI (alF T11))]) rfl ?_
            refine lv_istore_n (lv' := [(3, .int (iI (alF T11))), (0, .ref x), (1, .int (iI ((n0 : Nat) : Int))), (2, .int (iI bv)), (4, .int (iI ((t : Nat) : Int)))]) hx hb dX4_unsay_81 rfl hl (by decide) rfl (fun ls hl => ?_)
            refine lv_iload hx hb dX4_unsay_82 (lv_at hl 4 rfl) ?_
            refine lv_istore_n (lv' := [(2, .int (iI ((t : Nat) : Int))), (3, .int (iI (alF T11))), (0, .ref x), (1, .int (iI ((n0 : Nat) : Int))), (4, .int (iI ((t : Nat) : Int)))]) hx hb dX4_unsay_84 rfl hl (by decide) rfl (fun ls hl => ?_)
            refine x_iinc hx hb 4 ((t + 1 : Nat) : Int) (by omega) [(4, .int (iI ((t + 1 : Nat) : Int))), (2, .int (iI ((t : Nat) : Int))), (3, .int (iI (alF T11))), (0, .ref x), (1, .int (iI ((n0 : Nat) : Int)))] dX4_unsay_85 hl rfl (by decide) rfl (fun ls hl => ?_)
            refine lv_goto (tgt := 25) hx hb dX4_unsay_88 (by decide) ?_
            exact ih (t + 1) T11 b12 ((t : Nat) : Int) (alF T11) _ _ _ (by omega) (run_step hr (beS_t (a := ((t : Nat) : Int)) (b := alF T11) rfl (by (try dsimp only); rw [← hp4]) rfl (by (try dsimp only); omega))) (by omega) hP hD hS (lv_sub hl [3, 4, 1, 2, 0] rfl)
    exact L25 6 0 V (jc 2) 0 1000000 _ _ _ (by omega) rfl (by decide) hP hD hS (lv_sub hl [3, 4, 2, 1, 0] rfl)
  · refine lv_aload_n hx hb dX4_unsay_10 rfl (lv_at hl 0 rfl) ?_
    refine x_ldc hx hb (-1000001) rfl hown (hts (.constant RX4 44 (-1000001)) (by decide +kernel)) dX4_unsay_11 ?_
    refine x_callV (As := [.int (iI (-1000001))]) (rest := []) ⟨hx, hb, hml, hown, hts⟩ (kX4_finding x f q kq vq h g ik F (-1000001) 0 (by omega) (by omega)) (cwV 1 hts gX4_unsay_X4_finding rfl rfl rfl ykVX4_finding ⟨Nat.le_of_ble_eq_true rfl, Nat.le_of_ble_eq_true rfl⟩) hP hK hD hS 0 3 rfl rfl rfl [0, 31] rfl (by decide) (fun _ => rfl) (fun _ => wObj x f q kq vq h g ik ++ (wTab cI q T (jc 0) ++ (wTab cI kq K (jc 1) ++ (wTab cI vq V (jc 2) ++ (wSh cI h SB SS SN ++ (wTp cB g tn TB jc ++ (wA cI f 7 (bmp 0 F)))))))) (fun _ => rfl) rfl hl.1 rfl (Nat.le_of_ble_eq_true rfl) dX4_unsay_13 ⟨Nat.le_of_ble_eq_true rfl, Nat.le_of_ble_eq_true rfl⟩ (fun _ H locs _ hP hD hS => ?_)
    refine W.eq (g2 := F0 m 16 ls [.int (iI (-1000001))]) rfl ?_
    exact kend (((-1000001), T, K, ik, SB, SS, SN, tn, TB, (bmp 0 F)), V, jc) hP hS rfl (if_neg (by omega)).symm dX4_unsay_16
theorem ykSX4_vinegarFor : yX4_vinegarFor.cls ≠ "java/lang/invoke/MethodHandle" ∧ yX4_vinegarFor.cls ≠ "java/lang/invoke/VarHandle" ∧ (parseMethodDescriptor yX4_vinegarFor.desc).map (fun d => d.parameters.length) = some 2 := by decide +kernel
theorem ykVX4_vinegarFor : yX4_vinegarFor.cls = RX4 ∧ yX4_vinegarFor.cls ≠ "java/lang/invoke/MethodHandle" ∧ yX4_vinegarFor.cls ≠ "java/lang/invoke/VarHandle" ∧ (parseMethodDescriptor yX4_vinegarFor.desc).map (fun d => d.parameters.length) = some 2 := ⟨rfl, ykSX4_vinegarFor⟩
set_option maxRecDepth 20000 in
theorem iT_X4_vinegarFor_X4 : ∀ w ∈ u_ws RX4 TX4 7, w ∈ wsX4_vinegarFor := by decide +kernel
set_option maxRecDepth 20000 in
theorem iT_X4_vinegarFor_X2 : ∀ w ∈ u_ws RX2 TX2 12, w ∈ wsX4_vinegarFor := by decide +kernel
set_option maxHeartbeats 4000000 in
set_option maxRecDepth 100000 in
theorem kX4_vinegarFor {l : Launch} {D : va_G} {cI cB : ClassId} (x f : Nat) (q kq vq h g : Nat → Nat) (T K : Tb) (ik : Int) (SB SS SN : Nat → Int) (tn : Int) (TB F : Nat → Int) (V : Tb) (jc : Nat → Int) (sp n : Int) (B : Int) (hG : GI B T K ik SB SS SN tn TB F) (hB : B ≤ 40000) (h_sp : rI sp) (h_n : rI n) : Ct l yX4_vinegarFor wsX4_vinegarFor 6 137 D [(cI, .int), (cB, .byte)] [.ref x, .int (iI sp), .int (iI n)] (wC cI cB x f q kq vq h g (T, K, ik, SB, SS, SN, tn, TB, F) V jc) (S := (Int × Gs) × Tb × (Nat → Int)) (fun u => some (.int (iI u.1.1))) (fun u => u.1 = m_vinegarFor sp n T K ik SB SS SN tn TB F) (fun u => wC cI cB x f q kq vq h g u.1.2 u.2.1 u.2.2) := by
  refine CtI.of (cc := cX4_vinegarFor) (maxL := 4) (by decide +kernel) rfl (Nat.le_of_ble_eq_true rfl) ?_
  intro pg e s m args below meth c Q A hx hb hml hts hown hP hK hD hS ls hl kend
  have hown : s.vm.findClass RX4 = some m.cls := hown
  have hl : lv_has ls 4 [(0, .ref x), (1, .int (iI sp)), (2, .int (iI n))] := hl
  obtain ⟨hI, hIK, hik, hSB, hSS, hSN, htn, hTB, hF⟩ := id hG
  have hn := Inv_n hI
  have hdy := Inv_d hI
  have hP : va_P D vwCl (wObj x f q kq vq h g ik ++ (wTab cI q T (jc 0) ++ (wTab cI kq K (jc 1) ++ (wTab cI vq V (jc 2) ++ (wSh cI h SB SS SN ++ (wTp cB g tn TB jc ++ (wA cI f 7 F))))))) s.heap := hP
  have hD : va_D A (wObj x f q kq vq h g ik ++ (wTab cI q T (jc 0) ++ (wTab cI kq K (jc 1) ++ (wTab cI vq V (jc 2) ++ (wSh cI h SB SS SN ++ (wTp cB g tn TB jc ++ (wA cI f 7 F))))))) := hD
  refine lv_aload_n hx hb dX4_vinegarFor_0 rfl (lv_at hl 0 rfl) ?_
  refine va_get (D := D) (ci := 3) (v := .ref (q 0)) (C := RX4) (T := TX4) (N := 7) hx hb hts (iT_X4_vinegarFor_X4) hown hK hP 0 rfl rfl 0 (by decide) (hts (.fieldLink RX4 10 "WordSupper" "table" "LWordSupper$Table;") (by decide +kernel)) (fun _ h9 => h9) rfl dX4_vinegarFor_1 ?_
  refine lv_iload_n hx hb dX4_vinegarFor_4 rfl (lv_at hl 1 rfl) ?_
  refine x_callV (As := [.int (iI sp)]) (rest := []) ⟨hx, hb, hml, hown, hts⟩ (kX2_isSeat q T (jc 0) sp (by omega) (by omega)) (cwV 1 hts gX4_vinegarFor_X2_isSeat rfl rfl rfl ykVX2_isSeat ⟨Nat.le_of_ble_eq_true rfl, Nat.le_of_ble_eq_true rfl⟩) hP hK hD hS 1 1 rfl rfl rfl [1, 2, 3, 4, 5, 6, 7, 8] rfl (by decide) (fun _ => rfl) (fun _ => wObj x f q kq vq h g ik ++ (wTab cI q T (jc 0) ++ (wTab cI kq K (jc 1) ++ (wTab cI vq V (jc 2) ++ (wSh cI h SB SS SN ++ (wTp cB g tn TB jc ++ (wA cI f 7 F))))))) (fun _ => rfl) rfl hl.1 rfl (Nat.le_of_ble_eq_true rfl) dX4_vinegarFor_5 ⟨Nat.le_of_ble_eq_true rfl, Nat.le_of_ble_eq_true rfl⟩ (fun _ H locs _ hP hD hS => ?_)
  refine W.eq (g2 := F0 m 8 ls [.int (iI (b2 (decide (0 ≤ sp ∧ sp < T 0))))]) rfl ?_
  refine x_ifb_eq (tgt := 21) hx hb dX4_vinegarFor_8 (by decide) (fun c_8 => ?_) (fun c_8 => ?_)
  · refine lv_aload_n hx hb dX4_vinegarFor_21 rfl (lv_at hl 0 rfl) ?_
    refine x_ldc hx hb (-1000001) rfl hown (hts (.constant RX4 44 (-1000001)) (by decide +kernel)) dX4_vinegarFor_22 ?_
    refine x_callV (As := [.int (iI (-1000001))]) (rest := []) ⟨hx, hb, hml, hown, hts⟩ (kX4_finding x f q kq vq h g ik F (-1000001) 0 (by omega) (by omega)) (cwV 1 hts gX4_vinegarFor_X4_finding rfl rfl rfl ykVX4_finding ⟨Nat.le_of_ble_eq_true rfl, Nat.le_of_ble_eq_true rfl⟩) hP hK hD hS 0 3 rfl rfl rfl [0, 31] rfl (by decide) (fun _ => rfl) (fun _ => wObj x f q kq vq h g ik ++ (wTab cI q T (jc 0) ++ (wTab cI kq K (jc 1) ++ (wTab cI vq V (jc 2) ++ (wSh cI h SB SS SN ++ (wTp cB g tn TB jc ++ (wA cI f 7 (bmp 0 F)))))))) (fun _ => rfl) rfl hl.1 rfl (Nat.le_of_ble_eq_true rfl) dX4_vinegarFor_24 ⟨Nat.le_of_ble_eq_true rfl, Nat.le_of_ble_eq_true rfl⟩ (fun _ H locs _ hP hD hS => ?_)
    refine W.eq (g2 := F0 m 27 ls [.int (iI (-1000001))]) rfl ?_
    exact kend (((-1000001), T, K, ik, SB, SS, SN, tn, TB, (bmp 0 F)), V, jc) hP hS rfl (if_neg (by omega)).symm dX4_vinegarFor_27
  · refine lv_iload_n hx hb dX4_vinegarFor_11 rfl (lv_at hl 2 rfl) ?_
    refine x_iconst hx hb dX4_vinegarFor_12 ?_
    refine x_bipush hx hb dX4_vinegarFor_13 (by decide) ?_
    refine x_callS (As := [.int (iI n), .int (iI 0), .int (iI 40)]) (rest := []) ⟨hx, hb, hml, hown, hts⟩ (kX4_isWithin n 0 40 (by omega) (by decide) (by decide)) (va_cwS 3 hts gX4_vinegarFor_X4_isWithin rfl rfl rfl ykSX4_isWithin ⟨Nat.le_of_ble_eq_true rfl, Nat.le_of_ble_eq_true rfl⟩) hP hK hD hS [] rfl (by decide) (fun _ => rfl) (fun _ => wObj x f q kq vq h g ik ++ (wTab cI q T (jc 0) ++ (wTab cI kq K (jc 1) ++ (wTab cI vq V (jc 2) ++ (wSh cI h SB SS SN ++ (wTp cB g tn TB jc ++ (wA cI f 7 F))))))) (fun _ => rfl) rfl hl.1 rfl (Nat.le_of_ble_eq_true rfl) dX4_vinegarFor_15 ⟨Nat.le_of_ble_eq_true rfl, Nat.le_of_ble_eq_true rfl⟩ (fun _ H locs _ hP hD hS => ?_)
    refine W.eq (g2 := F0 m 18 ls [.int (iI (b2 (decide (0 ≤ n ∧ n ≤ 40))))]) rfl ?_
    refine x_ifb_ne (tgt := 28) hx hb dX4_vinegarFor_18 (by decide) (fun c_18 => ?_) (fun c_18 => ?_)
    · obtain ⟨p0, rfl⟩ : ∃ p0 : Nat, sp = (p0 : Int) := ⟨sp.toNat, by omega⟩
      obtain ⟨n0, rfl⟩ : ∃ n0 : Nat, n = (n0 : Int) := ⟨n.toNat, by omega⟩
      refine x_bipush hx hb dX4_vinegarFor_28 (by decide) ?_
      refine lv_istore_n (lv' := [(3, .int (iI 9)), (0, .ref x), (1, .int (iI ((p0 : Nat) : Int))), (2, .int (iI ((n0 : Nat) : Int)))]) hx hb dX4_vinegarFor_30 rfl hl (by decide) rfl (fun ls hl => ?_)
      have L31 : ∀ (k t : Nat) (Vt : Tb) (bt : Int) (H : Heap) (locs : List Loc) (ls : Array Slot), t + k = 10 → (viF n0 p0 T k = viF n0 p0 T 10) → va_P D vwCl (wObj x f q kq vq h g ik ++ (wTab cI q T (jc 0) ++ (wTab cI kq K (jc 1) ++ (wTab cI vq Vt bt ++ (wSh cI h SB SS SN ++ (wTp cB g tn TB jc ++ (wA cI f 7 F))))))) H → va_D A (wObj x f q kq vq h g ik ++ (wTab cI q T (jc 0) ++ (wTab cI kq K (jc 1) ++ (wTab cI vq Vt bt ++ (wSh cI h SB SS SN ++ (wTp cB g tn TB jc ++ (wA cI f 7 F))))))) → va_S A s.heap H locs → lv_has ls 4 [(0, .ref x), (1, .int (iI ((p0 : Nat) : Int))), (2, .int (iI ((n0 : Nat) : Int))), (3, .int (iI (((k : Nat) : Int) - 1)))] → W pg l e { frames := 6, cells := 0, slots := 0, locals := 137 } s m args below meth c H locs 0 0 Q (F0 m 31 ls []) := by
        intro k
        induction k with
        | zero =>
          intro t Vt bt H locs ls hkt hr hP hD hS hl
          refine lv_iload_n hx hb dX4_vinegarFor_31 rfl (lv_at hl 3 rfl) ?_
          refine x_if_lt (tgt := 82) hx hb (by omega) dX4_vinegarFor_32 (by decide) (fun c_32 => ?_) (fun c_32 => ?_)
          · refine lv_aload_n hx hb dX4_vinegarFor_82 rfl (lv_at hl 0 rfl) ?_
            refine x_ldc hx hb (-1000004) rfl hown (hts (.constant RX4 151 (-1000004)) (by decide +kernel)) dX4_vinegarFor_83 ?_
            refine x_callV (As := [.int (iI (-1000004))]) (rest := []) ⟨hx, hb, hml, hown, hts⟩ (kX4_finding x f q kq vq h g ik F (-1000004) 3 (by omega) (by omega)) (cwV 1 hts gX4_vinegarFor_X4_finding rfl rfl rfl ykVX4_finding ⟨Nat.le_of_ble_eq_true rfl, Nat.le_of_ble_eq_true rfl⟩) hP hK hD hS 0 3 rfl rfl rfl [0, 31] rfl (by decide) (fun _ => rfl) (fun _ => wObj x f q kq vq h g ik ++ (wTab cI q T (jc 0) ++ (wTab cI kq K (jc 1) ++ (wTab cI vq Vt bt ++ (wSh cI h SB SS SN ++ (wTp cB g tn TB jc ++ (wA cI f 7 (bmp 3 F)))))))) (fun _ => rfl) rfl hl.1 rfl (Nat.le_of_ble_eq_true rfl) dX4_vinegarFor_85 ⟨Nat.le_of_ble_eq_true rfl, Nat.le_of_ble_eq_true rfl⟩ (fun _ H locs _ hP hD hS => ?_)
            refine W.eq (g2 := F0 m 88 ls [.int (iI (-1000004))]) rfl ?_
            exact kend (((-1000004), T, K, ik, SB, SS, SN, tn, TB, (bmp 3 F)), Vt, va_up jc 2 bt) hP hS rfl (vf_no (by omega) hr.symm) dX4_vinegarFor_88
          · exfalso; omega
        | succ k ih =>
          intro t Vt bt H locs ls hkt hr hP hD hS hl
          refine lv_iload_n hx hb dX4_vinegarFor_31 rfl (lv_at hl 3 rfl) ?_
          refine x_if_lt (tgt := 82) hx hb (by omega) dX4_vinegarFor_32 (by decide) (fun c_32 => ?_) (fun c_32 => ?_)
          · exfalso; omega
          · refine lv_aload_n hx hb dX4_vinegarFor_35 rfl (lv_at hl 0 rfl) ?_
            refine va_get (D := D) (ci := 3) (v := .ref (vq 0)) (C := RX4) (T := TX4) (N := 7) hx hb hts (iT_X4_vinegarFor_X4) hown hK hP 0 rfl rfl 2 (by decide) (hts (.fieldLink RX4 19 "WordSupper" "spare" "LWordSupper$Table;") (by decide +kernel)) (fun _ h9 => h9) rfl dX4_vinegarFor_36 ?_
            refine lv_aload_n hx hb dX4_vinegarFor_39 rfl (lv_at hl 0 rfl) ?_
            refine va_get (D := D) (ci := 3) (v := .ref (q 0)) (C := RX4) (T := TX4) (N := 7) hx hb hts (iT_X4_vinegarFor_X4) hown hK hP 0 rfl rfl 0 (by decide) (hts (.fieldLink RX4 10 "WordSupper" "table" "LWordSupper$Table;") (by decide +kernel)) (fun _ h9 => h9) rfl dX4_vinegarFor_40 ?_
            refine x_callV (As := [.ref (q 0)]) (rest := []) ⟨hx, hb, hml, hown, hts⟩ (kX2_become vq Vt bt q T (jc 0) ) (cwV 1 hts gX4_vinegarFor_X2_become rfl rfl rfl ykVX2_become ⟨Nat.le_of_ble_eq_true rfl, Nat.le_of_ble_eq_true rfl⟩) hP hK hD hS 17 1 rfl rfl rfl [17, 18, 19, 20, 21, 22, 23, 24, 1, 2, 3, 4, 5, 6, 7, 8] rfl (by decide) (fun _ => rfl) (fun _ => wObj x f q kq vq h g ik ++ (wTab cI q T (jc 0) ++ (wTab cI kq K (jc 1) ++ (wTab cI vq T bt ++ (wSh cI h SB SS SN ++ (wTp cB g tn TB jc ++ (wA cI f 7 F))))))) (fun _ => rfl) rfl hl.1 rfl (Nat.le_of_ble_eq_true rfl) dX4_vinegarFor_43 ⟨Nat.le_of_ble_eq_true rfl, Nat.le_of_ble_eq_true rfl⟩ (fun _ H locs _ hP hD hS => ?_)
            refine W.eq (g2 := F0 m 46 ls []) rfl ?_
            refine lv_aload_n hx hb dX4_vinegarFor_46 rfl (lv_at hl 0 rfl) ?_
            refine va_get (D := D) (ci := 3) (v := .ref (vq 0)) (C := RX4) (T := TX4) (N := 7) hx hb hts (iT_X4_vinegarFor_X4) hown hK hP 0 rfl rfl 2 (by decide) (hts (.fieldLink RX4 19 "WordSupper" "spare" "LWordSupper$Table;") (by decide +kernel)) (fun _ h9 => h9) rfl dX4_vinegarFor_47 ?_
            refine lv_iload_n hx hb dX4_vinegarFor_50 rfl (lv_at hl 3 rfl) ?_
            refine x_topi ((k : Nat) : Int) (by omega) ?_
            refine x_putI (D := D) (ty := .int) (C := RX2) (T := TX2) (N := 12) hx hb 1 hts (iT_X4_vinegarFor_X2) tyX2 tyX2_ok nmX2 hown hK hP hD hS 17 rfl rfl 1 (by decide) (hts (.fieldLink RX4 49 "WordSupper$Table" "vinegar" "I") (by decide +kernel)) (fun _ h9 => h9) rfl (by decide +kernel) rfl rfl (Nat.le_of_ble_eq_true rfl) (wObj x f q kq vq h g ik ++ (wTab cI q T (jc 0) ++ (wTab cI kq K (jc 1) ++ (wTab cI vq (va_up T 3 ((k : Nat) : Int)) bt ++ (wSh cI h SB SS SN ++ (wTp cB g tn TB jc ++ (wA cI f 7 F))))))) (by rw [← wT_vin cI vq T bt ((k : Nat) : Int)]; rfl) dX4_vinegarFor_51 (fun H locs hP hD hS => ?_)
            have iS : Inv B (va_up T 3 ((k : Nat) : Int)) := Inv_up hI (by omega) (show 0 ≤ ((k : Nat) : Int) ∧ ((k : Nat) : Int) ≤ 9 by omega)
            have nS : va_up T 3 ((k : Nat) : Int) 0 = T 0 := up_n _ _ (by omega)
            refine lv_aload_n hx hb dX4_vinegarFor_54 rfl (lv_at hl 0 rfl) ?_
            refine va_get (D := D) (ci := 3) (v := .ref (vq 0)) (C := RX4) (T := TX4) (N := 7) hx hb hts (iT_X4_vinegarFor_X4) hown hK hP 0 rfl rfl 2 (by decide) (hts (.fieldLink RX4 19 "WordSupper" "spare" "LWordSupper$Table;") (by decide +kernel)) (fun _ h9 => h9) rfl dX4_vinegarFor_55 ?_
            refine lv_iload_n hx hb dX4_vinegarFor_58 rfl (lv_at hl 2 rfl) ?_
            refine x_iconst hx hb dX4_vinegarFor_59 ?_
            refine x_callV (As := [.int (iI ((n0 : Nat) : Int)), .int (iI 0)]) (rest := []) ⟨hx, hb, hml, hown, hts⟩ (kX2_passDays vq (va_up T 3 ((k : Nat) : Int)) bt n0 0 B iS (by omega) (by omega) (by decide)) (cwV 2 hts gX4_vinegarFor_X2_passDays rfl rfl rfl ykVX2_passDays ⟨Nat.le_of_ble_eq_true rfl, Nat.le_of_ble_eq_true rfl⟩) hP hK hD hS 17 1 rfl rfl rfl [17, 18, 19, 20, 21, 22, 23, 24] rfl (by decide) (fun _ => rfl) (fun u => wObj x f q kq vq h g ik ++ (wTab cI q T (jc 0) ++ (wTab cI kq K (jc 1) ++ (wTab cI vq u.1 u.2 ++ (wSh cI h SB SS SN ++ (wTp cB g tn TB jc ++ (wA cI f 7 F))))))) (fun _ => rfl) rfl hl.1 rfl (Nat.le_of_ble_eq_true rfl) dX4_vinegarFor_60 ⟨Nat.le_of_ble_eq_true rfl, Nat.le_of_ble_eq_true rfl⟩ (fun u3 H locs hp4 hP hD hS => ?_)
            obtain ⟨T11, b12⟩ := u3
            replace hp4 : T11 = dsF 0 n0 (va_up T 3 ((k : Nat) : Int)) := hp4
            have hP : va_P D vwCl (wObj x f q kq vq h g ik ++ (wTab cI q T (jc 0) ++ (wTab cI kq K (jc 1) ++ (wTab cI vq T11 b12 ++ (wSh cI h SB SS SN ++ (wTp cB g tn TB jc ++ (wA cI f 7 F))))))) H := hP
            have hD : va_D A (wObj x f q kq vq h g ik ++ (wTab cI q T (jc 0) ++ (wTab cI kq K (jc 1) ++ (wTab cI vq T11 b12 ++ (wSh cI h SB SS SN ++ (wTp cB g tn TB jc ++ (wA cI f 7 F))))))) := hD
            refine W.eq (g2 := F0 m 63 ls []) rfl ?_
            have iV : Inv (B + (n0 : Int)) T11 := by rw [hp4]; exact (dsF_I n0 iS).1
            have nV : T11 0 = T 0 := by rw [hp4, (dsF_I n0 iS).2.1]; exact nS
            have aV := al_b iV
            refine lv_aload_n hx hb dX4_vinegarFor_63 rfl (lv_at hl 0 rfl) ?_
            refine va_get (D := D) (ci := 3) (v := .ref (vq 0)) (C := RX4) (T := TX4) (N := 7) hx hb hts (iT_X4_vinegarFor_X4) hown hK hP 0 rfl rfl 2 (by decide) (hts (.fieldLink RX4 19 "WordSupper" "spare" "LWordSupper$Table;") (by decide +kernel)) (fun _ h9 => h9) rfl dX4_vinegarFor_64 ?_
            refine lv_iload_n hx hb dX4_vinegarFor_67 rfl (lv_at hl 1 rfl) ?_
            refine x_callV (As := [.int (iI ((p0 : Nat) : Int))]) (rest := []) ⟨hx, hb, hml, hown, hts⟩ (kX2_left vq T11 b12 p0 (by omega)) (cwV 1 hts gX4_vinegarFor_X2_left rfl rfl rfl ykVX2_left ⟨Nat.le_of_ble_eq_true rfl, Nat.le_of_ble_eq_true rfl⟩) hP hK hD hS 17 1 rfl rfl rfl [17, 18, 19, 20, 21, 22, 23, 24] rfl (by decide) (fun _ => rfl) (fun _ => wObj x f q kq vq h g ik ++ (wTab cI q T (jc 0) ++ (wTab cI kq K (jc 1) ++ (wTab cI vq T11 b12 ++ (wSh cI h SB SS SN ++ (wTp cB g tn TB jc ++ (wA cI f 7 F))))))) (fun _ => rfl) rfl hl.1 rfl (Nat.le_of_ble_eq_true rfl) dX4_vinegarFor_68 ⟨Nat.le_of_ble_eq_true rfl, Nat.le_of_ble_eq_true rfl⟩ (fun _ H locs _ hP hD hS => ?_)
            refine W.eq (g2 := F0 m 71 ls [.int (iI (lfF T11 p0))]) rfl ?_
            have lV := Inv_lf (p := p0) iV (by omega)
            refine x_if_ne (tgt := 76) hx hb (by omega) dX4_vinegarFor_71 (by decide) (fun c_71 => ?_) (fun c_71 => ?_)
            · refine x_iinc hx hb 3 (((k : Nat) : Int) - 1) (by omega) [(3, .int (iI (((k : Nat) : Int) - 1))), (0, .ref x), (1, .int (iI ((p0 : Nat) : Int))), (2, .int (iI ((n0 : Nat) : Int)))] dX4_vinegarFor_76 hl rfl (by decide) rfl (fun ls hl => ?_)
              refine lv_goto (tgt := 31) hx hb dX4_vinegarFor_79 (by decide) ?_
              exact ih (t + 1) T11 b12 _ _ _ (by omega) (by rw [← hr, viF, if_neg (by rw [← hp4]; omega)]) hP hD hS (lv_sub hl [1, 2, 3, 0] rfl)
            · refine lv_iload_n hx hb dX4_vinegarFor_74 rfl (lv_at hl 3 rfl) ?_
              refine x_topi ((k : Nat) : Int) (by omega) ?_
              exact kend ((((k : Nat) : Int), T, K, ik, SB, SS, SN, tn, TB, F), T11, va_up jc 2 b12) hP hS rfl (vf_ok (by omega) (by omega) (by rw [← hr, viF, if_pos (by rw [← hp4]; omega)])) dX4_vinegarFor_75
      exact L31 10 0 V (jc 2) _ _ _ (by omega) rfl hP hD hS (lv_sub hl [1, 2, 3, 0] rfl)
    · refine lv_aload_n hx hb dX4_vinegarFor_21 rfl (lv_at hl 0 rfl) ?_
      refine x_ldc hx hb (-1000001) rfl hown (hts (.constant RX4 44 (-1000001)) (by decide +kernel)) dX4_vinegarFor_22 ?_
      refine x_callV (As := [.int (iI (-1000001))]) (rest := []) ⟨hx, hb, hml, hown, hts⟩ (kX4_finding x f q kq vq h g ik F (-1000001) 0 (by omega) (by omega)) (cwV 1 hts gX4_vinegarFor_X4_finding rfl rfl rfl ykVX4_finding ⟨Nat.le_of_ble_eq_true rfl, Nat.le_of_ble_eq_true rfl⟩) hP hK hD hS 0 3 rfl rfl rfl [0, 31] rfl (by decide) (fun _ => rfl) (fun _ => wObj x f q kq vq h g ik ++ (wTab cI q T (jc 0) ++ (wTab cI kq K (jc 1) ++ (wTab cI vq V (jc 2) ++ (wSh cI h SB SS SN ++ (wTp cB g tn TB jc ++ (wA cI f 7 (bmp 0 F)))))))) (fun _ => rfl) rfl hl.1 rfl (Nat.le_of_ble_eq_true rfl) dX4_vinegarFor_24 ⟨Nat.le_of_ble_eq_true rfl, Nat.le_of_ble_eq_true rfl⟩ (fun _ H locs _ hP hD hS => ?_)
      refine W.eq (g2 := F0 m 27 ls [.int (iI (-1000001))]) rfl ?_
      exact kend (((-1000001), T, K, ik, SB, SS, SN, tn, TB, (bmp 0 F)), V, jc) hP hS rfl (if_neg (by omega)).symm dX4_vinegarFor_27
