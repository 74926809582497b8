theorem ykSX5_love : yX5_love.cls ≠ "java/lang/invoke/MethodHandle" ∧ yX5_love.cls ≠ "java/lang/invoke/VarHandle" ∧ (parseMethodDescriptor yX5_love.desc).map (fun d => d.parameters.length) = some 2 := by decide +kernel
theorem ykVX5_love : yX5_love.cls = RX5 ∧ yX5_love.cls ≠ "java/lang/invoke/MethodHandle" ∧ yX5_love.cls ≠ "java/lang/invoke/VarHandle" ∧ (parseMethodDescriptor yX5_love.desc).map (fun d => d.parameters.length) = some 2 := ⟨rfl, ykSX5_love⟩
set_option maxRecDepth 20000 in
theorem iT_X5_love_X5 : ∀ w ∈ u_ws RX5 TX5 18, w ∈ wsX5_love := by decide +kernel
set_option maxHeartbeats 4000000 in
set_option maxRecDepth 100000 in
theorem kX5_love {l : Launch} {D : va_G} {cI cB : ClassId} (r : Nat → Nat) (T K : Tb) (ik : Int) (SB SS SN : Nat → Int) (tn : Int) (TB F : Nat → Int) (X Y : Tb) (j : Nat → Int) (sp n : Int) (B : Int) (hG : GI B T K ik SB SS SN tn TB F) (hB : B ≤ 40000) (h_sp : rI sp) (h_n : rI n) : Ct l yX5_love wsX5_love 7 155 D [(cI, .int), (cB, .byte)] [.ref (r 0), .int (iI sp), .int (iI n)] (wM cI r (T, K, ik, SB, SS, SN, tn, TB, F) X Y j) (S := (Int × Gs) × Tb × Tb × (Nat → Int)) (fun u => some (.int (iI u.1.1))) (fun u => u.1 = m_love sp n T K ik SB SS SN tn TB F) (fun u => wM cI r u.1.2 u.2.1 u.2.2.1 u.2.2.2) := by
  refine CtI.of (cc := cX5_love) (maxL := 10) (by decide +kernel) rfl (Nat.le_of_ble_eq_true rfl) ?_
  intro pg e s m args below meth c Q A hx hb hml hts hown hP hK hD hS ls hl kend
  have hown : s.vm.findClass RX5 = some m.cls := hown
  have hl : lv_has ls 10 [(0, .ref (r 0)), (1, .int (iI sp)), (2, .int (iI n))] := hl
  obtain ⟨hI, hIK, hik, hSB, hSS, hSN, htn, hTB, hF⟩ := id hG
  have hn := Inv_n hI
  have hdy := Inv_d hI
  have hP : va_P D vwCl (wRo r ik tn j ++ (wA cI (r 1) 100 T ++ (wA cI (r 2) 100 K ++ (wA cI (r 3) 100 X ++ (wA cI (r 4) 100 Y ++ (wA cI (r 5) 8 (fR F) ++ (wA cI (r 6) 120 TB ++ (wA cI (r 7) 4 (bR SB) ++ (wA cI (r 8) 4 SS ++ (wA cI (r 9) 160 SN)))))))))) s.heap := hP
  have hD : va_D A (wRo r ik tn j ++ (wA cI (r 1) 100 T ++ (wA cI (r 2) 100 K ++ (wA cI (r 3) 100 X ++ (wA cI (r 4) 100 Y ++ (wA cI (r 5) 8 (fR F) ++ (wA cI (r 6) 120 TB ++ (wA cI (r 7) 4 (bR SB) ++ (wA cI (r 8) 4 SS ++ (wA cI (r 9) 160 SN)))))))))) := hD
  refine lv_aload_n hx hb dX5_love_0 rfl (lv_at hl 0 rfl) ?_
  refine lv_iload_n hx hb dX5_love_1 rfl (lv_at hl 1 rfl) ?_
  refine lv_iload_n hx hb dX5_love_2 rfl (lv_at hl 2 rfl) ?_
  refine x_callV (As := [.int (iI sp), .int (iI n)]) (rest := []) ⟨hx, hb, hml, hown, hts⟩ (kX5_isAsked r ik tn j T sp n (by omega) (by omega) (by omega)) (cwV 2 hts gX5_love_X5_isAsked rfl rfl rfl ykVX5_isAsked ⟨Nat.le_of_ble_eq_true rfl, Nat.le_of_ble_eq_true rfl⟩) hP hK hD hS 0 4 rfl rfl rfl [0, 1] rfl (by decide) (fun _ => rfl) (fun _ => wRo r ik tn j ++ (wA cI (r 1) 100 T ++ (wA cI (r 2) 100 K ++ (wA cI (r 3) 100 X ++ (wA cI (r 4) 100 Y ++ (wA cI (r 5) 8 (fR F) ++ (wA cI (r 6) 120 TB ++ (wA cI (r 7) 4 (bR SB) ++ (wA cI (r 8) 4 SS ++ (wA cI (r 9) 160 SN)))))))))) (fun _ => rfl) rfl hl.1 rfl (Nat.le_of_ble_eq_true rfl) dX5_love_3 ⟨Nat.le_of_ble_eq_true rfl, Nat.le_of_ble_eq_true rfl⟩ (fun _ H locs _ hP hD hS => ?_)
  refine W.eq (g2 := F0 m 6 ls [.int (iI (b2 (decide ((0 ≤ sp ∧ sp < T 0) ∧ (0 ≤ n ∧ n ≤ 40)))))]) rfl ?_
  refine x_ifb_ne (tgt := 16) hx hb dX5_love_6 (by decide) (fun c_6 => ?_) (fun c_6 => ?_)
  · obtain ⟨p0, rfl⟩ : ∃ p0 : Nat, sp = (p0 : Int) := ⟨sp.toNat, by omega⟩
    obtain ⟨n0, rfl⟩ : ∃ n0 : Nat, n = (n0 : Int) := ⟨n.toNat, by omega⟩
    refine lv_aload_n hx hb dX5_love_16 rfl (lv_at hl 0 rfl) ?_
    refine lv_iload_n hx hb dX5_love_17 rfl (lv_at hl 1 rfl) ?_
    refine x_iconst hx hb dX5_love_18 ?_
    refine x_callV (As := [.int (iI ((p0 : Nat) : Int)), .int (iI 1)]) (rest := []) ⟨hx, hb, hml, hown, hts⟩ (kX5_its r ik tn j T p0 1 (by omega) (by omega)) (cwV 2 hts gX5_love_X5_its rfl rfl rfl ykVX5_its ⟨Nat.le_of_ble_eq_true rfl, Nat.le_of_ble_eq_true rfl⟩) hP hK hD hS 0 4 rfl rfl rfl [0, 1] rfl (by decide) (fun _ => rfl) (fun _ => wRo r ik tn j ++ (wA cI (r 1) 100 T ++ (wA cI (r 2) 100 K ++ (wA cI (r 3) 100 X ++ (wA cI (r 4) 100 Y ++ (wA cI (r 5) 8 (fR F) ++ (wA cI (r 6) 120 TB ++ (wA cI (r 7) 4 (bR SB) ++ (wA cI (r 8) 4 SS ++ (wA cI (r 9) 160 SN)))))))))) (fun _ => rfl) rfl hl.1 rfl (Nat.le_of_ble_eq_true rfl) dX5_love_19 ⟨Nat.le_of_ble_eq_true rfl, Nat.le_of_ble_eq_true rfl⟩ (fun _ H locs _ hP hD hS => ?_)
    refine W.eq (g2 := F0 m 22 ls [.int (iI (T (cx p0 1)))]) rfl ?_
    refine lv_istore_n (lv' := [(3, .int (iI (T (cx p0 1)))), (0, .ref (r 0)), (1, .int (iI ((p0 : Nat) : Int))), (2, .int (iI ((n0 : Nat) : Int)))]) hx hb dX5_love_22 rfl hl (by decide) rfl (fun ls hl => ?_)
    refine x_bipush hx hb dX5_love_23 (by decide) ?_
    refine lv_istore (lv' := [(4, .int (iI (-2))), (3, .int (iI (T (cx p0 1)))), (0, .ref (r 0)), (1, .int (iI ((p0 : Nat) : Int))), (2, .int (iI ((n0 : Nat) : Int)))]) hx hb dX5_love_25 hl (by decide) rfl (fun ls hl => ?_)
    refine x_iconst hx hb dX5_love_27 ?_
    refine lv_istore (lv' := [(5, .int (iI 0)), (4, .int (iI (-2))), (3, .int (iI (T (cx p0 1)))), (0, .ref (r 0)), (1, .int (iI ((p0 : Nat) : Int))), (2, .int (iI ((n0 : Nat) : Int)))]) hx hb dX5_love_28 hl (by decide) rfl (fun ls hl => ?_)
    refine x_iconst hx hb dX5_love_30 ?_
    refine lv_istore (lv' := [(6, .int (iI 0)), (5, .int (iI 0)), (4, .int (iI (-2))), (3, .int (iI (T (cx p0 1)))), (0, .ref (r 0)), (1, .int (iI ((p0 : Nat) : Int))), (2, .int (iI ((n0 : Nat) : Int)))]) hx hb dX5_love_31 hl (by decide) rfl (fun ls hl => ?_)
    have hlvp := Inv_lv (p := p0) hI (by omega)
    have L33 : ∀ (k t : Nat) (Tt : Tb) (Y1 : Tb) (jt : Nat → Int) (be : Int) (fe : Int) (bv : Int) (lv : Int) (H : Heap) (locs : List Loc) (ls : Array Slot), t + k = (T 0).toNat + 1 → (∀ v : Int, va_up Tt (cx p0 1) v = va_up T (cx p0 1) v) → (Tt 0 = T 0) → (run (beS (fun (i : Nat) => alF (dsF 0 n0 (va_up T (cx p0 1) (lvW T i)))) (fun (i : Nat) => decide (lvW T i ≠ ((p0 : Nat) : Int))) (lvW T)) k t (bv, lv) = beF (fun (i : Nat) => alF (dsF 0 n0 (va_up T (cx p0 1) (lvW T i)))) (fun (i : Nat) => decide (lvW T i ≠ ((p0 : Nat) : Int))) (lvW T) ((T 0).toNat + 1) (-1, 1000000)) → ((be = -2 ∧ lv = 1000000 ∧ t ≤ (T 0).toNat) ∨ (be = bv ∧ fe = lv ∧ 0 ≤ lv ∧ lv ≤ 47952 ∧ -1 ≤ be ∧ be ≤ 8)) → va_P D vwCl (wRo r ik tn jt ++ (wA cI (r 1) 100 Tt ++ (wA cI (r 2) 100 K ++ (wA cI (r 3) 100 X ++ (wA cI (r 4) 100 Y1 ++ (wA cI (r 5) 8 (fR F) ++ (wA cI (r 6) 120 TB ++ (wA cI (r 7) 4 (bR SB) ++ (wA cI (r 8) 4 SS ++ (wA cI (r 9) 160 SN)))))))))) H → va_D A (wRo r ik tn jt ++ (wA cI (r 1) 100 Tt ++ (wA cI (r 2) 100 K ++ (wA cI (r 3) 100 X ++ (wA cI (r 4) 100 Y1 ++ (wA cI (r 5) 8 (fR F) ++ (wA cI (r 6) 120 TB ++ (wA cI (r 7) 4 (bR SB) ++ (wA cI (r 8) 4 SS ++ (wA cI (r 9) 160 SN)))))))))) → va_S A s.heap H locs → lv_has ls 10 [(0, .ref (r 0)), (1, .int (iI ((p0 : Nat) : Int))), (2, .int (iI ((n0 : Nat) : Int))), (3, .int (iI (T (cx p0 1)))), (4, .int (iI be)), (5, .int (iI fe)), (6, .int (iI ((t : Nat) : Int)))] → W pg l e { frames := 7, cells := 0, slots := 0, locals := 155 } s m args below meth c H locs 0 0 Q (F0 m 33 ls []) := by
      intro k
      induction k with
      | zero =>
        intro t Tt Y1 jt be fe bv lv H locs ls hkt hT h0 hr hq hP hD hS hl
        have hlvp := Inv_lv (p := p0) hI (by omega)
        refine lv_iload hx hb dX5_love_33 (lv_at hl 6 rfl) ?_
        refine lv_aload_n hx hb dX5_love_35 rfl (lv_at hl 0 rfl) ?_
        refine va_get (D := D) (ci := 4) (v := .ref (r 1)) (C := RX5) (T := TX5) (N := 18) hx hb hts (iT_X5_love_X5) hown hK hP 0 rfl rfl 0 (by decide) (hts (.fieldLink RX5 7 "WordSupperModel" "s" "[I") (by decide +kernel)) (fun _ h9 => h9) rfl dX5_love_36 ?_
        refine x_iconst hx hb dX5_love_39 ?_
        refine x_iald hx hb hK hP 1 0 rfl rfl 0 rfl (by omega) (by decide) (Tt 0) (gd_at _ (by omega)) dX5_love_40 ?_
        refine x_icmp_gt (tgt := 143) hx hb (by omega) (by omega) dX5_love_41 (by decide) (fun c_41 => ?_) (fun c_41 => ?_)
        · refine lv_aload_n hx hb dX5_love_143 rfl (lv_at hl 0 rfl) ?_
          refine va_get (D := D) (ci := 4) (v := .ref (r 1)) (C := RX5) (T := TX5) (N := 18) hx hb hts (iT_X5_love_X5) hown hK hP 0 rfl rfl 0 (by decide) (hts (.fieldLink RX5 7 "WordSupperModel" "s" "[I") (by decide +kernel)) (fun _ h9 => h9) rfl dX5_love_144 ?_
          refine lv_iload_n hx hb dX5_love_147 rfl (lv_at hl 1 rfl) ?_
          refine x_iconst hx hb dX5_love_148 ?_
          refine x_callS (As := [.int (iI ((p0 : Nat) : Int)), .int (iI 1)]) (rest := [.ref (r 1)]) ⟨hx, hb, hml, hown, hts⟩ (kX5_at p0 1 ) (va_cwS 2 hts gX5_love_X5_at rfl rfl rfl ykSX5_at ⟨Nat.le_of_ble_eq_true rfl, Nat.le_of_ble_eq_true rfl⟩) hP hK hD hS [] rfl (by decide) (fun _ => rfl) (fun _ => wRo r ik tn jt ++ (wA cI (r 1) 100 Tt ++ (wA cI (r 2) 100 K ++ (wA cI (r 3) 100 X ++ (wA cI (r 4) 100 Y1 ++ (wA cI (r 5) 8 (fR F) ++ (wA cI (r 6) 120 TB ++ (wA cI (r 7) 4 (bR SB) ++ (wA cI (r 8) 4 SS ++ (wA cI (r 9) 160 SN)))))))))) (fun _ => rfl) rfl hl.1 rfl (Nat.le_of_ble_eq_true rfl) dX5_love_149 ⟨Nat.le_of_ble_eq_true rfl, Nat.le_of_ble_eq_true rfl⟩ (fun _ H locs _ hP hD hS => ?_)
          refine W.eq (g2 := F0 m 152 ls [.int (iI ((cx p0 1 : Nat) : Int)), .ref (r 1)]) rfl ?_
          refine lv_iload_n hx hb dX5_love_152 rfl (lv_at hl 3 rfl) ?_
          refine x_iast hx hb hK hP hD hS 1 0 rfl rfl (cx p0 1) rfl (cx_lt1 (by omega) (by omega)) (by decide) (wRo r ik tn jt ++ (wA cI (r 1) 100 (va_up Tt (cx p0 1) (T (cx p0 1))) ++ (wA cI (r 2) 100 K ++ (wA cI (r 3) 100 X ++ (wA cI (r 4) 100 Y1 ++ (wA cI (r 5) 8 (fR F) ++ (wA cI (r 6) 120 TB ++ (wA cI (r 7) 4 (bR SB) ++ (wA cI (r 8) 4 SS ++ (wA cI (r 9) 160 SN)))))))))) (by rw [← wA_up cI (r 1) 100 Tt (T (cx p0 1)) (cx p0 1) (cx_lt1 (by omega) (by omega))]; rfl) dX5_love_153 (fun H locs hP hD hS => ?_)
          rw [hT, up_id] at hP hD
          refine lv_iload hx hb dX5_love_154 (lv_at hl 4 rfl) ?_
          exact kend ((be, T, K, ik, SB, SS, SN, tn, TB, F), X, Y1, jt) hP hS rfl (by unfold m_love; rw [if_pos (by omega)]; simp only [Int.toNat_natCast]; rw [← hr, show be = bv by omega] <;> rfl) dX5_love_156
        · exfalso; omega
      | succ k ih =>
        intro t Tt Y1 jt be fe bv lv H locs ls hkt hT h0 hr hq hP hD hS hl
        have hlvp := Inv_lv (p := p0) hI (by omega)
        refine lv_iload hx hb dX5_love_33 (lv_at hl 6 rfl) ?_
        refine lv_aload_n hx hb dX5_love_35 rfl (lv_at hl 0 rfl) ?_
        refine va_get (D := D) (ci := 4) (v := .ref (r 1)) (C := RX5) (T := TX5) (N := 18) hx hb hts (iT_X5_love_X5) hown hK hP 0 rfl rfl 0 (by decide) (hts (.fieldLink RX5 7 "WordSupperModel" "s" "[I") (by decide +kernel)) (fun _ h9 => h9) rfl dX5_love_36 ?_
        refine x_iconst hx hb dX5_love_39 ?_
        refine x_iald hx hb hK hP 1 0 rfl rfl 0 rfl (by omega) (by decide) (Tt 0) (gd_at _ (by omega)) dX5_love_40 ?_
        refine x_icmp_gt (tgt := 143) hx hb (by omega) (by omega) dX5_love_41 (by decide) (fun c_41 => ?_) (fun c_41 => ?_)
        · exfalso; omega
        · refine lv_iload hx hb dX5_love_44 (lv_at hl 6 rfl) ?_
          refine lv_aload_n hx hb dX5_love_46 rfl (lv_at hl 0 rfl) ?_
          refine va_get (D := D) (ci := 4) (v := .ref (r 1)) (C := RX5) (T := TX5) (N := 18) hx hb hts (iT_X5_love_X5) hown hK hP 0 rfl rfl 0 (by decide) (hts (.fieldLink RX5 7 "WordSupperModel" "s" "[I") (by decide +kernel)) (fun _ h9 => h9) rfl dX5_love_47 ?_
          refine x_iconst hx hb dX5_love_50 ?_
          refine x_iald hx hb hK hP 1 0 rfl rfl 0 rfl (by omega) (by decide) (Tt 0) (gd_at _ (by omega)) dX5_love_51 ?_
          refine x_icmp_ge (tgt := 60) hx hb (by omega) (by omega) dX5_love_52 (by decide) (fun c_52 => ?_) (fun c_52 => ?_)
          · refine x_iconst hx hb dX5_love_60 ?_
            refine lv_istore (lv' := [(7, .int (iI (-1))), (0, .ref (r 0)), (1, .int (iI ((p0 : Nat) : Int))), (2, .int (iI ((n0 : Nat) : Int))), (3, .int (iI (T (cx p0 1)))), (4, .int (iI be)), (5, .int (iI fe)), (6, .int (iI ((t : Nat) : Int)))]) hx hb dX5_love_61 hl (by decide) rfl (fun ls hl => ?_)
            have e_w : lvW T t = (-1) := by unfold lvW; rw [if_neg (by omega)]
            refine lv_iload hx hb dX5_love_63 (lv_at hl 0 rfl) ?_
            refine lv_iload_n hx hb dX5_love_65 rfl (lv_at hl 2 rfl) ?_
            refine x_icmp_eq (tgt := 137) hx hb (by decide) (by omega) dX5_love_66 (by decide) (fun c_66 => ?_) (fun c_66 => ?_)
            · refine x_iinc hx hb 7 ((t + 1 : Nat) : Int) (by omega) [(6, .int (iI ((t + 1 : Nat) : Int))), (7, .int (iI (-1))), (0, .ref (r 0)), (1, .int (iI ((p0 : Nat) : Int))), (2, .int (iI ((n0 : Nat) : Int))), (3, .int (iI (T (cx p0 1)))), (4, .int (iI be)), (5, .int (iI fe))] dX5_love_137 hl rfl (by decide) rfl (fun ls hl => ?_)
              refine lv_goto (tgt := 33) hx hb dX5_love_140 (by decide) ?_
              have hlvp := Inv_lv (p := p0) hI (by omega)
              exact ih (t + 1) Tt Y1 jt be fe bv lv _ _ _ (by omega) hT h0 (run_step hr (beS_o (decide_eq_false (by rw [e_w]; omega)))) (by omega) hP hD hS (lv_sub hl [2, 3, 4, 5, 6, 7, 0] rfl)
            · refine lv_aload_n hx hb dX5_love_69 rfl (lv_at hl 1 rfl) ?_
              refine va_get (D := D) (ci := 4) (v := .ref (r 1)) (C := RX5) (T := TX5) (N := 18) hx hb hts (iT_X5_love_X5) hown hK hP 0 rfl rfl 0 (by decide) (hts (.fieldLink RX5 7 "WordSupperModel" "s" "[I") (by decide +kernel)) (fun _ h9 => h9) rfl dX5_love_70 ?_
              refine lv_iload_n hx hb dX5_love_73 rfl (lv_at hl 2 rfl) ?_
              refine x_iconst hx hb dX5_love_74 ?_
              refine x_callS (As := [.int (iI ((p0 : Nat) : Int)), .int (iI 1)]) (rest := [.ref (r 1)]) ⟨hx, hb, hml, hown, hts⟩ (kX5_at p0 1 ) (va_cwS 2 hts gX5_love_X5_at rfl rfl rfl ykSX5_at ⟨Nat.le_of_ble_eq_true rfl, Nat.le_of_ble_eq_true rfl⟩) hP hK hD hS [] rfl (by decide) (fun _ => rfl) (fun _ => wRo r ik tn jt ++ (wA cI (r 1) 100 Tt ++ (wA cI (r 2) 100 K ++ (wA cI (r 3) 100 X ++ (wA cI (r 4) 100 Y1 ++ (wA cI (r 5) 8 (fR F) ++ (wA cI (r 6) 120 TB ++ (wA cI (r 7) 4 (bR SB) ++ (wA cI (r 8) 4 SS ++ (wA cI (r 9) 160 SN)))))))))) (fun _ => rfl) rfl hl.1 rfl (Nat.le_of_ble_eq_true rfl) dX5_love_75 ⟨Nat.le_of_ble_eq_true rfl, Nat.le_of_ble_eq_true rfl⟩ (fun _ H locs _ hP hD hS => ?_)
              refine W.eq (g2 := F0 m 78 ls [.int (iI ((cx p0 1 : Nat) : Int)), .ref (r 1)]) rfl ?_
              refine lv_iload hx hb dX5_love_78 (lv_at hl 0 rfl) ?_
              refine x_iast hx hb hK hP hD hS 1 0 rfl rfl (cx p0 1) rfl (cx_lt1 (by omega) (by omega)) (by decide) (wRo r ik tn jt ++ (wA cI (r 1) 100 (va_up Tt (cx p0 1) (-1)) ++ (wA cI (r 2) 100 K ++ (wA cI (r 3) 100 X ++ (wA cI (r 4) 100 Y1 ++ (wA cI (r 5) 8 (fR F) ++ (wA cI (r 6) 120 TB ++ (wA cI (r 7) 4 (bR SB) ++ (wA cI (r 8) 4 SS ++ (wA cI (r 9) 160 SN)))))))))) (by rw [← wA_up cI (r 1) 100 Tt (-1) (cx p0 1) (cx_lt1 (by omega) (by omega))]; rfl) dX5_love_80 (fun H locs hP hD hS => ?_)
              rw [hT] at hP hD
              have iS : Inv B (va_up T (cx p0 1) (-1)) := Inv_cx hI (by omega) (by omega) (fun _ => show -1 ≤ (-1) ∧ (-1) < T 0 by omega)
              have nS : (va_up T (cx p0 1) (-1)) 0 = T 0 := up_lo _ _ (by omega)
              refine lv_aload_n hx hb dX5_love_81 rfl (lv_at hl 1 rfl) ?_
              refine lv_iload_n hx hb dX5_love_82 rfl (lv_at hl 3 rfl) ?_
              refine x_callV (As := [.int (iI ((n0 : Nat) : Int))]) (rest := []) ⟨hx, hb, hml, hown, hts⟩ (kX5_leftThen r ik tn jt (va_up T (cx p0 1) (-1)) Y1 n0 B iS (by omega) (by omega)) (cwV 1 hts gX5_love_X5_leftThen rfl rfl rfl ykVX5_leftThen ⟨Nat.le_of_ble_eq_true rfl, Nat.le_of_ble_eq_true rfl⟩) hP hK hD hS 0 4 rfl rfl rfl [0, 1, 4] rfl (by decide) (fun _ => rfl) (fun u => wRo r ik tn u ++ (wA cI (r 1) 100 (va_up T (cx p0 1) (-1)) ++ (wA cI (r 2) 100 K ++ (wA cI (r 3) 100 X ++ (wA cI (r 4) 100 (va_up T (cx p0 1) (-1)) ++ (wA cI (r 5) 8 (fR F) ++ (wA cI (r 6) 120 TB ++ (wA cI (r 7) 4 (bR SB) ++ (wA cI (r 8) 4 SS ++ (wA cI (r 9) 160 SN)))))))))) (fun _ => rfl) rfl hl.1 rfl (Nat.le_of_ble_eq_true rfl) dX5_love_83 ⟨Nat.le_of_ble_eq_true rfl, Nat.le_of_ble_eq_true rfl⟩ (fun u2 H locs hp3 hP hD hS => ?_)
              obtain ⟨j11, rfl⟩ : ∃ z, z = u2 := ⟨_, rfl⟩
              have hP : va_P D vwCl (wRo r ik tn j11 ++ (wA cI (r 1) 100 (va_up T (cx p0 1) (-1)) ++ (wA cI (r 2) 100 K ++ (wA cI (r 3) 100 X ++ (wA cI (r 4) 100 (va_up T (cx p0 1) (-1)) ++ (wA cI (r 5) 8 (fR F) ++ (wA cI (r 6) 120 TB ++ (wA cI (r 7) 4 (bR SB) ++ (wA cI (r 8) 4 SS ++ (wA cI (r 9) 160 SN)))))))))) H := hP
              have hD : va_D A (wRo r ik tn j11 ++ (wA cI (r 1) 100 (va_up T (cx p0 1) (-1)) ++ (wA cI (r 2) 100 K ++ (wA cI (r 3) 100 X ++ (wA cI (r 4) 100 (va_up T (cx p0 1) (-1)) ++ (wA cI (r 5) 8 (fR F) ++ (wA cI (r 6) 120 TB ++ (wA cI (r 7) 4 (bR SB) ++ (wA cI (r 8) 4 SS ++ (wA cI (r 9) 160 SN)))))))))) := hD
              refine W.eq (g2 := F0 m 86 ls [.int (iI (alF (dsF 0 n0 (va_up T (cx p0 1) (-1)))))]) rfl ?_
              have aV := al_b (dsF_I (m := 0) n0 iS).1
              refine lv_istore (lv' := [(8, .int (iI (alF (dsF 0 n0 (va_up T (cx p0 1) (-1)))))), (7, .int (iI (-1))), (0, .ref (r 0)), (1, .int (iI ((p0 : Nat) : Int))), (2, .int (iI ((n0 : Nat) : Int))), (3, .int (iI (T (cx p0 1)))), (4, .int (iI be)), (5, .int (iI fe)), (6, .int (iI ((t : Nat) : Int)))]) hx hb dX5_love_86 hl (by decide) rfl (fun ls hl => ?_)
              refine lv_iload hx hb dX5_love_88 (lv_at hl 6 rfl) ?_
              refine x_bipush hx hb dX5_love_90 (by decide) ?_
              refine x_icmp_eq (tgt := 102) hx hb (by omega) (by decide) dX5_love_92 (by decide) (fun c_92 => ?_) (fun c_92 => ?_)
              · refine x_iconst hx hb dX5_love_102 ?_
                refine lv_goto (tgt := 107) hx hb dX5_love_103 (by decide) ?_
                refine lv_istore (lv' := [(9, .int (iI 1)), (8, .int (iI (alF (dsF 0 n0 (va_up T (cx p0 1) (-1)))))), (7, .int (iI (-1))), (0, .ref (r 0)), (1, .int (iI ((p0 : Nat) : Int))), (2, .int (iI ((n0 : Nat) : Int))), (3, .int (iI (T (cx p0 1)))), (4, .int (iI be)), (5, .int (iI fe)), (6, .int (iI ((t : Nat) : Int)))]) hx hb dX5_love_107 hl (by decide) rfl (fun ls hl => ?_)
                refine lv_iload hx hb dX5_love_109 (lv_at hl 0 rfl) ?_
                refine x_if_eq (tgt := 119) hx hb (by decide) dX5_love_111 (by decide) (fun c_111 => ?_) (fun c_111 => ?_)
                · exact absurd c_111 (by decide)
                · refine lv_iload hx hb dX5_love_114 (lv_at hl 2 rfl) ?_
                  refine lv_goto (tgt := 121) hx hb dX5_love_116 (by decide) ?_
                  refine lv_istore (lv' := [(4, .int (iI (-1))), (9, .int (iI 1)), (8, .int (iI (alF (dsF 0 n0 (va_up T (cx p0 1) (-1)))))), (7, .int (iI (-1))), (0, .ref (r 0)), (1, .int (iI ((p0 : Nat) : Int))), (2, .int (iI ((n0 : Nat) : Int))), (3, .int (iI (T (cx p0 1)))), (5, .int (iI fe)), (6, .int (iI ((t : Nat) : Int)))]) hx hb dX5_love_121 hl (by decide) rfl (fun ls hl => ?_)
                  refine lv_iload hx hb dX5_love_123 (lv_at hl 1 rfl) ?_
                  refine x_if_eq (tgt := 133) hx hb (by decide) dX5_love_125 (by decide) (fun c_125 => ?_) (fun c_125 => ?_)
                  · exact absurd c_125 (by decide)
                  · refine lv_iload hx hb dX5_love_128 (lv_at hl 2 rfl) ?_
                    refine lv_goto (tgt := 135) hx hb dX5_love_130 (by decide) ?_
                    refine lv_istore (lv' := [(5, .int (iI (alF (dsF 0 n0 (va_up T (cx p0 1) (-1)))))), (4, .int (iI (-1))), (9, .int (iI 1)), (8, .int (iI (alF (dsF 0 n0 (va_up T (cx p0 1) (-1)))))), (7, .int (iI (-1))), (0, .ref (r 0)), (1, .int (iI ((p0 : Nat) : Int))), (2, .int (iI ((n0 : Nat) : Int))), (3, .int (iI (T (cx p0 1)))), (6, .int (iI ((t : Nat) : Int)))]) hx hb dX5_love_135 hl (by decide) rfl (fun ls hl => ?_)
                    refine x_iinc hx hb 9 ((t + 1 : Nat) : Int) (by omega) [(6, .int (iI ((t + 1 : Nat) : Int))), (5, .int (iI (alF (dsF 0 n0 (va_up T (cx p0 1) (-1)))))), (4, .int (iI (-1))), (9, .int (iI 1)), (8, .int (iI (alF (dsF 0 n0 (va_up T (cx p0 1) (-1)))))), (7, .int (iI (-1))), (0, .ref (r 0)), (1, .int (iI ((p0 : Nat) : Int))), (2, .int (iI ((n0 : Nat) : Int))), (3, .int (iI (T (cx p0 1))))] dX5_love_137 hl rfl (by decide) rfl (fun ls hl => ?_)
                    refine lv_goto (tgt := 33) hx hb dX5_love_140 (by decide) ?_
                    have hlvp := Inv_lv (p := p0) hI (by omega)
                    exact ih (t + 1) (va_up T (cx p0 1) (-1)) (va_up T (cx p0 1) (-1)) j11 (-1) (alF (dsF 0 n0 (va_up T (cx p0 1) (-1)))) (-1) (alF (dsF 0 n0 (va_up T (cx p0 1) (-1)))) _ _ _ (by omega) (fun v => up_up _ _ _ _) (up_lo _ _ (by omega)) (run_step hr (beS_t (a := (-1)) (b := alF (dsF 0 n0 (va_up T (cx p0 1) (-1)))) (decide_eq_true (by rw [e_w]; omega)) (by (try dsimp only); rw [e_w]) (by (try dsimp only); rw [e_w]) (by (try dsimp only); omega))) (by omega) hP hD hS (lv_sub hl [6, 7, 8, 9, 2, 1, 0] rfl)
              · refine lv_iload hx hb dX5_love_95 (lv_at hl 0 rfl) ?_
                refine lv_iload hx hb dX5_love_97 (lv_at hl 7 rfl) ?_
                refine x_icmp_ge (tgt := 106) hx hb (by omega) (by omega) dX5_love_99 (by decide) (fun c_99 => ?_) (fun c_99 => ?_)
                · refine x_iconst hx hb dX5_love_106 ?_
                  refine lv_istore (lv' := [(9, .int (iI 0)), (8, .int (iI (alF (dsF 0 n0 (va_up T (cx p0 1) (-1)))))), (7, .int (iI (-1))), (0, .ref (r 0)), (1, .int (iI ((p0 : Nat) : Int))), (2, .int (iI ((n0 : Nat) : Int))), (3, .int (iI (T (cx p0 1)))), (4, .int (iI be)), (5, .int (iI fe)), (6, .int (iI ((t : Nat) : Int)))]) hx hb dX5_love_107 hl (by decide) rfl (fun ls hl => ?_)
                  refine lv_iload hx hb dX5_love_109 (lv_at hl 0 rfl) ?_
                  refine x_if_eq (tgt := 119) hx hb (by decide) dX5_love_111 (by decide) (fun c_111 => ?_) (fun c_111 => ?_)
                  · refine lv_iload hx hb dX5_love_119 (lv_at hl 7 rfl) ?_
                    refine lv_istore (lv' := [(4, .int (iI be)), (9, .int (iI 0)), (8, .int (iI (alF (dsF 0 n0 (va_up T (cx p0 1) (-1)))))), (7, .int (iI (-1))), (0, .ref (r 0)), (1, .int (iI ((p0 : Nat) : Int))), (2, .int (iI ((n0 : Nat) : Int))), (3, .int (iI (T (cx p0 1)))), (5, .int (iI fe)), (6, .int (iI ((t : Nat) : Int)))]) hx hb dX5_love_121 hl (by decide) rfl (fun ls hl => ?_)
                    refine lv_iload hx hb dX5_love_123 (lv_at hl 1 rfl) ?_
                    refine x_if_eq (tgt := 133) hx hb (by decide) dX5_love_125 (by decide) (fun c_125 => ?_) (fun c_125 => ?_)
                    · refine lv_iload hx hb dX5_love_133 (lv_at hl 8 rfl) ?_
                      refine lv_istore (lv' := [(5, .int (iI fe)), (4, .int (iI be)), (9, .int (iI 0)), (8, .int (iI (alF (dsF 0 n0 (va_up T (cx p0 1) (-1)))))), (7, .int (iI (-1))), (0, .ref (r 0)), (1, .int (iI ((p0 : Nat) : Int))), (2, .int (iI ((n0 : Nat) : Int))), (3, .int (iI (T (cx p0 1)))), (6, .int (iI ((t : Nat) : Int)))]) hx hb dX5_love_135 hl (by decide) rfl (fun ls hl => ?_)
                      refine x_iinc hx hb 9 ((t + 1 : Nat) : Int) (by omega) [(6, .int (iI ((t + 1 : Nat) : Int))), (5, .int (iI fe)), (4, .int (iI be)), (9, .int (iI 0)), (8, .int (iI (alF (dsF 0 n0 (va_up T (cx p0 1) (-1)))))), (7, .int (iI (-1))), (0, .ref (r 0)), (1, .int (iI ((p0 : Nat) : Int))), (2, .int (iI ((n0 : Nat) : Int))), (3, .int (iI (T (cx p0 1))))] dX5_love_137 hl rfl (by decide) rfl (fun ls hl => ?_)
                      refine lv_goto (tgt := 33) hx hb dX5_love_140 (by decide) ?_
                      have hlvp := Inv_lv (p := p0) hI (by omega)
                      exact ih (t + 1) (va_up T (cx p0 1) (-1)) (va_up T (cx p0 1) (-1)) j11 be fe bv lv _ _ _ (by omega) (fun v => up_up _ _ _ _) (up_lo _ _ (by omega)) (run_step hr (beS_n (b := alF (dsF 0 n0 (va_up T (cx p0 1) (-1)))) (by (try dsimp only); rw [e_w]) (by (try dsimp only); omega))) (by omega) hP hD hS (lv_sub hl [6, 7, 8, 9, 2, 1, 0] rfl)
                    · exact absurd c_125 (by decide)
                  · exact absurd c_111 (by decide)
                · refine x_iconst hx hb dX5_love_102 ?_
                  refine lv_goto (tgt := 107) hx hb dX5_love_103 (by decide) ?_
                  refine lv_istore (lv' := [(9, .int (iI 1)), (8, .int (iI (alF (dsF 0 n0 (va_up T (cx p0 1) (-1)))))), (7, .int (iI (-1))), (0, .ref (r 0)), (1, .int (iI ((p0 : Nat) : Int))), (2, .int (iI ((n0 : Nat) : Int))), (3, .int (iI (T (cx p0 1)))), (4, .int (iI be)), (5, .int (iI fe)), (6, .int (iI ((t : Nat) : Int)))]) hx hb dX5_love_107 hl (by decide) rfl (fun ls hl => ?_)
                  refine lv_iload hx hb dX5_love_109 (lv_at hl 0 rfl) ?_
                  refine x_if_eq (tgt := 119) hx hb (by decide) dX5_love_111 (by decide) (fun c_111 => ?_) (fun c_111 => ?_)
                  · exact absurd c_111 (by decide)
                  · refine lv_iload hx hb dX5_love_114 (lv_at hl 2 rfl) ?_
                    refine lv_goto (tgt := 121) hx hb dX5_love_116 (by decide) ?_
                    refine lv_istore (lv' := [(4, .int (iI (-1))), (9, .int (iI 1)), (8, .int (iI (alF (dsF 0 n0 (va_up T (cx p0 1) (-1)))))), (7, .int (iI (-1))), (0, .ref (r 0)), (1, .int (iI ((p0 : Nat) : Int))), (2, .int (iI ((n0 : Nat) : Int))), (3, .int (iI (T (cx p0 1)))), (5, .int (iI fe)), (6, .int (iI ((t : Nat) : Int)))]) hx hb dX5_love_121 hl (by decide) rfl (fun ls hl => ?_)
                    refine lv_iload hx hb dX5_love_123 (lv_at hl 1 rfl) ?_
                    refine x_if_eq (tgt := 133) hx hb (by decide) dX5_love_125 (by decide) (fun c_125 => ?_) (fun c_125 => ?_)
                    · exact absurd c_125 (by decide)
                    · refine lv_iload hx hb dX5_love_128 (lv_at hl 2 rfl) ?_
                      refine lv_goto (tgt := 135) hx hb dX5_love_130 (by decide) ?_
                      refine lv_istore (lv' := [(5, .int (iI (alF (dsF 0 n0 (va_up T (cx p0 1) (-1)))))), (4, .int (iI (-1))), (9, .int (iI 1)), (8, .int (iI (alF (dsF 0 n0 (va_up T (cx p0 1) (-1)))))), (7, .int (iI (-1))), (0, .ref (r 0)), (1, .int (iI ((p0 : Nat) : Int))), (2, .int (iI ((n0 : Nat) : Int))), (3, .int (iI (T (cx p0 1)))), (6, .int (iI ((t : Nat) : Int)))]) hx hb dX5_love_135 hl (by decide) rfl (fun ls hl => ?_)
                      refine x_iinc hx hb 9 ((t + 1 : Nat) : Int) (by omega) [(6, .int (iI ((t + 1 : Nat) : Int))), (5, .int (iI (alF (dsF 0 n0 (va_up T (cx p0 1) (-1)))))), (4, .int (iI (-1))), (9, .int (iI 1)), (8, .int (iI (alF (dsF 0 n0 (va_up T (cx p0 1) (-1)))))), (7, .int (iI (-1))), (0, .ref (r 0)), (1, .int (iI ((p0 : Nat) : Int))), (2, .int (iI ((n0 : Nat) : Int))), (3, .int (iI (T (cx p0 1))))] dX5_love_137 hl rfl (by decide) rfl (fun ls hl => ?_)
                      refine lv_goto (tgt := 33) hx hb dX5_love_140 (by decide) ?_
                      have hlvp := Inv_lv (p := p0) hI (by omega)
                      exact ih (t + 1) (va_up T (cx p0 1) (-1)) (va_up T (cx p0 1) (-1)) j11 (-1) (alF (dsF 0 n0 (va_up T (cx p0 1) (-1)))) (-1) (alF (dsF 0 n0 (va_up T (cx p0 1) (-1)))) _ _ _ (by omega) (fun v => up_up _ _ _ _) (up_lo _ _ (by omega)) (run_step hr (beS_t (a := (-1)) (b := alF (dsF 0 n0 (va_up T (cx p0 1) (-1)))) (decide_eq_true (by rw [e_w]; omega)) (by (try dsimp only); rw [e_w]) (by (try dsimp only); rw [e_w]) (by (try dsimp only); omega))) (by omega) hP hD hS (lv_sub hl [6, 7, 8, 9, 2, 1, 0] rfl)
          · refine lv_iload hx hb dX5_love_55 (lv_at hl 6 rfl) ?_
            refine lv_goto (tgt := 61) hx hb dX5_love_57 (by decide) ?_
            refine lv_istore (lv' := [(7, .int (iI ((t : Nat) : Int))), (0, .ref (r 0)), (1, .int (iI ((p0 : Nat) : Int))), (2, .int (iI ((n0 : Nat) : Int))), (3, .int (iI (T (cx p0 1)))), (4, .int (iI be)), (5, .int (iI fe)), (6, .int (iI ((t : Nat) : Int)))]) hx hb dX5_love_61 hl (by decide) rfl (fun ls hl => ?_)
            have e_w : lvW T t = ((t : Nat) : Int) := by unfold lvW; rw [if_pos (by omega)]
            refine lv_iload hx hb dX5_love_63 (lv_at hl 0 rfl) ?_
            refine lv_iload_n hx hb dX5_love_65 rfl (lv_at hl 2 rfl) ?_
            refine x_icmp_eq (tgt := 137) hx hb (by omega) (by omega) dX5_love_66 (by decide) (fun c_66 => ?_) (fun c_66 => ?_)
            · refine x_iinc hx hb 7 ((t + 1 : Nat) : Int) (by omega) [(6, .int (iI ((t + 1 : Nat) : Int))), (7, .int (iI ((t : Nat) : Int))), (0, .ref (r 0)), (1, .int (iI ((p0 : Nat) : Int))), (2, .int (iI ((n0 : Nat) : Int))), (3, .int (iI (T (cx p0 1)))), (4, .int (iI be)), (5, .int (iI fe))] dX5_love_137 hl rfl (by decide) rfl (fun ls hl => ?_)
              refine lv_goto (tgt := 33) hx hb dX5_love_140 (by decide) ?_
              have hlvp := Inv_lv (p := p0) hI (by omega)
              exact ih (t + 1) Tt Y1 jt be fe bv lv _ _ _ (by omega) hT h0 (run_step hr (beS_o (decide_eq_false (by rw [e_w]; omega)))) (by omega) hP hD hS (lv_sub hl [2, 3, 4, 5, 6, 7, 0] rfl)
            · refine lv_aload_n hx hb dX5_love_69 rfl (lv_at hl 1 rfl) ?_
              refine va_get (D := D) (ci := 4) (v := .ref (r 1)) (C := RX5) (T := TX5) (N := 18) hx hb hts (iT_X5_love_X5) hown hK hP 0 rfl rfl 0 (by decide) (hts (.fieldLink RX5 7 "WordSupperModel" "s" "[I") (by decide +kernel)) (fun _ h9 => h9) rfl dX5_love_70 ?_
              refine lv_iload_n hx hb dX5_love_73 rfl (lv_at hl 2 rfl) ?_
              refine x_iconst hx hb dX5_love_74 ?_
              refine x_callS (As := [.int (iI ((p0 : Nat) : Int)), .int (iI 1)]) (rest := [.ref (r 1)]) ⟨hx, hb, hml, hown, hts⟩ (kX5_at p0 1 ) (va_cwS 2 hts gX5_love_X5_at rfl rfl rfl ykSX5_at ⟨Nat.le_of_ble_eq_true rfl, Nat.le_of_ble_eq_true rfl⟩) hP hK hD hS [] rfl (by decide) (fun _ => rfl) (fun _ => wRo r ik tn jt ++ (wA cI (r 1) 100 Tt ++ (wA cI (r 2) 100 K ++ (wA cI (r 3) 100 X ++ (wA cI (r 4) 100 Y1 ++ (wA cI (r 5) 8 (fR F) ++ (wA cI (r 6) 120 TB ++ (wA cI (r 7) 4 (bR SB) ++ (wA cI (r 8) 4 SS ++ (wA cI (r 9) 160 SN)))))))))) (fun _ => rfl) rfl hl.1 rfl (Nat.le_of_ble_eq_true rfl) dX5_love_75 ⟨Nat.le_of_ble_eq_true rfl, Nat.le_of_ble_eq_true rfl⟩ (fun _ H locs _ hP hD hS => ?_)
              refine W.eq (g2 := F0 m 78 ls [.int (iI ((cx p0 1 : Nat) : Int)), .ref (r 1)]) rfl ?_
              refine lv_iload hx hb dX5_love_78 (lv_at hl 0 rfl) ?_
              refine x_iast hx hb hK hP hD hS 1 0 rfl rfl (cx p0 1) rfl (cx_lt1 (by omega) (by omega)) (by decide) (wRo r ik tn jt ++ (wA cI (r 1) 100 (va_up Tt (cx p0 1) ((t : Nat) : Int)) ++ (wA cI (r 2) 100 K ++ (wA cI (r 3) 100 X ++ (wA cI (r 4) 100 Y1 ++ (wA cI (r 5) 8 (fR F) ++ (wA cI (r 6) 120 TB ++ (wA cI (r 7) 4 (bR SB) ++ (wA cI (r 8) 4 SS ++ (wA cI (r 9) 160 SN)))))))))) (by rw [← wA_up cI (r 1) 100 Tt ((t : Nat) : Int) (cx p0 1) (cx_lt1 (by omega) (by omega))]; rfl) dX5_love_80 (fun H locs hP hD hS => ?_)
              rw [hT] at hP hD
              have iS : Inv B (va_up T (cx p0 1) ((t : Nat) : Int)) := Inv_cx hI (by omega) (by omega) (fun _ => show -1 ≤ ((t : Nat) : Int) ∧ ((t : Nat) : Int) < T 0 by omega)
              have nS : (va_up T (cx p0 1) ((t : Nat) : Int)) 0 = T 0 := up_lo _ _ (by omega)
              refine lv_aload_n hx hb dX5_love_81 rfl (lv_at hl 1 rfl) ?_
              refine lv_iload_n hx hb dX5_love_82 rfl (lv_at hl 3 rfl) ?_
              refine x_callV (As := [.int (iI ((n0 : Nat) : Int))]) (rest := []) ⟨hx, hb, hml, hown, hts⟩ (kX5_leftThen r ik tn jt (va_up T (cx p0 1) ((t : Nat) : Int)) Y1 n0 B iS (by omega) (by omega)) (cwV 1 hts gX5_love_X5_leftThen rfl rfl rfl ykVX5_leftThen ⟨Nat.le_of_ble_eq_true rfl, Nat.le_of_ble_eq_true rfl⟩) hP hK hD hS 0 4 rfl rfl rfl [0, 1, 4] rfl (by decide) (fun _ => rfl) (fun u => wRo r ik tn u ++ (wA cI (r 1) 100 (va_up T (cx p0 1) ((t : Nat) : Int)) ++ (wA cI (r 2) 100 K ++ (wA cI (r 3) 100 X ++ (wA cI (r 4) 100 (va_up T (cx p0 1) ((t : Nat) : Int)) ++ (wA cI (r 5) 8 (fR F) ++ (wA cI (r 6) 120 TB ++ (wA cI (r 7) 4 (bR SB) ++ (wA cI (r 8) 4 SS ++ (wA cI (r 9) 160 SN)))))))))) (fun _ => rfl) rfl hl.1 rfl (Nat.le_of_ble_eq_true rfl) dX5_love_83 ⟨Nat.le_of_ble_eq_true rfl, Nat.le_of_ble_eq_true rfl⟩ (fun u5 H locs hp6 hP hD hS => ?_)
              obtain ⟨j14, rfl⟩ : ∃ z, z = u5 := ⟨_, rfl⟩
              have hP : va_P D vwCl (wRo r ik tn j14 ++ (wA cI (r 1) 100 (va_up T (cx p0 1) ((t : Nat) : Int)) ++ (wA cI (r 2) 100 K ++ (wA cI (r 3) 100 X ++ (wA cI (r 4) 100 (va_up T (cx p0 1) ((t : Nat) : Int)) ++ (wA cI (r 5) 8 (fR F) ++ (wA cI (r 6) 120 TB ++ (wA cI (r 7) 4 (bR SB) ++ (wA cI (r 8) 4 SS ++ (wA cI (r 9) 160 SN)))))))))) H := hP
              have hD : va_D A (wRo r ik tn j14 ++ (wA cI (r 1) 100 (va_up T (cx p0 1) ((t : Nat) : Int)) ++ (wA cI (r 2) 100 K ++ (wA cI (r 3) 100 X ++ (wA cI (r 4) 100 (va_up T (cx p0 1) ((t : Nat) : Int)) ++ (wA cI (r 5) 8 (fR F) ++ (wA cI (r 6) 120 TB ++ (wA cI (r 7) 4 (bR SB) ++ (wA cI (r 8) 4 SS ++ (wA cI (r 9) 160 SN)))))))))) := hD
              refine W.eq (g2 := F0 m 86 ls [.int (iI (alF (dsF 0 n0 (va_up T (cx p0 1) ((t : Nat) : Int)))))]) rfl ?_
              have aV := al_b (dsF_I (m := 0) n0 iS).1
              refine lv_istore (lv' := [(8, .int (iI (alF (dsF 0 n0 (va_up T (cx p0 1) ((t : Nat) : Int)))))), (7, .int (iI ((t : Nat) : Int))), (0, .ref (r 0)), (1, .int (iI ((p0 : Nat) : Int))), (2, .int (iI ((n0 : Nat) : Int))), (3, .int (iI (T (cx p0 1)))), (4, .int (iI be)), (5, .int (iI fe)), (6, .int (iI ((t : Nat) : Int)))]) hx hb dX5_love_86 hl (by decide) rfl (fun ls hl => ?_)
              refine lv_iload hx hb dX5_love_88 (lv_at hl 6 rfl) ?_
              refine x_bipush hx hb dX5_love_90 (by decide) ?_
              refine x_icmp_eq (tgt := 102) hx hb (by omega) (by decide) dX5_love_92 (by decide) (fun c_92 => ?_) (fun c_92 => ?_)
              · refine x_iconst hx hb dX5_love_102 ?_
                refine lv_goto (tgt := 107) hx hb dX5_love_103 (by decide) ?_
                refine lv_istore (lv' := [(9, .int (iI 1)), (8, .int (iI (alF (dsF 0 n0 (va_up T (cx p0 1) ((t : Nat) : Int)))))), (7, .int (iI ((t : Nat) : Int))), (0, .ref (r 0)), (1, .int (iI ((p0 : Nat) : Int))), (2, .int (iI ((n0 : Nat) : Int))), (3, .int (iI (T (cx p0 1)))), (4, .int (iI be)), (5, .int (iI fe)), (6, .int (iI ((t : Nat) : Int)))]) hx hb dX5_love_107 hl (by decide) rfl (fun ls hl => ?_)
                refine lv_iload hx hb dX5_love_109 (lv_at hl 0 rfl) ?_
                refine x_if_eq (tgt := 119) hx hb (by decide) dX5_love_111 (by decide) (fun c_111 => ?_) (fun c_111 => ?_)
                · exact absurd c_111 (by decide)
                · refine lv_iload hx hb dX5_love_114 (lv_at hl 2 rfl) ?_
                  refine lv_goto (tgt := 121) hx hb dX5_love_116 (by decide) ?_
                  refine lv_istore (lv' := [(4, .int (iI ((t : Nat) : Int))), (9, .int (iI 1)), (8, .int (iI (alF (dsF 0 n0 (va_up T (cx p0 1) ((t : Nat) : Int)))))), (7, .int (iI ((t : Nat) : Int))), (0, .ref (r 0)), (1, .int (iI ((p0 : Nat) : Int))), (2, .int (iI ((n0 : Nat) : Int))), (3, .int (iI (T (cx p0 1)))), (5, .int (iI fe)), (6, .int (iI ((t : Nat) : Int)))]) hx hb dX5_love_121 hl (by decide) rfl (fun ls hl => ?_)
                  refine lv_iload hx hb dX5_love_123 (lv_at hl 1 rfl) ?_
                  refine x_if_eq (tgt := 133) hx hb (by decide) dX5_love_125 (by decide) (fun c_125 => ?_) (fun c_125 => ?_)
                  · exact absurd c_125 (by decide)
                  · refine lv_iload hx hb dX5_love_128 (lv_at hl 2 rfl) ?_
                    refine lv_goto (tgt := 135) hx hb dX5_love_130 (by decide) ?_
                    refine lv_istore (lv' := [(5, .int (iI (alF (dsF 0 n0 (va_up T (cx p0 1) ((t : Nat) : Int)))))), (4, .int (iI ((t : Nat) : Int))), (9, .int (iI 1)), (8, .int (iI (alF (dsF 0 n0 (va_up T (cx p0 1) ((t : Nat) : Int)))))), (7, .int (iI ((t : Nat) : Int))), (0, .ref (r 0)), (1, .int (iI ((p0 : Nat) : Int))), (2, .int (iI ((n0 : Nat) : Int))), (3, .int (iI (T (cx p0 1)))), (6, .int (iI ((t : Nat) : Int)))]) hx hb dX5_love_135 hl (by decide) rfl (fun ls hl => ?_)
                    refine x_iinc hx hb 9 ((t + 1 : Nat) : Int) (by omega) [(6, .int (iI ((t + 1 : Nat) : Int))), (5, .int (iI (alF (dsF 0 n0 (va_up T (cx p0 1) ((t : Nat) : Int)))))), (4, .int (iI ((t : Nat) : Int))), (9, .int (iI 1)), (8, .int (iI (alF (dsF 0 n0 (va_up T (cx p0 1) ((t : Nat) : Int)))))), (7, .int (iI ((t : Nat) : Int))), (0, .ref (r 0)), (1, .int (iI ((p0 : Nat) : Int))), (2, .int (iI ((n0 : Nat) : Int))), (3, .int (iI (T (cx p0 1))))] dX5_love_137 hl rfl (by decide) rfl (fun ls hl => ?_)
                    refine lv_goto (tgt := 33) hx hb dX5_love_140 (by decide) ?_
                    have hlvp := Inv_lv (p := p0) hI (by omega)
                    exact ih (t + 1) (va_up T (cx p0 1) ((t : Nat) : Int)) (va_up T (cx p0 1) ((t : Nat) : Int)) j14 ((t : Nat) : Int) (alF (dsF 0 n0 (va_up T (cx p0 1) ((t : Nat) : Int)))) ((t : Nat) : Int) (alF (dsF 0 n0 (va_up T (cx p0 1) ((t : Nat) : Int)))) _ _ _ (by omega) (fun v => up_up _ _ _ _) (up_lo _ _ (by omega)) (run_step hr (beS_t (a := ((t : Nat) : Int)) (b := alF (dsF 0 n0 (va_up T (cx p0 1) ((t : Nat) : Int)))) (decide_eq_true (by rw [e_w]; omega)) (by (try dsimp only); rw [e_w]) (by (try dsimp only); rw [e_w]) (by (try dsimp only); omega))) (by omega) hP hD hS (lv_sub hl [6, 7, 8, 9, 2, 1, 0] rfl)
              · refine lv_iload hx hb dX5_love_95 (lv_at hl 0 rfl) ?_
                refine lv_iload hx hb dX5_love_97 (lv_at hl 7 rfl) ?_
                refine x_icmp_ge (tgt := 106) hx hb (by omega) (by omega) dX5_love_99 (by decide) (fun c_99 => ?_) (fun c_99 => ?_)
                · refine x_iconst hx hb dX5_love_106 ?_
                  refine lv_istore (lv' := [(9, .int (iI 0)), (8, .int (iI (alF (dsF 0 n0 (va_up T (cx p0 1) ((t : Nat) : Int)))))), (7, .int (iI ((t : Nat) : Int))), (0, .ref (r 0)), (1, .int (iI ((p0 : Nat) : Int))), (2, .int (iI ((n0 : Nat) : Int))), (3, .int (iI (T (cx p0 1)))), (4, .int (iI be)), (5, .int (iI fe)), (6, .int (iI ((t : Nat) : Int)))]) hx hb dX5_love_107 hl (by decide) rfl (fun ls hl => ?_)
                  refine lv_iload hx hb dX5_love_109 (lv_at hl 0 rfl) ?_
                  refine x_if_eq (tgt := 119) hx hb (by decide) dX5_love_111 (by decide) (fun c_111 => ?_) (fun c_111 => ?_)
                  · refine lv_iload hx hb dX5_love_119 (lv_at hl 7 rfl) ?_
                    refine lv_istore (lv' := [(4, .int (iI be)), (9, .int (iI 0)), (8, .int (iI (alF (dsF 0 n0 (va_up T (cx p0 1) ((t : Nat) : Int)))))), (7, .int (iI ((t : Nat) : Int))), (0, .ref (r 0)), (1, .int (iI ((p0 : Nat) : Int))), (2, .int (iI ((n0 : Nat) : Int))), (3, .int (iI (T (cx p0 1)))), (5, .int (iI fe)), (6, .int (iI ((t : Nat) : Int)))]) hx hb dX5_love_121 hl (by decide) rfl (fun ls hl => ?_)
                    refine lv_iload hx hb dX5_love_123 (lv_at hl 1 rfl) ?_
                    refine x_if_eq (tgt := 133) hx hb (by decide) dX5_love_125 (by decide) (fun c_125 => ?_) (fun c_125 => ?_)
                    · refine lv_iload hx hb dX5_love_133 (lv_at hl 8 rfl) ?_
                      refine lv_istore (lv' := [(5, .int (iI fe)), (4, .int (iI be)), (9, .int (iI 0)), (8, .int (iI (alF (dsF 0 n0 (va_up T (cx p0 1) ((t : Nat) : Int)))))), (7, .int (iI ((t : Nat) : Int))), (0, .ref (r 0)), (1, .int (iI ((p0 : Nat) : Int))), (2, .int (iI ((n0 : Nat) : Int))), (3, .int (iI (T (cx p0 1)))), (6, .int (iI ((t : Nat) : Int)))]) hx hb dX5_love_135 hl (by decide) rfl (fun ls hl => ?_)
                      refine x_iinc hx hb 9 ((t + 1 : Nat) : Int) (by omega) [(6, .int (iI ((t + 1 : Nat) : Int))), (5, .int (iI fe)), (4, .int (iI be)), (9, .int (iI 0)), (8, .int (iI (alF (dsF 0 n0 (va_up T (cx p0 1) ((t : Nat) : Int)))))), (7, .int (iI ((t : Nat) : Int))), (0, .ref (r 0)), (1, .int (iI ((p0 : Nat) : Int))), (2, .int (iI ((n0 : Nat) : Int))), (3, .int (iI (T (cx p0 1))))] dX5_love_137 hl rfl (by decide) rfl (fun ls hl => ?_)
                      refine lv_goto (tgt := 33) hx hb dX5_love_140 (by decide) ?_
                      have hlvp := Inv_lv (p := p0) hI (by omega)
                      exact ih (t + 1) (va_up T (cx p0 1) ((t : Nat) : Int)) (va_up T (cx p0 1) ((t : Nat) : Int)) j14 be fe bv lv _ _ _ (by omega) (fun v => up_up _ _ _ _) (up_lo _ _ (by omega)) (run_step hr (beS_n (b := alF (dsF 0 n0 (va_up T (cx p0 1) ((t : Nat) : Int)))) (by (try dsimp only); rw [e_w]) (by (try dsimp only); omega))) (by omega) hP hD hS (lv_sub hl [6, 7, 8, 9, 2, 1, 0] rfl)
                    · exact absurd c_125 (by decide)
                  · exact absurd c_111 (by decide)
                · refine x_iconst hx hb dX5_love_102 ?_
                  refine lv_goto (tgt := 107) hx hb dX5_love_103 (by decide) ?_
                  refine lv_istore (lv' := [(9, .int (iI 1)), (8, .int (iI (alF (dsF 0 n0 (va_up T (cx p0 1) ((t : Nat) : Int)))))), (7, .int (iI ((t : Nat) : Int))), (0, .ref (r 0)), (1, .int (iI ((p0 : Nat) : Int))), (2, .int (iI ((n0 : Nat) : Int))), (3, .int (iI (T (cx p0 1)))), (4, .int (iI be)), (5, .int (iI fe)), (6, .int (iI ((t : Nat) : Int)))]) hx hb dX5_love_107 hl (by decide) rfl (fun ls hl => ?_)
                  refine lv_iload hx hb dX5_love_109 (lv_at hl 0 rfl) ?_
                  refine x_if_eq (tgt := 119) hx hb (by decide) dX5_love_111 (by decide) (fun c_111 => ?_) (fun c_111 => ?_)
                  · exact absurd c_111 (by decide)
                  · refine lv_iload hx hb dX5_love_114 (lv_at hl 2 rfl) ?_
                    refine lv_goto (tgt := 121) hx hb dX5_love_116 (by decide) ?_
                    refine lv_istore (lv' := [(4, .int (iI ((t : Nat) : Int))), (9, .int (iI 1)), (8, .int (iI (alF (dsF 0 n0 (va_up T (cx p0 1) ((t : Nat) : Int)))))), (7, .int (iI ((t : Nat) : Int))), (0, .ref (r 0)), (1, .int (iI ((p0 : Nat) : Int))), (2, .int (iI ((n0 : Nat) : Int))), (3, .int (iI (T (cx p0 1)))), (5, .int (iI fe)), (6, .int (iI ((t : Nat) : Int)))]) hx hb dX5_love_121 hl (by decide) rfl (fun ls hl => ?_)
                    refine lv_iload hx hb dX5_love_123 (lv_at hl 1 rfl) ?_
                    refine x_if_eq (tgt := 133) hx hb (by decide) dX5_love_125 (by decide) (fun c_125 => ?_) (fun c_125 => ?_)
                    · exact absurd c_125 (by decide)
                    · refine lv_iload hx hb dX5_love_128 (lv_at hl 2 rfl) ?_
                      refine lv_goto (tgt := 135) hx hb dX5_love_130 (by decide) ?_
                      refine lv_istore (lv' := [(5, .int (iI (alF (dsF 0 n0 (va_up T (cx p0 1) ((t : Nat) : Int)))))), (4, .int (iI ((t : Nat) : Int))), (9, .int (iI 1)), (8, .int (iI (alF (dsF 0 n0 (va_up T (cx p0 1) ((t : Nat) : Int)))))), (7, .int (iI ((t : Nat) : Int))), (0, .ref (r 0)), (1, .int (iI ((p0 : Nat) : Int))), (2, .int (iI ((n0 : Nat) : Int))), (3, .int (iI (T (cx p0 1)))), (6, .int (iI ((t : Nat) : Int)))]) hx hb dX5_love_135 hl (by decide) rfl (fun ls hl => ?_)
                      refine x_iinc hx hb 9 ((t + 1 : Nat) : Int) (by omega) [(6, .int (iI ((t + 1 : Nat) : Int))), (5, .int (iI (alF (dsF 0 n0 (va_up T (cx p0 1) ((t : Nat) : Int)))))), (4, .int (iI ((t : Nat) : Int))), (9, .int (iI 1)), (8, .int (iI (alF (dsF 0 n0 (va_up T (cx p0 1) ((t : Nat) : Int)))))), (7, .int (iI ((t : Nat) : Int))), (0, .ref (r 0)), (1, .int (iI ((p0 : Nat) : Int))), (2, .int (iI ((n0 : Nat) : Int))), (3, .int (iI (T (cx p0 1))))] dX5_love_137 hl rfl (by decide) rfl (fun ls hl => ?_)
                      refine lv_goto (tgt := 33) hx hb dX5_love_140 (by decide) ?_
                      have hlvp := Inv_lv (p := p0) hI (by omega)
                      exact ih (t + 1) (va_up T (cx p0 1) ((t : Nat) : Int)) (va_up T (cx p0 1) ((t : Nat) : Int)) j14 ((t : Nat) : Int) (alF (dsF 0 n0 (va_up T (cx p0 1) ((t : Nat) : Int)))) ((t : Nat) : Int) (alF (dsF 0 n0 (va_up T (cx p0 1) ((t : Nat) : Int)))) _ _ _ (by omega) (fun v => up_up _ _ _ _) (up_lo _ _ (by omega)) (run_step hr (beS_t (a := ((t : Nat) : Int)) (b := alF (dsF 0 n0 (va_up T (cx p0 1) ((t : Nat) : Int)))) (decide_eq_true (by rw [e_w]; omega)) (by (try dsimp only); rw [e_w]) (by (try dsimp only); rw [e_w]) (by (try dsimp only); omega))) (by omega) hP hD hS (lv_sub hl [6, 7, 8, 9, 2, 1, 0] rfl)
    exact L33 ((T 0).toNat + 1) 0 T Y j (-2) 0 (-1) 1000000 _ _ _ (by omega) (fun _ => rfl) rfl rfl (by omega) hP hD hS (lv_sub hl [4, 5, 6, 3, 2, 1, 0] rfl)
  · refine lv_aload_n hx hb dX5_love_9 rfl (lv_at hl 0 rfl) ?_
    refine x_ldc hx hb (-1000001) rfl hown (hts (.constant RX5 37 (-1000001)) (by decide +kernel)) dX5_love_10 ?_
    refine x_callV (As := [.int (iI (-1000001))]) (rest := []) ⟨hx, hb, hml, hown, hts⟩ (kX5_finds r ik tn j F (-1000001) 0 (by omega) (by omega)) (cwV 1 hts gX5_love_X5_finds rfl rfl rfl ykVX5_finds ⟨Nat.le_of_ble_eq_true rfl, Nat.le_of_ble_eq_true rfl⟩) hP hK hD hS 0 4 rfl rfl rfl [0, 5] rfl (by decide) (fun _ => rfl) (fun _ => wRo r ik tn j ++ (wA cI (r 1) 100 T ++ (wA cI (r 2) 100 K ++ (wA cI (r 3) 100 X ++ (wA cI (r 4) 100 Y ++ (wA cI (r 5) 8 (fR (bmp 0 F)) ++ (wA cI (r 6) 120 TB ++ (wA cI (r 7) 4 (bR SB) ++ (wA cI (r 8) 4 SS ++ (wA cI (r 9) 160 SN)))))))))) (fun _ => rfl) rfl hl.1 rfl (Nat.le_of_ble_eq_true rfl) dX5_love_12 ⟨Nat.le_of_ble_eq_true rfl, Nat.le_of_ble_eq_true rfl⟩ (fun _ H locs _ hP hD hS => ?_)
    refine W.eq (g2 := F0 m 15 ls [.int (iI (-1000001))]) rfl ?_
    exact kend (((-1000001), T, K, ik, SB, SS, SN, tn, TB, (bmp 0 F)), X, Y, j) hP hS rfl (if_neg (by omega)).symm dX5_love_15
theorem ykSX5_kindFor : yX5_kindFor.cls ≠ "java/lang/invoke/MethodHandle" ∧ yX5_kindFor.cls ≠ "java/lang/invoke/VarHandle" ∧ (parseMethodDescriptor yX5_kindFor.desc).map (fun d => d.parameters.length) = some 2 := by decide +kernel
theorem ykVX5_kindFor : yX5_kindFor.cls = RX5 ∧ yX5_kindFor.cls ≠ "java/lang/invoke/MethodHandle" ∧ yX5_kindFor.cls ≠ "java/lang/invoke/VarHandle" ∧ (parseMethodDescriptor yX5_kindFor.desc).map (fun d => d.parameters.length) = some 2 := ⟨rfl, ykSX5_kindFor⟩
set_option maxRecDepth 20000 in
theorem iT_X5_kindFor_X5 : ∀ w ∈ u_ws RX5 TX5 18, w ∈ wsX5_kindFor := by decide +kernel
set_option maxHeartbeats 4000000 in
set_option maxRecDepth 100000 in
theorem kX5_kindFor {l : Launch} {D : va_G} {cI cB : ClassId} (r : Nat → Nat) (T K : Tb) (ik : Int) (SB SS SN : Nat → Int) (tn : Int) (TB F : Nat → Int) (X Y : Tb) (j : Nat → Int) (sp n : Int) (B : Int) (hG : GI B T K ik SB SS SN tn TB F) (hB : B ≤ 40000) (h_sp : rI sp) (h_n : rI n) : Ct l yX5_kindFor wsX5_kindFor 7 157 D [(cI, .int), (cB, .byte)] [.ref (r 0), .int (iI sp), .int (iI n)] (wM cI r (T, K, ik, SB, SS, SN, tn, TB, F) X Y j) (S := (Int × Gs) × Tb × Tb × (Nat → Int)) (fun u => some (.int (iI u.1.1))) (fun u => u.1 = m_kindFor sp n T K ik SB SS SN tn TB F) (fun u => wM cI r u.1.2 u.2.1 u.2.2.1 u.2.2.2) := by
  refine CtI.of (cc := cX5_kindFor) (maxL := 9) (by decide +kernel) rfl (Nat.le_of_ble_eq_true rfl) ?_
  intro pg e s m args below meth c Q A hx hb hml hts hown hP hK hD hS ls hl kend
  have hown : s.vm.findClass RX5 = some m.cls := hown
  have hl : lv_has ls 9 [(0, .ref (r 0)), (1, .int (iI sp)), (2, .int (iI n))] := hl
  obtain ⟨hI, hIK, hik, hSB, hSS, hSN, htn, hTB, hF⟩ := id hG
  have hn := Inv_n hI
  have hdy := Inv_d hI
  have hP : va_P D vwCl (wRo r ik tn j ++ (wA cI (r 1) 100 T ++ (wA cI (r 2) 100 K ++ (wA cI (r 3) 100 X ++ (wA cI (r 4) 100 Y ++ (wA cI (r 5) 8 (fR F) ++ (wA cI (r 6) 120 TB ++ (wA cI (r 7) 4 (bR SB) ++ (wA cI (r 8) 4 SS ++ (wA cI (r 9) 160 SN)))))))))) s.heap := hP
  have hD : va_D A (wRo r ik tn j ++ (wA cI (r 1) 100 T ++ (wA cI (r 2) 100 K ++ (wA cI (r 3) 100 X ++ (wA cI (r 4) 100 Y ++ (wA cI (r 5) 8 (fR F) ++ (wA cI (r 6) 120 TB ++ (wA cI (r 7) 4 (bR SB) ++ (wA cI (r 8) 4 SS ++ (wA cI (r 9) 160 SN)))))))))) := hD
  refine lv_aload_n hx hb dX5_kindFor_0 rfl (lv_at hl 0 rfl) ?_
  refine lv_iload_n hx hb dX5_kindFor_1 rfl (lv_at hl 1 rfl) ?_
  refine lv_iload_n hx hb dX5_kindFor_2 rfl (lv_at hl 2 rfl) ?_
  refine x_callV (As := [.int (iI sp), .int (iI n)]) (rest := []) ⟨hx, hb, hml, hown, hts⟩ (kX5_isAsked r ik tn j T sp n (by omega) (by omega) (by omega)) (cwV 2 hts gX5_kindFor_X5_isAsked rfl rfl rfl ykVX5_isAsked ⟨Nat.le_of_ble_eq_true rfl, Nat.le_of_ble_eq_true rfl⟩) hP hK hD hS 0 4 rfl rfl rfl [0, 1] rfl (by decide) (fun _ => rfl) (fun _ => wRo r ik tn j ++ (wA cI (r 1) 100 T ++ (wA cI (r 2) 100 K ++ (wA cI (r 3) 100 X ++ (wA cI (r 4) 100 Y ++ (wA cI (r 5) 8 (fR F) ++ (wA cI (r 6) 120 TB ++ (wA cI (r 7) 4 (bR SB) ++ (wA cI (r 8) 4 SS ++ (wA cI (r 9) 160 SN)))))))))) (fun _ => rfl) rfl hl.1 rfl (Nat.le_of_ble_eq_true rfl) dX5_kindFor_3 ⟨Nat.le_of_ble_eq_true rfl, Nat.le_of_ble_eq_true rfl⟩ (fun _ H locs _ hP hD hS => ?_)
  refine W.eq (g2 := F0 m 6 ls [.int (iI (b2 (decide ((0 ≤ sp ∧ sp < T 0) ∧ (0 ≤ n ∧ n ≤ 40)))))]) rfl ?_
  refine x_ifb_ne (tgt := 16) hx hb dX5_kindFor_6 (by decide) (fun c_6 => ?_) (fun c_6 => ?_)
  · obtain ⟨p0, rfl⟩ : ∃ p0 : Nat, sp = (p0 : Int) := ⟨sp.toNat, by omega⟩
    obtain ⟨n0, rfl⟩ : ∃ n0 : Nat, n = (n0 : Int) := ⟨n.toNat, by omega⟩
    refine lv_aload_n hx hb dX5_kindFor_16 rfl (lv_at hl 0 rfl) ?_
    refine lv_iload_n hx hb dX5_kindFor_17 rfl (lv_at hl 1 rfl) ?_
    refine x_iconst hx hb dX5_kindFor_18 ?_
    refine x_callV (As := [.int (iI ((p0 : Nat) : Int)), .int (iI 0)]) (rest := []) ⟨hx, hb, hml, hown, hts⟩ (kX5_its r ik tn j T p0 0 (by omega) (by omega)) (cwV 2 hts gX5_kindFor_X5_its rfl rfl rfl ykVX5_its ⟨Nat.le_of_ble_eq_true rfl, Nat.le_of_ble_eq_true rfl⟩) hP hK hD hS 0 4 rfl rfl rfl [0, 1] rfl (by decide) (fun _ => rfl) (fun _ => wRo r ik tn j ++ (wA cI (r 1) 100 T ++ (wA cI (r 2) 100 K ++ (wA cI (r 3) 100 X ++ (wA cI (r 4) 100 Y ++ (wA cI (r 5) 8 (fR F) ++ (wA cI (r 6) 120 TB ++ (wA cI (r 7) 4 (bR SB) ++ (wA cI (r 8) 4 SS ++ (wA cI (r 9) 160 SN)))))))))) (fun _ => rfl) rfl hl.1 rfl (Nat.le_of_ble_eq_true rfl) dX5_kindFor_19 ⟨Nat.le_of_ble_eq_true rfl, Nat.le_of_ble_eq_true rfl⟩ (fun _ H locs _ hP hD hS => ?_)
    refine W.eq (g2 := F0 m 22 ls [.int (iI (T (cx p0 0)))]) rfl ?_
    refine lv_istore_n (lv' := [(3, .int (iI (T (cx p0 0)))), (0, .ref (r 0)), (1, .int (iI ((p0 : Nat) : Int))), (2, .int (iI ((n0 : Nat) : Int)))]) hx hb dX5_kindFor_22 rfl hl (by decide) rfl (fun ls hl => ?_)
    refine x_iconst hx hb dX5_kindFor_23 ?_
    refine lv_istore (lv' := [(4, .int (iI (-1))), (3, .int (iI (T (cx p0 0)))), (0, .ref (r 0)), (1, .int (iI ((p0 : Nat) : Int))), (2, .int (iI ((n0 : Nat) : Int)))]) hx hb dX5_kindFor_24 hl (by decide) rfl (fun ls hl => ?_)
    refine x_iconst hx hb dX5_kindFor_26 ?_
    refine lv_istore (lv' := [(5, .int (iI 0)), (4, .int (iI (-1))), (3, .int (iI (T (cx p0 0)))), (0, .ref (r 0)), (1, .int (iI ((p0 : Nat) : Int))), (2, .int (iI ((n0 : Nat) : Int)))]) hx hb dX5_kindFor_27 hl (by decide) rfl (fun ls hl => ?_)
    refine x_iconst hx hb dX5_kindFor_29 ?_
    refine lv_istore (lv' := [(6, .int (iI 0)), (5, .int (iI 0)), (4, .int (iI (-1))), (3, .int (iI (T (cx p0 0)))), (0, .ref (r 0)), (1, .int (iI ((p0 : Nat) : Int))), (2, .int (iI ((n0 : Nat) : Int)))]) hx hb dX5_kindFor_30 hl (by decide) rfl (fun ls hl => ?_)
    have hlvp := Inv_k (p := p0) hI (by omega)
    have L32 : ∀ (k t : Nat) (Tt : Tb) (Y1 : Tb) (jt : Nat → Int) (be : Int) (fe : Int) (bv : Int) (lv : Int) (H : Heap) (locs : List Loc) (ls : Array Slot), t + k = 7 → (∀ v : Int, va_up Tt (cx p0 0) v = va_up T (cx p0 0) v) → (Tt 0 = T 0) → (run (beS (fun (i : Nat) => lfF (dsF 0 n0 (va_up T (cx p0 0) (i : Int))) p0) (fun (_ : Nat) => true) (fun (i : Nat) => (i : Int))) k t (bv, lv) = beF (fun (i : Nat) => lfF (dsF 0 n0 (va_up T (cx p0 0) (i : Int))) p0) (fun (_ : Nat) => true) (fun (i : Nat) => (i : Int)) 7 (0, 1000000)) → ((be = -1 ∧ lv = 1000000 ∧ t = 0) ∨ (be = bv ∧ fe = lv ∧ 0 ≤ lv ∧ lv ≤ 47952 ∧ 0 ≤ be ∧ be ≤ 8)) → va_P D vwCl (wRo r ik tn jt ++ (wA cI (r 1) 100 Tt ++ (wA cI (r 2) 100 K ++ (wA cI (r 3) 100 X ++ (wA cI (r 4) 100 Y1 ++ (wA cI (r 5) 8 (fR F) ++ (wA cI (r 6) 120 TB ++ (wA cI (r 7) 4 (bR SB) ++ (wA cI (r 8) 4 SS ++ (wA cI (r 9) 160 SN)))))))))) H → va_D A (wRo r ik tn jt ++ (wA cI (r 1) 100 Tt ++ (wA cI (r 2) 100 K ++ (wA cI (r 3) 100 X ++ (wA cI (r 4) 100 Y1 ++ (wA cI (r 5) 8 (fR F) ++ (wA cI (r 6) 120 TB ++ (wA cI (r 7) 4 (bR SB) ++ (wA cI (r 8) 4 SS ++ (wA cI (r 9) 160 SN)))))))))) → va_S A s.heap H locs → lv_has ls 9 [(0, .ref (r 0)), (1, .int (iI ((p0 : Nat) : Int))), (2, .int (iI ((n0 : Nat) : Int))), (3, .int (iI (T (cx p0 0)))), (4, .int (iI be)), (5, .int (iI fe)), (6, .int (iI ((t : Nat) : Int)))] → W pg l e { frames := 7, cells := 0, slots := 0, locals := 157 } s m args below meth c H locs 0 0 Q (F0 m 32 ls []) := by
      intro k
      induction k with
      | zero =>
        intro t Tt Y1 jt be fe bv lv H locs ls hkt hT h0 hr hq hP hD hS hl
        have hlvp := Inv_k (p := p0) hI (by omega)
        refine lv_iload hx hb dX5_kindFor_32 (lv_at hl 6 rfl) ?_
        refine x_bipush hx hb dX5_kindFor_34 (by decide) ?_
        refine x_icmp_gt (tgt := 113) hx hb (by omega) (by decide) dX5_kindFor_36 (by decide) (fun c_36 => ?_) (fun c_36 => ?_)
        · refine lv_aload_n hx hb dX5_kindFor_113 rfl (lv_at hl 0 rfl) ?_
          refine va_get (D := D) (ci := 4) (v := .ref (r 1)) (C := RX5) (T := TX5) (N := 18) hx hb hts (iT_X5_kindFor_X5) hown hK hP 0 rfl rfl 0 (by decide) (hts (.fieldLink RX5 7 "WordSupperModel" "s" "[I") (by decide +kernel)) (fun _ h9 => h9) rfl dX5_kindFor_114 ?_
          refine lv_iload_n hx hb dX5_kindFor_117 rfl (lv_at hl 1 rfl) ?_
          refine x_iconst hx hb dX5_kindFor_118 ?_
          refine x_callS (As := [.int (iI ((p0 : Nat) : Int)), .int (iI 0)]) (rest := [.ref (r 1)]) ⟨hx, hb, hml, hown, hts⟩ (kX5_at p0 0 ) (va_cwS 2 hts gX5_kindFor_X5_at rfl rfl rfl ykSX5_at ⟨Nat.le_of_ble_eq_true rfl, Nat.le_of_ble_eq_true rfl⟩) hP hK hD hS [] rfl (by decide) (fun _ => rfl) (fun _ => wRo r ik tn jt ++ (wA cI (r 1) 100 Tt ++ (wA cI (r 2) 100 K ++ (wA cI (r 3) 100 X ++ (wA cI (r 4) 100 Y1 ++ (wA cI (r 5) 8 (fR F) ++ (wA cI (r 6) 120 TB ++ (wA cI (r 7) 4 (bR SB) ++ (wA cI (r 8) 4 SS ++ (wA cI (r 9) 160 SN)))))))))) (fun _ => rfl) rfl hl.1 rfl (Nat.le_of_ble_eq_true rfl) dX5_kindFor_119 ⟨Nat.le_of_ble_eq_true rfl, Nat.le_of_ble_eq_true rfl⟩ (fun _ H locs _ hP hD hS => ?_)
          refine W.eq (g2 := F0 m 122 ls [.int (iI ((cx p0 0 : Nat) : Int)), .ref (r 1)]) rfl ?_
          refine lv_iload_n hx hb dX5_kindFor_122 rfl (lv_at hl 3 rfl) ?_
          refine x_iast hx hb hK hP hD hS 1 0 rfl rfl (cx p0 0) rfl (cx_lt1 (by omega) (by omega)) (by decide) (wRo r ik tn jt ++ (wA cI (r 1) 100 (va_up Tt (cx p0 0) (T (cx p0 0))) ++ (wA cI (r 2) 100 K ++ (wA cI (r 3) 100 X ++ (wA cI (r 4) 100 Y1 ++ (wA cI (r 5) 8 (fR F) ++ (wA cI (r 6) 120 TB ++ (wA cI (r 7) 4 (bR SB) ++ (wA cI (r 8) 4 SS ++ (wA cI (r 9) 160 SN)))))))))) (by rw [← wA_up cI (r 1) 100 Tt (T (cx p0 0)) (cx p0 0) (cx_lt1 (by omega) (by omega))]; rfl) dX5_kindFor_123 (fun H locs hP hD hS => ?_)
          rw [hT, up_id] at hP hD
          refine lv_iload hx hb dX5_kindFor_124 (lv_at hl 4 rfl) ?_
          exact kend ((be, T, K, ik, SB, SS, SN, tn, TB, F), X, Y1, jt) hP hS rfl (by unfold m_kindFor; rw [if_pos (by omega)]; simp only [Int.toNat_natCast]; rw [← hr, show be = bv by omega] <;> rfl) dX5_kindFor_126
        · exfalso; omega
      | succ k ih =>
        intro t Tt Y1 jt be fe bv lv H locs ls hkt hT h0 hr hq hP hD hS hl
        have hlvp := Inv_k (p := p0) hI (by omega)
        refine lv_iload hx hb dX5_kindFor_32 (lv_at hl 6 rfl) ?_
        refine x_bipush hx hb dX5_kindFor_34 (by decide) ?_
        refine x_icmp_gt (tgt := 113) hx hb (by omega) (by decide) dX5_kindFor_36 (by decide) (fun c_36 => ?_) (fun c_36 => ?_)
        · exfalso; omega
        · refine lv_aload_n hx hb dX5_kindFor_39 rfl (lv_at hl 0 rfl) ?_
          refine va_get (D := D) (ci := 4) (v := .ref (r 1)) (C := RX5) (T := TX5) (N := 18) hx hb hts (iT_X5_kindFor_X5) hown hK hP 0 rfl rfl 0 (by decide) (hts (.fieldLink RX5 7 "WordSupperModel" "s" "[I") (by decide +kernel)) (fun _ h9 => h9) rfl dX5_kindFor_40 ?_
          refine lv_iload_n hx hb dX5_kindFor_43 rfl (lv_at hl 1 rfl) ?_
          refine x_iconst hx hb dX5_kindFor_44 ?_
          refine x_callS (As := [.int (iI ((p0 : Nat) : Int)), .int (iI 0)]) (rest := [.ref (r 1)]) ⟨hx, hb, hml, hown, hts⟩ (kX5_at p0 0 ) (va_cwS 2 hts gX5_kindFor_X5_at rfl rfl rfl ykSX5_at ⟨Nat.le_of_ble_eq_true rfl, Nat.le_of_ble_eq_true rfl⟩) hP hK hD hS [] rfl (by decide) (fun _ => rfl) (fun _ => wRo r ik tn jt ++ (wA cI (r 1) 100 Tt ++ (wA cI (r 2) 100 K ++ (wA cI (r 3) 100 X ++ (wA cI (r 4) 100 Y1 ++ (wA cI (r 5) 8 (fR F) ++ (wA cI (r 6) 120 TB ++ (wA cI (r 7) 4 (bR SB) ++ (wA cI (r 8) 4 SS ++ (wA cI (r 9) 160 SN)))))))))) (fun _ => rfl) rfl hl.1 rfl (Nat.le_of_ble_eq_true rfl) dX5_kindFor_45 ⟨Nat.le_of_ble_eq_true rfl, Nat.le_of_ble_eq_true rfl⟩ (fun _ H locs _ hP hD hS => ?_)
          refine W.eq (g2 := F0 m 48 ls [.int (iI ((cx p0 0 : Nat) : Int)), .ref (r 1)]) rfl ?_
          refine lv_iload hx hb dX5_kindFor_48 (lv_at hl 6 rfl) ?_
          refine x_iast hx hb hK hP hD hS 1 0 rfl rfl (cx p0 0) rfl (cx_lt1 (by omega) (by omega)) (by decide) (wRo r ik tn jt ++ (wA cI (r 1) 100 (va_up Tt (cx p0 0) ((t : Nat) : Int)) ++ (wA cI (r 2) 100 K ++ (wA cI (r 3) 100 X ++ (wA cI (r 4) 100 Y1 ++ (wA cI (r 5) 8 (fR F) ++ (wA cI (r 6) 120 TB ++ (wA cI (r 7) 4 (bR SB) ++ (wA cI (r 8) 4 SS ++ (wA cI (r 9) 160 SN)))))))))) (by rw [← wA_up cI (r 1) 100 Tt ((t : Nat) : Int) (cx p0 0) (cx_lt1 (by omega) (by omega))]; rfl) dX5_kindFor_50 (fun H locs hP hD hS => ?_)
          rw [hT] at hP hD
          have iS : Inv B (va_up T (cx p0 0) ((t : Nat) : Int)) := Inv_cx hI (by omega) (by omega) (fun _ => show 0 ≤ ((t : Nat) : Int) ∧ ((t : Nat) : Int) ≤ 6 by omega)
          have nS : (va_up T (cx p0 0) ((t : Nat) : Int)) 0 = T 0 := up_lo _ _ (by omega)
          refine lv_aload_n hx hb dX5_kindFor_51 rfl (lv_at hl 0 rfl) ?_
          refine lv_iload_n hx hb dX5_kindFor_52 rfl (lv_at hl 1 rfl) ?_
          refine x_iconst hx hb dX5_kindFor_53 ?_
          refine lv_iload_n hx hb dX5_kindFor_54 rfl (lv_at hl 2 rfl) ?_
          refine x_callV (As := [.int (iI ((p0 : Nat) : Int)), .int (iI 5), .int (iI ((n0 : Nat) : Int))]) (rest := []) ⟨hx, hb, hml, hown, hts⟩ (kX5_then r ik tn jt (va_up T (cx p0 0) ((t : Nat) : Int)) Y1 p0 5 n0 B iS (by rw [nS]; omega) (by omega) (by omega) (by omega)) (cwV 3 hts gX5_kindFor_X5_then rfl rfl rfl ykVX5_then ⟨Nat.le_of_ble_eq_true rfl, Nat.le_of_ble_eq_true rfl⟩) hP hK hD hS 0 4 rfl rfl rfl [0, 1, 4] rfl (by decide) (fun _ => rfl) (fun u => wRo r ik tn u ++ (wA cI (r 1) 100 (va_up T (cx p0 0) ((t : Nat) : Int)) ++ (wA cI (r 2) 100 K ++ (wA cI (r 3) 100 X ++ (wA cI (r 4) 100 (va_up T (cx p0 0) ((t : Nat) : Int)) ++ (wA cI (r 5) 8 (fR F) ++ (wA cI (r 6) 120 TB ++ (wA cI (r 7) 4 (bR SB) ++ (wA cI (r 8) 4 SS ++ (wA cI (r 9) 160 SN)))))))))) (fun _ => rfl) rfl hl.1 rfl (Nat.le_of_ble_eq_true rfl) dX5_kindFor_55 ⟨Nat.le_of_ble_eq_true rfl, Nat.le_of_ble_eq_true rfl⟩ (fun u2 H locs hp3 hP hD hS => ?_)
          obtain ⟨j11, rfl⟩ : ∃ z, z = u2 := ⟨_, rfl⟩
          have hP : va_P D vwCl (wRo r ik tn j11 ++ (wA cI (r 1) 100 (va_up T (cx p0 0) ((t : Nat) : Int)) ++ (wA cI (r 2) 100 K ++ (wA cI (r 3) 100 X ++ (wA cI (r 4) 100 (va_up T (cx p0 0) ((t : Nat) : Int)) ++ (wA cI (r 5) 8 (fR F) ++ (wA cI (r 6) 120 TB ++ (wA cI (r 7) 4 (bR SB) ++ (wA cI (r 8) 4 SS ++ (wA cI (r 9) 160 SN)))))))))) H := hP
          have hD : va_D A (wRo r ik tn j11 ++ (wA cI (r 1) 100 (va_up T (cx p0 0) ((t : Nat) : Int)) ++ (wA cI (r 2) 100 K ++ (wA cI (r 3) 100 X ++ (wA cI (r 4) 100 (va_up T (cx p0 0) ((t : Nat) : Int)) ++ (wA cI (r 5) 8 (fR F) ++ (wA cI (r 6) 120 TB ++ (wA cI (r 7) 4 (bR SB) ++ (wA cI (r 8) 4 SS ++ (wA cI (r 9) 160 SN)))))))))) := hD
          refine W.eq (g2 := F0 m 58 ls [.int (iI (thF (va_up T (cx p0 0) ((t : Nat) : Int)) p0 5 n0))]) rfl ?_
          have lV := Inv_lf (p := p0) (dsF_I (m := 0) n0 iS).1 (by rw [(dsF_I (m := 0) n0 iS).2.1, nS]; omega)
          refine x_topi (lfF (dsF 0 n0 ((va_up T (cx p0 0) ((t : Nat) : Int)))) p0) (th_5 _ _ _) ?_
          refine lv_istore (lv' := [(7, .int (iI (lfF (dsF 0 n0 ((va_up T (cx p0 0) ((t : Nat) : Int)))) p0))), (0, .ref (r 0)), (1, .int (iI ((p0 : Nat) : Int))), (2, .int (iI ((n0 : Nat) : Int))), (3, .int (iI (T (cx p0 0)))), (4, .int (iI be)), (5, .int (iI fe)), (6, .int (iI ((t : Nat) : Int)))]) hx hb dX5_kindFor_58 hl (by decide) rfl (fun ls hl => ?_)
          refine lv_iload hx hb dX5_kindFor_60 (lv_at hl 5 rfl) ?_
          refine x_if_lt (tgt := 72) hx hb (by omega) dX5_kindFor_62 (by decide) (fun c_62 => ?_) (fun c_62 => ?_)
          · refine x_iconst hx hb dX5_kindFor_72 ?_
            refine lv_goto (tgt := 77) hx hb dX5_kindFor_73 (by decide) ?_
            refine lv_istore (lv' := [(8, .int (iI 1)), (7, .int (iI (lfF (dsF 0 n0 ((va_up T (cx p0 0) ((t : Nat) : Int)))) p0))), (0, .ref (r 0)), (1, .int (iI ((p0 : Nat) : Int))), (2, .int (iI ((n0 : Nat) : Int))), (3, .int (iI (T (cx p0 0)))), (4, .int (iI be)), (5, .int (iI fe)), (6, .int (iI ((t : Nat) : Int)))]) hx hb dX5_kindFor_77 hl (by decide) rfl (fun ls hl => ?_)
            refine lv_iload hx hb dX5_kindFor_79 (lv_at hl 0 rfl) ?_
            refine x_if_eq (tgt := 89) hx hb (by decide) dX5_kindFor_81 (by decide) (fun c_81 => ?_) (fun c_81 => ?_)
            · exact absurd c_81 (by decide)
            · refine lv_iload hx hb dX5_kindFor_84 (lv_at hl 8 rfl) ?_
              refine lv_goto (tgt := 91) hx hb dX5_kindFor_86 (by decide) ?_
              refine lv_istore (lv' := [(4, .int (iI ((t : Nat) : Int))), (8, .int (iI 1)), (7, .int (iI (lfF (dsF 0 n0 ((va_up T (cx p0 0) ((t : Nat) : Int)))) p0))), (0, .ref (r 0)), (1, .int (iI ((p0 : Nat) : Int))), (2, .int (iI ((n0 : Nat) : Int))), (3, .int (iI (T (cx p0 0)))), (5, .int (iI fe)), (6, .int (iI ((t : Nat) : Int)))]) hx hb dX5_kindFor_91 hl (by decide) rfl (fun ls hl => ?_)
              refine lv_iload hx hb dX5_kindFor_93 (lv_at hl 1 rfl) ?_
              refine x_if_eq (tgt := 103) hx hb (by decide) dX5_kindFor_95 (by decide) (fun c_95 => ?_) (fun c_95 => ?_)
              · exact absurd c_95 (by decide)
              · refine lv_iload hx hb dX5_kindFor_98 (lv_at hl 2 rfl) ?_
                refine lv_goto (tgt := 105) hx hb dX5_kindFor_100 (by decide) ?_
                refine lv_istore (lv' := [(5, .int (iI (lfF (dsF 0 n0 ((va_up T (cx p0 0) ((t : Nat) : Int)))) p0))), (4, .int (iI ((t : Nat) : Int))), (8, .int (iI 1)), (7, .int (iI (lfF (dsF 0 n0 ((va_up T (cx p0 0) ((t : Nat) : Int)))) p0))), (0, .ref (r 0)), (1, .int (iI ((p0 : Nat) : Int))), (2, .int (iI ((n0 : Nat) : Int))), (3, .int (iI (T (cx p0 0)))), (6, .int (iI ((t : Nat) : Int)))]) hx hb dX5_kindFor_105 hl (by decide) rfl (fun ls hl => ?_)
                refine x_iinc hx hb 8 ((t + 1 : Nat) : Int) (by omega) [(6, .int (iI ((t + 1 : Nat) : Int))), (5, .int (iI (lfF (dsF 0 n0 ((va_up T (cx p0 0) ((t : Nat) : Int)))) p0))), (4, .int (iI ((t : Nat) : Int))), (8, .int (iI 1)), (7, .int (iI (lfF (dsF 0 n0 ((va_up T (cx p0 0) ((t : Nat) : Int)))) p0))), (0, .ref (r 0)), (1, .int (iI ((p0 : Nat) : Int))), (2, .int (iI ((n0 : Nat) : Int))), (3, .int (iI (T (cx p0 0))))] dX5_kindFor_107 hl rfl (by decide) rfl (fun ls hl => ?_)
                refine lv_goto (tgt := 32) hx hb dX5_kindFor_110 (by decide) ?_
                have hlvp := Inv_k (p := p0) hI (by omega)
                exact ih (t + 1) (va_up T (cx p0 0) ((t : Nat) : Int)) (va_up T (cx p0 0) ((t : Nat) : Int)) j11 ((t : Nat) : Int) (lfF (dsF 0 n0 ((va_up T (cx p0 0) ((t : Nat) : Int)))) p0) ((t : Nat) : Int) (lfF (dsF 0 n0 ((va_up T (cx p0 0) ((t : Nat) : Int)))) p0) _ _ _ (by omega) (fun v => up_up _ _ _ _) (up_lo _ _ (by omega)) (run_step hr (beS_t (a := ((t : Nat) : Int)) (b := lfF (dsF 0 n0 ((va_up T (cx p0 0) ((t : Nat) : Int)))) p0) rfl rfl rfl (by (try dsimp only); omega))) (by omega) hP hD hS (lv_sub hl [5, 6, 7, 8, 2, 1, 0] rfl)
          · refine lv_iload hx hb dX5_kindFor_65 (lv_at hl 0 rfl) ?_
            refine lv_iload hx hb dX5_kindFor_67 (lv_at hl 6 rfl) ?_
            refine x_icmp_ge (tgt := 76) hx hb (by omega) (by omega) dX5_kindFor_69 (by decide) (fun c_69 => ?_) (fun c_69 => ?_)
            · refine x_iconst hx hb dX5_kindFor_76 ?_
              refine lv_istore (lv' := [(8, .int (iI 0)), (7, .int (iI (lfF (dsF 0 n0 ((va_up T (cx p0 0) ((t : Nat) : Int)))) p0))), (0, .ref (r 0)), (1, .int (iI ((p0 : Nat) : Int))), (2, .int (iI ((n0 : Nat) : Int))), (3, .int (iI (T (cx p0 0)))), (4, .int (iI be)), (5, .int (iI fe)), (6, .int (iI ((t : Nat) : Int)))]) hx hb dX5_kindFor_77 hl (by decide) rfl (fun ls hl => ?_)
              refine lv_iload hx hb dX5_kindFor_79 (lv_at hl 0 rfl) ?_
              refine x_if_eq (tgt := 89) hx hb (by decide) dX5_kindFor_81 (by decide) (fun c_81 => ?_) (fun c_81 => ?_)
              · refine lv_iload hx hb dX5_kindFor_89 (lv_at hl 6 rfl) ?_
                refine lv_istore (lv' := [(4, .int (iI be)), (8, .int (iI 0)), (7, .int (iI (lfF (dsF 0 n0 ((va_up T (cx p0 0) ((t : Nat) : Int)))) p0))), (0, .ref (r 0)), (1, .int (iI ((p0 : Nat) : Int))), (2, .int (iI ((n0 : Nat) : Int))), (3, .int (iI (T (cx p0 0)))), (5, .int (iI fe)), (6, .int (iI ((t : Nat) : Int)))]) hx hb dX5_kindFor_91 hl (by decide) rfl (fun ls hl => ?_)
                refine lv_iload hx hb dX5_kindFor_93 (lv_at hl 1 rfl) ?_
                refine x_if_eq (tgt := 103) hx hb (by decide) dX5_kindFor_95 (by decide) (fun c_95 => ?_) (fun c_95 => ?_)
                · refine lv_iload hx hb dX5_kindFor_103 (lv_at hl 7 rfl) ?_
                  refine lv_istore (lv' := [(5, .int (iI fe)), (4, .int (iI be)), (8, .int (iI 0)), (7, .int (iI (lfF (dsF 0 n0 ((va_up T (cx p0 0) ((t : Nat) : Int)))) p0))), (0, .ref (r 0)), (1, .int (iI ((p0 : Nat) : Int))), (2, .int (iI ((n0 : Nat) : Int))), (3, .int (iI (T (cx p0 0)))), (6, .int (iI ((t : Nat) : Int)))]) hx hb dX5_kindFor_105 hl (by decide) rfl (fun ls hl => ?_)
                  refine x_iinc hx hb 8 ((t + 1 : Nat) : Int) (by omega) [(6, .int (iI ((t + 1 : Nat) : Int))), (5, .int (iI fe)), (4, .int (iI be)), (8, .int (iI 0)), (7, .int (iI (lfF (dsF 0 n0 ((va_up T (cx p0 0) ((t : Nat) : Int)))) p0))), (0, .ref (r 0)), (1, .int (iI ((p0 : Nat) : Int))), (2, .int (iI ((n0 : Nat) : Int))), (3, .int (iI (T (cx p0 0))))] dX5_kindFor_107 hl rfl (by decide) rfl (fun ls hl => ?_)
                  refine lv_goto (tgt := 32) hx hb dX5_kindFor_110 (by decide) ?_
                  have hlvp := Inv_k (p := p0) hI (by omega)
                  exact ih (t + 1) (va_up T (cx p0 0) ((t : Nat) : Int)) (va_up T (cx p0 0) ((t : Nat) : Int)) j11 be fe bv lv _ _ _ (by omega) (fun v => up_up _ _ _ _) (up_lo _ _ (by omega)) (run_step hr (beS_n (b := lfF (dsF 0 n0 ((va_up T (cx p0 0) ((t : Nat) : Int)))) p0) rfl (by (try dsimp only); omega))) (by omega) hP hD hS (lv_sub hl [5, 6, 7, 8, 2, 1, 0] rfl)
                · exact absurd c_95 (by decide)
              · exact absurd c_81 (by decide)
            · refine x_iconst hx hb dX5_kindFor_72 ?_
              refine lv_goto (tgt := 77) hx hb dX5_kindFor_73 (by decide) ?_
              refine lv_istore (lv' := [(8, .int (iI 1)), (7, .int (iI (lfF (dsF 0 n0 ((va_up T (cx p0 0) ((t : Nat) : Int)))) p0))), (0, .ref (r 0)), (1, .int (iI ((p0 : Nat) : Int))), (2, .int (iI ((n0 : Nat) : Int))), (3, .int (iI (T (cx p0 0)))), (4, .int (iI be)), (5, .int (iI fe)), (6, .int (iI ((t : Nat) : Int)))]) hx hb dX5_kindFor_77 hl (by decide) rfl (fun ls hl => ?_)
              refine lv_iload hx hb dX5_kindFor_79 (lv_at hl 0 rfl) ?_
              refine x_if_eq (tgt := 89) hx hb (by decide) dX5_kindFor_81 (by decide) (fun c_81 => ?_) (fun c_81 => ?_)
              · exact absurd c_81 (by decide)
              · refine lv_iload hx hb dX5_kindFor_84 (lv_at hl 8 rfl) ?_
                refine lv_goto (tgt := 91) hx hb dX5_kindFor_86 (by decide) ?_
                refine lv_istore (lv' := [(4, .int (iI ((t : Nat) : Int))), (8, .int (iI 1)), (7, .int (iI (lfF (dsF 0 n0 ((va_up T (cx p0 0) ((t : Nat) : Int)))) p0))), (0, .ref (r 0)), (1, .int (iI ((p0 : Nat) : Int))), (2, .int (iI ((n0 : Nat) : Int))), (3, .int (iI (T (cx p0 0)))), (5, .int (iI fe)), (6, .int (iI ((t : Nat) : Int)))]) hx hb dX5_kindFor_91 hl (by decide) rfl (fun ls hl => ?_)
                refine lv_iload hx hb dX5_kindFor_93 (lv_at hl 1 rfl) ?_
                refine x_if_eq (tgt := 103) hx hb (by decide) dX5_kindFor_95 (by decide) (fun c_95 => ?_) (fun c_95 => ?_)
                · exact absurd c_95 (by decide)
                · refine lv_iload hx hb dX5_kindFor_98 (lv_at hl 2 rfl) ?_
                  refine lv_goto (tgt := 105) hx hb dX5_kindFor_100 (by decide) ?_
                  refine lv_istore (lv' := [(5, .int (iI (lfF (dsF 0 n0 ((va_up T (cx p0 0) ((t : Nat) : Int)))) p0))), (4, .int (iI ((t : Nat) : Int))), (8, .int (iI 1)), (7, .int (iI (lfF (dsF 0 n0 ((va_up T (cx p0 0) ((t : Nat) : Int)))) p0))), (0, .ref (r 0)), (1, .int (iI ((p0 : Nat) : Int))), (2, .int (iI ((n0 : Nat) : Int))), (3, .int (iI (T (cx p0 0)))), (6, .int (iI ((t : Nat) : Int)))]) hx hb dX5_kindFor_105 hl (by decide) rfl (fun ls hl => ?_)
                  refine x_iinc hx hb 8 ((t + 1 : Nat) : Int) (by omega) [(6, .int (iI ((t + 1 : Nat) : Int))), (5, .int (iI (lfF (dsF 0 n0 ((va_up T (cx p0 0) ((t : Nat) : Int)))) p0))), (4, .int (iI ((t : Nat) : Int))), (8, .int (iI 1)), (7, .int (iI (lfF (dsF 0 n0 ((va_up T (cx p0 0) ((t : Nat) : Int)))) p0))), (0, .ref (r 0)), (1, .int (iI ((p0 : Nat) : Int))), (2, .int (iI ((n0 : Nat) : Int))), (3, .int (iI (T (cx p0 0))))] dX5_kindFor_107 hl rfl (by decide) rfl (fun ls hl => ?_)
                  refine lv_goto (tgt := 32) hx hb dX5_kindFor_110 (by decide) ?_
                  have hlvp := Inv_k (p := p0) hI (by omega)
                  exact ih (t + 1) (va_up T (cx p0 0) ((t : Nat) : Int)) (va_up T (cx p0 0) ((t : Nat) : Int)) j11 ((t : Nat) : Int) (lfF (dsF 0 n0 ((va_up T (cx p0 0) ((t : Nat) : Int)))) p0) ((t : Nat) : Int) (lfF (dsF 0 n0 ((va_up T (cx p0 0) ((t : Nat) : Int)))) p0) _ _ _ (by omega) (fun v => up_up _ _ _ _) (up_lo _ _ (by omega)) (run_step hr (beS_t (a := ((t : Nat) : Int)) (b := lfF (dsF 0 n0 ((va_up T (cx p0 0) ((t : Nat) : Int)))) p0) rfl rfl rfl (by (try dsimp only); omega))) (by omega) hP hD hS (lv_sub hl [5, 6, 7, 8, 2, 1, 0] rfl)
    exact L32 7 0 T Y j (-1) 0 0 1000000 _ _ _ (by omega) (fun _ => rfl) rfl rfl (by omega) hP hD hS (lv_sub hl [4, 5, 6, 3, 2, 1, 0] rfl)
  · refine lv_aload_n hx hb dX5_kindFor_9 rfl (lv_at hl 0 rfl) ?_
    refine x_ldc hx hb (-1000001) rfl hown (hts (.constant RX5 37 (-1000001)) (by decide +kernel)) dX5_kindFor_10 ?_
    refine x_callV (As := [.int (iI (-1000001))]) (rest := []) ⟨hx, hb, hml, hown, hts⟩ (kX5_finds r ik tn j F (-1000001) 0 (by omega) (by omega)) (cwV 1 hts gX5_kindFor_X5_finds rfl rfl rfl ykVX5_finds ⟨Nat.le_of_ble_eq_true rfl, Nat.le_of_ble_eq_true rfl⟩) hP hK hD hS 0 4 rfl rfl rfl [0, 5] rfl (by decide) (fun _ => rfl) (fun _ => wRo r ik tn j ++ (wA cI (r 1) 100 T ++ (wA cI (r 2) 100 K ++ (wA cI (r 3) 100 X ++ (wA cI (r 4) 100 Y ++ (wA cI (r 5) 8 (fR (bmp 0 F)) ++ (wA cI (r 6) 120 TB ++ (wA cI (r 7) 4 (bR SB) ++ (wA cI (r 8) 4 SS ++ (wA cI (r 9) 160 SN)))))))))) (fun _ => rfl) rfl hl.1 rfl (Nat.le_of_ble_eq_true rfl) dX5_kindFor_12 ⟨Nat.le_of_ble_eq_true rfl, Nat.le_of_ble_eq_true rfl⟩ (fun _ H locs _ hP hD hS => ?_)
    refine W.eq (g2 := F0 m 15 ls [.int (iI (-1000001))]) rfl ?_
    exact kend (((-1000001), T, K, ik, SB, SS, SN, tn, TB, (bmp 0 F)), X, Y, j) hP hS rfl (if_neg (by omega)).symm dX5_kindFor_15
theorem ykSX5_unsay : yX5_unsay.cls ≠ "java/lang/invoke/MethodHandle" ∧ yX5_unsay.cls ≠ "java/lang/invoke/VarHandle" ∧ (parseMethodDescriptor yX5_unsay.desc).map (fun d => d.parameters.length) = some 1 := by decide +kernel
theorem ykVX5_unsay : yX5_unsay.cls = RX5 ∧ yX5_unsay.cls ≠ "java/lang/invoke/MethodHandle" ∧ yX5_unsay.cls ≠ "java/lang/invoke/VarHandle" ∧ (parseMethodDescriptor yX5_unsay.desc).map (fun d => d.parameters.length) = some 1 := ⟨rfl, ykSX5_unsay⟩
set_option maxRecDepth 20000 in
theorem iT_X5_unsay_X5 : ∀ w ∈ u_ws RX5 TX5 18, w ∈ wsX5_unsay := by decide +kernel
set_option maxHeartbeats 4000000 in
set_option maxRecDepth 100000 in
theorem kX5_unsay {l : Launch} {D : va_G} {cI cB : ClassId} (r : Nat → Nat) (T K : Tb) (ik : Int) (SB SS SN : Nat → Int) (tn : Int) (TB F : Nat → Int) (X Y : Tb) (j : Nat → Int) (n : Int) (B : Int) (hG : GI B T K ik SB SS SN tn TB F) (hB : B ≤ 40000) (h_n : rI n) : Ct l yX5_unsay wsX5_unsay 7 155 D [(cI, .int), (cB, .byte)] [.ref (r 0), .int (iI n)] (wM cI r (T, K, ik, SB, SS, SN, tn, TB, F) X Y j) (S := (Int × Gs) × Tb × Tb × (Nat → Int)) (fun u => some (.int (iI u.1.1))) (fun u => u.1 = m_unsay n T K ik SB SS SN tn TB F) (fun u => wM cI r u.1.2 u.2.1 u.2.2.1 u.2.2.2) := by
  refine CtI.of (cc := cX5_unsay) (maxL := 8) (by decide +kernel) rfl (Nat.le_of_ble_eq_true rfl) ?_
  intro pg e s m args below meth c Q A hx hb hml hts hown hP hK hD hS ls hl kend
  have hown : s.vm.findClass RX5 = some m.cls := hown
  have hl : lv_has ls 8 [(0, .ref (r 0)), (1, .int (iI n))] := hl
  obtain ⟨hI, hIK, hik, hSB, hSS, hSN, htn, hTB, hF⟩ := id hG
  have hn := Inv_n hI
  have hdy := Inv_d hI
  have hP : va_P D vwCl (wRo r ik tn j ++ (wA cI (r 1) 100 T ++ (wA cI (r 2) 100 K ++ (wA cI (r 3) 100 X ++ (wA cI (r 4) 100 Y ++ (wA cI (r 5) 8 (fR F) ++ (wA cI (r 6) 120 TB ++ (wA cI (r 7) 4 (bR SB) ++ (wA cI (r 8) 4 SS ++ (wA cI (r 9) 160 SN)))))))))) s.heap := hP
  have hD : va_D A (wRo r ik tn j ++ (wA cI (r 1) 100 T ++ (wA cI (r 2) 100 K ++ (wA cI (r 3) 100 X ++ (wA cI (r 4) 100 Y ++ (wA cI (r 5) 8 (fR F) ++ (wA cI (r 6) 120 TB ++ (wA cI (r 7) 4 (bR SB) ++ (wA cI (r 8) 4 SS ++ (wA cI (r 9) 160 SN)))))))))) := hD
  refine lv_iload_n hx hb dX5_unsay_0 rfl (lv_at hl 1 rfl) ?_
  refine x_i2l hx hb (by omega) dX5_unsay_1 ?_
  refine x_lconst hx hb 0 rfl dX5_unsay_2 ?_
  refine x_ldc2 hx hb 40 rfl hown (hts (.constantLong RX5 162 (40)) (by decide +kernel)) dX5_unsay_3 ?_
  refine x_callS (As := [.long (lI n), .long (lI 0), .long (lI 40)]) (rest := []) ⟨hx, hb, hml, hown, hts⟩ (kX5_isIn n 0 40 (by omega) (by omega) (by omega)) (va_cwS 3 hts gX5_unsay_X5_isIn rfl rfl rfl ykSX5_isIn ⟨Nat.le_of_ble_eq_true rfl, Nat.le_of_ble_eq_true rfl⟩) hP hK hD hS [] rfl (by decide) (fun _ => rfl) (fun _ => wRo r ik tn j ++ (wA cI (r 1) 100 T ++ (wA cI (r 2) 100 K ++ (wA cI (r 3) 100 X ++ (wA cI (r 4) 100 Y ++ (wA cI (r 5) 8 (fR F) ++ (wA cI (r 6) 120 TB ++ (wA cI (r 7) 4 (bR SB) ++ (wA cI (r 8) 4 SS ++ (wA cI (r 9) 160 SN)))))))))) (fun _ => rfl) rfl hl.1 rfl (Nat.le_of_ble_eq_true rfl) dX5_unsay_6 ⟨Nat.le_of_ble_eq_true rfl, Nat.le_of_ble_eq_true rfl⟩ (fun _ H locs _ hP hD hS => ?_)
  refine W.eq (g2 := F0 m 9 ls [.int (iI (b2 (decide (0 ≤ n ∧ n ≤ 40))))]) rfl ?_
  refine x_ifb_ne (tgt := 19) hx hb dX5_unsay_9 (by decide) (fun c_9 => ?_) (fun c_9 => ?_)
  · obtain ⟨n0, rfl⟩ : ∃ n0 : Nat, n = (n0 : Int) := ⟨n.toNat, by omega⟩
    refine x_iconst hx hb dX5_unsay_19 ?_
    refine lv_istore_n (lv' := [(2, .int (iI (-1))), (0, .ref (r 0)), (1, .int (iI ((n0 : Nat) : Int)))]) hx hb dX5_unsay_20 rfl hl (by decide) rfl (fun ls hl => ?_)
    refine x_iconst hx hb dX5_unsay_21 ?_
    refine lv_istore_n (lv' := [(3, .int (iI 0)), (2, .int (iI (-1))), (0, .ref (r 0)), (1, .int (iI ((n0 : Nat) : Int)))]) hx hb dX5_unsay_22 rfl hl (by decide) rfl (fun ls hl => ?_)
    refine x_iconst hx hb dX5_unsay_23 ?_
    refine lv_istore (lv' := [(4, .int (iI 0)), (3, .int (iI 0)), (2, .int (iI (-1))), (0, .ref (r 0)), (1, .int (iI ((n0 : Nat) : Int)))]) hx hb dX5_unsay_24 hl (by decide) rfl (fun ls hl => ?_)
    have L26 : ∀ (k t : Nat) (Y1 : Tb) (jt : Nat → Int) (be : Int) (fe : Int) (bv : Int) (lv : Int) (H : Heap) (locs : List Loc) (ls : Array Slot), t + k = 6 → (run (beS (fun (i : Nat) => alF (dsF 0 n0 (va_up T (4 + i) 0))) (fun (_ : Nat) => true) (fun (i : Nat) => (i : Int))) k t (bv, lv) = beF (fun (i : Nat) => alF (dsF 0 n0 (va_up T (4 + i) 0))) (fun (_ : Nat) => true) (fun (i : Nat) => (i : Int)) 6 (0, 1000000)) → ((be = -1 ∧ lv = 1000000 ∧ t = 0) ∨ (be = bv ∧ fe = lv ∧ 0 ≤ lv ∧ lv ≤ 47952 ∧ 0 ≤ be ∧ be ≤ 8)) → va_P D vwCl (wRo r ik tn jt ++ (wA cI (r 1) 100 T ++ (wA cI (r 2) 100 K ++ (wA cI (r 3) 100 X ++ (wA cI (r 4) 100 Y1 ++ (wA cI (r 5) 8 (fR F) ++ (wA cI (r 6) 120 TB ++ (wA cI (r 7) 4 (bR SB) ++ (wA cI (r 8) 4 SS ++ (wA cI (r 9) 160 SN)))))))))) H → va_D A (wRo r ik tn jt ++ (wA cI (r 1) 100 T ++ (wA cI (r 2) 100 K ++ (wA cI (r 3) 100 X ++ (wA cI (r 4) 100 Y1 ++ (wA cI (r 5) 8 (fR F) ++ (wA cI (r 6) 120 TB ++ (wA cI (r 7) 4 (bR SB) ++ (wA cI (r 8) 4 SS ++ (wA cI (r 9) 160 SN)))))))))) → va_S A s.heap H locs → lv_has ls 8 [(0, .ref (r 0)), (1, .int (iI ((n0 : Nat) : Int))), (2, .int (iI be)), (3, .int (iI fe)), (4, .int (iI ((t : Nat) : Int)))] → W pg l e { frames := 7, cells := 0, slots := 0, locals := 155 } s m args below meth c H locs 0 0 Q (F0 m 26 ls []) := by
      intro k
      induction k with
      | zero =>
        intro t Y1 jt be fe bv lv H locs ls hkt hr hq hP hD hS hl
        refine lv_iload hx hb dX5_unsay_26 (lv_at hl 4 rfl) ?_
        refine x_bipush hx hb dX5_unsay_28 (by decide) ?_
        refine x_icmp_ge (tgt := 109) hx hb (by omega) (by decide) dX5_unsay_30 (by decide) (fun c_30 => ?_) (fun c_30 => ?_)
        · refine lv_iload_n hx hb dX5_unsay_109 rfl (lv_at hl 2 rfl) ?_
          exact kend ((be, T, K, ik, SB, SS, SN, tn, TB, F), X, Y1, jt) hP hS rfl (by unfold m_unsay; rw [if_pos (by omega)]; simp only [Int.toNat_natCast]; rw [← hr, show be = bv by omega] <;> rfl) dX5_unsay_110
        · exfalso; omega
      | succ k ih =>
        intro t Y1 jt be fe bv lv H locs ls hkt hr hq hP hD hS hl
        refine lv_iload hx hb dX5_unsay_26 (lv_at hl 4 rfl) ?_
        refine x_bipush hx hb dX5_unsay_28 (by decide) ?_
        refine x_icmp_ge (tgt := 109) hx hb (by omega) (by decide) dX5_unsay_30 (by decide) (fun c_30 => ?_) (fun c_30 => ?_)
        · exfalso; omega
        · refine lv_aload_n hx hb dX5_unsay_33 rfl (lv_at hl 0 rfl) ?_
          refine x_iconst hx hb dX5_unsay_34 ?_
          refine lv_iload hx hb dX5_unsay_35 (lv_at hl 4 rfl) ?_
          refine x_iadd hx hb dX5_unsay_37 ?_
          refine x_topi ((4 + t : Nat) : Int) (by omega) ?_
          refine x_iconst hx hb dX5_unsay_38 ?_
          refine x_callV (As := [.int (iI ((4 + t : Nat) : Int)), .int (iI 0)]) (rest := []) ⟨hx, hb, hml, hown, hts⟩ (kX5_becomes r ik tn jt T (4 + t) 0 (by omega)) (cwV 2 hts gX5_unsay_X5_becomes rfl rfl rfl ykVX5_becomes ⟨Nat.le_of_ble_eq_true rfl, Nat.le_of_ble_eq_true rfl⟩) hP hK hD hS 0 4 rfl rfl rfl [0, 1] rfl (by decide) (fun _ => rfl) (fun _ => wRo r ik tn jt ++ (wA cI (r 1) 100 (va_up T (4 + t) 0) ++ (wA cI (r 2) 100 K ++ (wA cI (r 3) 100 X ++ (wA cI (r 4) 100 Y1 ++ (wA cI (r 5) 8 (fR F) ++ (wA cI (r 6) 120 TB ++ (wA cI (r 7) 4 (bR SB) ++ (wA cI (r 8) 4 SS ++ (wA cI (r 9) 160 SN)))))))))) (fun _ => rfl) rfl hl.1 rfl (Nat.le_of_ble_eq_true rfl) dX5_unsay_39 ⟨Nat.le_of_ble_eq_true rfl, Nat.le_of_ble_eq_true rfl⟩ (fun _ H locs _ hP hD hS => ?_)
          refine W.eq (g2 := F0 m 42 ls [.int (iI (T (4 + t)))]) rfl ?_
          refine lv_istore (lv' := [(5, .int (iI (T (4 + t)))), (0, .ref (r 0)), (1, .int (iI ((n0 : Nat) : Int))), (2, .int (iI be)), (3, .int (iI fe)), (4, .int (iI ((t : Nat) : Int)))]) hx hb dX5_unsay_42 hl (by decide) rfl (fun ls hl => ?_)
          have iS : Inv B (va_up T (4 + t) 0) := Inv_li hI (by omega) (by decide)
          have nS : va_up T (4 + t) 0 0 = T 0 := up_n _ _ (by omega)
          refine lv_aload_n hx hb dX5_unsay_44 rfl (lv_at hl 1 rfl) ?_
          refine lv_iload_n hx hb dX5_unsay_45 rfl (lv_at hl 2 rfl) ?_
          refine x_callV (As := [.int (iI ((n0 : Nat) : Int))]) (rest := []) ⟨hx, hb, hml, hown, hts⟩ (kX5_leftThen r ik tn jt (va_up T (4 + t) 0) Y1 n0 B iS (by omega) (by omega)) (cwV 1 hts gX5_unsay_X5_leftThen rfl rfl rfl ykVX5_leftThen ⟨Nat.le_of_ble_eq_true rfl, Nat.le_of_ble_eq_true rfl⟩) hP hK hD hS 0 4 rfl rfl rfl [0, 1, 4] rfl (by decide) (fun _ => rfl) (fun u => wRo r ik tn u ++ (wA cI (r 1) 100 (va_up T (4 + t) 0) ++ (wA cI (r 2) 100 K ++ (wA cI (r 3) 100 X ++ (wA cI (r 4) 100 (va_up T (4 + t) 0) ++ (wA cI (r 5) 8 (fR F) ++ (wA cI (r 6) 120 TB ++ (wA cI (r 7) 4 (bR SB) ++ (wA cI (r 8) 4 SS ++ (wA cI (r 9) 160 SN)))))))))) (fun _ => rfl) rfl hl.1 rfl (Nat.le_of_ble_eq_true rfl) dX5_unsay_46 ⟨Nat.le_of_ble_eq_true rfl, Nat.le_of_ble_eq_true rfl⟩ (fun u2 H locs hp3 hP hD hS => ?_)
          obtain ⟨j11, rfl⟩ : ∃ z, z = u2 := ⟨_, rfl⟩
          have hP : va_P D vwCl (wRo r ik tn j11 ++ (wA cI (r 1) 100 (va_up T (4 + t) 0) ++ (wA cI (r 2) 100 K ++ (wA cI (r 3) 100 X ++ (wA cI (r 4) 100 (va_up T (4 + t) 0) ++ (wA cI (r 5) 8 (fR F) ++ (wA cI (r 6) 120 TB ++ (wA cI (r 7) 4 (bR SB) ++ (wA cI (r 8) 4 SS ++ (wA cI (r 9) 160 SN)))))))))) H := hP
          have hD : va_D A (wRo r ik tn j11 ++ (wA cI (r 1) 100 (va_up T (4 + t) 0) ++ (wA cI (r 2) 100 K ++ (wA cI (r 3) 100 X ++ (wA cI (r 4) 100 (va_up T (4 + t) 0) ++ (wA cI (r 5) 8 (fR F) ++ (wA cI (r 6) 120 TB ++ (wA cI (r 7) 4 (bR SB) ++ (wA cI (r 8) 4 SS ++ (wA cI (r 9) 160 SN)))))))))) := hD
          refine W.eq (g2 := F0 m 49 ls [.int (iI (alF (dsF 0 n0 (va_up T (4 + t) 0))))]) rfl ?_
          have aV := al_b (dsF_I (m := 0) n0 iS).1
          refine lv_istore (lv' := [(6, .int (iI (alF (dsF 0 n0 (va_up T (4 + t) 0))))), (5, .int (iI (T (4 + t)))), (0, .ref (r 0)), (1, .int (iI ((n0 : Nat) : Int))), (2, .int (iI be)), (3, .int (iI fe)), (4, .int (iI ((t : Nat) : Int)))]) hx hb dX5_unsay_49 hl (by decide) rfl (fun ls hl => ?_)
          refine lv_aload_n hx hb dX5_unsay_51 rfl (lv_at hl 2 rfl) ?_
          refine va_get (D := D) (ci := 4) (v := .ref (r 1)) (C := RX5) (T := TX5) (N := 18) hx hb hts (iT_X5_unsay_X5) hown hK hP 0 rfl rfl 0 (by decide) (hts (.fieldLink RX5 7 "WordSupperModel" "s" "[I") (by decide +kernel)) (fun _ h9 => h9) rfl dX5_unsay_52 ?_
          refine x_iconst hx hb dX5_unsay_55 ?_
          refine lv_iload hx hb dX5_unsay_56 (lv_at hl 6 rfl) ?_
          refine x_iadd hx hb dX5_unsay_58 ?_
          refine x_topi ((4 + t : Nat) : Int) (by omega) ?_
          refine lv_iload hx hb dX5_unsay_59 (lv_at hl 1 rfl) ?_
          refine x_iast hx hb hK hP hD hS 1 0 rfl rfl (4 + t) rfl (by omega) (by decide) (wRo r ik tn j11 ++ (wA cI (r 1) 100 (va_up (va_up T (4 + t) 0) (4 + t) (T (4 + t))) ++ (wA cI (r 2) 100 K ++ (wA cI (r 3) 100 X ++ (wA cI (r 4) 100 (va_up T (4 + t) 0) ++ (wA cI (r 5) 8 (fR F) ++ (wA cI (r 6) 120 TB ++ (wA cI (r 7) 4 (bR SB) ++ (wA cI (r 8) 4 SS ++ (wA cI (r 9) 160 SN)))))))))) (by rw [← wA_up cI (r 1) 100 (va_up T (4 + t) 0) (T (4 + t)) (4 + t) (by omega)]; rfl) dX5_unsay_61 (fun H locs hP hD hS => ?_)
          rw [up_back] at hP hD
          refine lv_iload_n hx hb dX5_unsay_62 rfl (lv_at hl 4 rfl) ?_
          refine x_if_lt (tgt := 72) hx hb (by omega) dX5_unsay_63 (by decide) (fun c_63 => ?_) (fun c_63 => ?_)
          · refine x_iconst hx hb dX5_unsay_72 ?_
            refine lv_goto (tgt := 77) hx hb dX5_unsay_73 (by decide) ?_
            refine lv_istore (lv' := [(7, .int (iI 1)), (6, .int (iI (alF (dsF 0 n0 (va_up T (4 + t) 0))))), (5, .int (iI (T (4 + t)))), (0, .ref (r 0)), (1, .int (iI ((n0 : Nat) : Int))), (2, .int (iI be)), (3, .int (iI fe)), (4, .int (iI ((t : Nat) : Int)))]) hx hb dX5_unsay_77 hl (by decide) rfl (fun ls hl => ?_)
            refine lv_iload hx hb dX5_unsay_79 (lv_at hl 0 rfl) ?_
            refine x_if_eq (tgt := 89) hx hb (by decide) dX5_unsay_81 (by decide) (fun c_81 => ?_) (fun c_81 => ?_)
            · exact absurd c_81 (by decide)
            · refine lv_iload hx hb dX5_unsay_84 (lv_at hl 7 rfl) ?_
              refine lv_goto (tgt := 90) hx hb dX5_unsay_86 (by decide) ?_
              refine lv_istore_n (lv' := [(2, .int (iI ((t : Nat) : Int))), (7, .int (iI 1)), (6, .int (iI (alF (dsF 0 n0 (va_up T (4 + t) 0))))), (5, .int (iI (T (4 + t)))), (0, .ref (r 0)), (1, .int (iI ((n0 : Nat) : Int))), (3, .int (iI fe)), (4, .int (iI ((t : Nat) : Int)))]) hx hb dX5_unsay_90 rfl hl (by decide) rfl (fun ls hl => ?_)
              refine lv_iload hx hb dX5_unsay_91 (lv_at hl 1 rfl) ?_
              refine x_if_eq (tgt := 101) hx hb (by decide) dX5_unsay_93 (by decide) (fun c_93 => ?_) (fun c_93 => ?_)
              · exact absurd c_93 (by decide)
              · refine lv_iload hx hb dX5_unsay_96 (lv_at hl 2 rfl) ?_
                refine lv_goto (tgt := 102) hx hb dX5_unsay_98 (by decide) ?_
                refine lv_istore_n (lv' := [(3, .int (iI (alF (dsF 0 n0 (va_up T (4 + t) 0))))), (2, .int (iI ((t : Nat) : Int))), (7, .int (iI 1)), (6, .int (iI (alF (dsF 0 n0 (va_up T (4 + t) 0))))), (5, .int (iI (T (4 + t)))), (0, .ref (r 0)), (1, .int (iI ((n0 : Nat) : Int))), (4, .int (iI ((t : Nat) : Int)))]) hx hb dX5_unsay_102 rfl hl (by decide) rfl (fun ls hl => ?_)
                refine x_iinc hx hb 7 ((t + 1 : Nat) : Int) (by omega) [(4, .int (iI ((t + 1 : Nat) : Int))), (3, .int (iI (alF (dsF 0 n0 (va_up T (4 + t) 0))))), (2, .int (iI ((t : Nat) : Int))), (7, .int (iI 1)), (6, .int (iI (alF (dsF 0 n0 (va_up T (4 + t) 0))))), (5, .int (iI (T (4 + t)))), (0, .ref (r 0)), (1, .int (iI ((n0 : Nat) : Int)))] dX5_unsay_103 hl rfl (by decide) rfl (fun ls hl => ?_)
                refine lv_goto (tgt := 26) hx hb dX5_unsay_106 (by decide) ?_
                exact ih (t + 1) (va_up T (4 + t) 0) j11 ((t : Nat) : Int) (alF (dsF 0 n0 (va_up T (4 + t) 0))) ((t : Nat) : Int) (alF (dsF 0 n0 (va_up T (4 + t) 0))) _ _ _ (by omega) (run_step hr (beS_t (a := ((t : Nat) : Int)) (b := alF (dsF 0 n0 (va_up T (4 + t) 0))) rfl rfl rfl (by (try dsimp only); omega))) (by omega) hP hD hS (lv_sub hl [6, 7, 2, 1, 0] rfl)
          · refine lv_iload hx hb dX5_unsay_66 (lv_at hl 0 rfl) ?_
            refine lv_iload_n hx hb dX5_unsay_68 rfl (lv_at hl 5 rfl) ?_
            refine x_icmp_ge (tgt := 76) hx hb (by omega) (by omega) dX5_unsay_69 (by decide) (fun c_69 => ?_) (fun c_69 => ?_)
            · refine x_iconst hx hb dX5_unsay_76 ?_
              refine lv_istore (lv' := [(7, .int (iI 0)), (6, .int (iI (alF (dsF 0 n0 (va_up T (4 + t) 0))))), (5, .int (iI (T (4 + t)))), (0, .ref (r 0)), (1, .int (iI ((n0 : Nat) : Int))), (2, .int (iI be)), (3, .int (iI fe)), (4, .int (iI ((t : Nat) : Int)))]) hx hb dX5_unsay_77 hl (by decide) rfl (fun ls hl => ?_)
              refine lv_iload hx hb dX5_unsay_79 (lv_at hl 0 rfl) ?_
              refine x_if_eq (tgt := 89) hx hb (by decide) dX5_unsay_81 (by decide) (fun c_81 => ?_) (fun c_81 => ?_)
              · refine lv_iload_n hx hb dX5_unsay_89 rfl (lv_at hl 5 rfl) ?_
                refine lv_istore_n (lv' := [(2, .int (iI be)), (7, .int (iI 0)), (6, .int (iI (alF (dsF 0 n0 (va_up T (4 + t) 0))))), (5, .int (iI (T (4 + t)))), (0, .ref (r 0)), (1, .int (iI ((n0 : Nat) : Int))), (3, .int (iI fe)), (4, .int (iI ((t : Nat) : Int)))]) hx hb dX5_unsay_90 rfl hl (by decide) rfl (fun ls hl => ?_)
                refine lv_iload hx hb dX5_unsay_91 (lv_at hl 1 rfl) ?_
                refine x_if_eq (tgt := 101) hx hb (by decide) dX5_unsay_93 (by decide) (fun c_93 => ?_) (fun c_93 => ?_)
                · refine lv_iload_n hx hb dX5_unsay_101 rfl (lv_at hl 6 rfl) ?_
                  refine lv_istore_n (lv' := [(3, .int (iI fe)), (2, .int (iI be)), (7, .int (iI 0)), (6, .int (iI (alF (dsF 0 n0 (va_up T (4 + t) 0))))), (5, .int (iI (T (4 + t)))), (0, .ref (r 0)), (1, .int (iI ((n0 : Nat) : Int))), (4, .int (iI ((t : Nat) : Int)))]) hx hb dX5_unsay_102 rfl hl (by decide) rfl (fun ls hl => ?_)
                  refine x_iinc hx hb 7 ((t + 1 : Nat) : Int) (by omega) [(4, .int (iI ((t + 1 : Nat) : Int))), (3, .int (iI fe)), (2, .int (iI be)), (7, .int (iI 0)), (6, .int (iI (alF (dsF 0 n0 (va_up T (4 + t) 0))))), (5, .int (iI (T (4 + t)))), (0, .ref (r 0)), (1, .int (iI ((n0 : Nat) : Int)))] dX5_unsay_103 hl rfl (by decide) rfl (fun ls hl => ?_)
                  refine lv_goto (tgt := 26) hx hb dX5_unsay_106 (by decide) ?_
                  exact ih (t + 1) (va_up T (4 + t) 0) j11 be fe bv lv _ _ _ (by omega) (run_step hr (beS_n (b := alF (dsF 0 n0 (va_up T (4 + t) 0))) rfl (by (try dsimp only); omega))) (by omega) hP hD hS (lv_sub hl [6, 7, 2, 1, 0] rfl)
                · exact absurd c_93 (by decide)
              · exact absurd c_81 (by decide)
            · refine x_iconst hx hb dX5_unsay_72 ?_
              refine lv_goto (tgt := 77) hx hb dX5_unsay_73 (by decide) ?_
              refine lv_istore (lv' := [(7, .int (iI 1)), (6, .int (iI (alF (dsF 0 n0 (va_up T (4 + t) 0))))), (5, .int (iI (T (4 + t)))), (0, .ref (r 0)), (1, .int (iI ((n0 : Nat) : Int))), (2, .int (iI be)), (3, .int (iI fe)), (4, .int (iI ((t : Nat) : Int)))]) hx hb dX5_unsay_77 hl (by decide) rfl (fun ls hl => ?_)
              refine lv_iload hx hb dX5_unsay_79 (lv_at hl 0 rfl) ?_
              refine x_if_eq (tgt := 89) hx hb (by decide) dX5_unsay_81 (by decide) (fun c_81 => ?_) (fun c_81 => ?_)
              · exact absurd c_81 (by decide)
              · refine lv_iload hx hb dX5_unsay_84 (lv_at hl 7 rfl) ?_
                refine lv_goto (tgt := 90) hx hb dX5_unsay_86 (by decide) ?_
                refine lv_istore_n (lv' := [(2, .int (iI ((t : Nat) : Int))), (7, .int (iI 1)), (6, .int (iI (alF (dsF 0 n0 (va_up T (4 + t) 0))))), (5, .int (iI (T (4 + t)))), (0, .ref (r 0)), (1, .int (iI ((n0 : Nat) : Int))), (3, .int (iI fe)), (4, .int (iI ((t : Nat) : Int)))]) hx hb dX5_unsay_90 rfl hl (by decide) rfl (fun ls hl => ?_)
                refine lv_iload hx hb dX5_unsay_91 (lv_at hl 1 rfl) ?_
                refine x_if_eq (tgt := 101) hx hb (by decide) dX5_unsay_93 (by decide) (fun c_93 => ?_) (fun c_93 => ?_)
                · exact absurd c_93 (by decide)
                · refine lv_iload hx hb dX5_unsay_96 (lv_at hl 2 rfl) ?_
                  refine lv_goto (tgt := 102) hx hb dX5_unsay_98 (by decide) ?_
                  refine lv_istore_n (lv' := [(3, .int (iI (alF (dsF 0 n0 (va_up T (4 + t) 0))))), (2, .int (iI ((t : Nat) : Int))), (7, .int (iI 1)), (6, .int (iI (alF (dsF 0 n0 (va_up T (4 + t) 0))))), (5, .int (iI (T (4 + t)))), (0, .ref (r 0)), (1, .int (iI ((n0 : Nat) : Int))), (4, .int (iI ((t : Nat) : Int)))]) hx hb dX5_unsay_102 rfl hl (by decide) rfl (fun ls hl => ?_)
                  refine x_iinc hx hb 7 ((t + 1 : Nat) : Int) (by omega) [(4, .int (iI ((t + 1 : Nat) : Int))), (3, .int (iI (alF (dsF 0 n0 (va_up T (4 + t) 0))))), (2, .int (iI ((t : Nat) : Int))), (7, .int (iI 1)), (6, .int (iI (alF (dsF 0 n0 (va_up T (4 + t) 0))))), (5, .int (iI (T (4 + t)))), (0, .ref (r 0)), (1, .int (iI ((n0 : Nat) : Int)))] dX5_unsay_103 hl rfl (by decide) rfl (fun ls hl => ?_)
                  refine lv_goto (tgt := 26) hx hb dX5_unsay_106 (by decide) ?_
                  exact ih (t + 1) (va_up T (4 + t) 0) j11 ((t : Nat) : Int) (alF (dsF 0 n0 (va_up T (4 + t) 0))) ((t : Nat) : Int) (alF (dsF 0 n0 (va_up T (4 + t) 0))) _ _ _ (by omega) (run_step hr (beS_t (a := ((t : Nat) : Int)) (b := alF (dsF 0 n0 (va_up T (4 + t) 0))) rfl rfl rfl (by (try dsimp only); omega))) (by omega) hP hD hS (lv_sub hl [6, 7, 2, 1, 0] rfl)
    exact L26 6 0 Y j (-1) 0 0 1000000 _ _ _ (by omega) rfl (by omega) hP hD hS (lv_sub hl [3, 4, 2, 1, 0] rfl)
  · refine lv_aload_n hx hb dX5_unsay_12 rfl (lv_at hl 0 rfl) ?_
    refine x_ldc hx hb (-1000001) rfl hown (hts (.constant RX5 37 (-1000001)) (by decide +kernel)) dX5_unsay_13 ?_
    refine x_callV (As := [.int (iI (-1000001))]) (rest := []) ⟨hx, hb, hml, hown, hts⟩ (kX5_finds r ik tn j F (-1000001) 0 (by omega) (by omega)) (cwV 1 hts gX5_unsay_X5_finds rfl rfl rfl ykVX5_finds ⟨Nat.le_of_ble_eq_true rfl, Nat.le_of_ble_eq_true rfl⟩) hP hK hD hS 0 4 rfl rfl rfl [0, 5] rfl (by decide) (fun _ => rfl) (fun _ => wRo r ik tn j ++ (wA cI (r 1) 100 T ++ (wA cI (r 2) 100 K ++ (wA cI (r 3) 100 X ++ (wA cI (r 4) 100 Y ++ (wA cI (r 5) 8 (fR (bmp 0 F)) ++ (wA cI (r 6) 120 TB ++ (wA cI (r 7) 4 (bR SB) ++ (wA cI (r 8) 4 SS ++ (wA cI (r 9) 160 SN)))))))))) (fun _ => rfl) rfl hl.1 rfl (Nat.le_of_ble_eq_true rfl) dX5_unsay_15 ⟨Nat.le_of_ble_eq_true rfl, Nat.le_of_ble_eq_true rfl⟩ (fun _ H locs _ hP hD hS => ?_)
    refine W.eq (g2 := F0 m 18 ls [.int (iI (-1000001))]) rfl ?_
    exact kend (((-1000001), T, K, ik, SB, SS, SN, tn, TB, (bmp 0 F)), X, Y, j) hP hS rfl (if_neg (by omega)).symm dX5_unsay_18
theorem ykSX5_vinegarFor : yX5_vinegarFor.cls ≠ "java/lang/invoke/MethodHandle" ∧ yX5_vinegarFor.cls ≠ "java/lang/invoke/VarHandle" ∧ (parseMethodDescriptor yX5_vinegarFor.desc).map (fun d => d.parameters.length) = some 2 := by decide +kernel
theorem ykVX5_vinegarFor : yX5_vinegarFor.cls = RX5 ∧ yX5_vinegarFor.cls ≠ "java/lang/invoke/MethodHandle" ∧ yX5_vinegarFor.cls ≠ "java/lang/invoke/VarHandle" ∧ (parseMethodDescriptor yX5_vinegarFor.desc).map (fun d => d.parameters.length) = some 2 := ⟨rfl, ykSX5_vinegarFor⟩
set_option maxRecDepth 20000 in
theorem iT_X5_vinegarFor_X5 : ∀ w ∈ u_ws RX5 TX5 18, w ∈ wsX5_vinegarFor := by decide +kernel
set_option maxHeartbeats 4000000 in
set_option maxRecDepth 100000 in
theorem kX5_vinegarFor {l : Launch} {D : va_G} {cI cB : ClassId} (r : Nat → Nat) (T K : Tb) (ik : Int) (SB SS SN : Nat → Int) (tn : Int) (TB F : Nat → Int) (X Y : Tb) (j : Nat → Int) (sp n : Int) (B : Int) (hG : GI B T K ik SB SS SN tn TB F) (hB : B ≤ 40000) (h_sp : rI sp) (h_n : rI n) : Ct l yX5_vinegarFor wsX5_vinegarFor 7 157 D [(cI, .int), (cB, .byte)] [.ref (r 0), .int (iI sp), .int (iI n)] (wM cI r (T, K, ik, SB, SS, SN, tn, TB, F) X Y j) (S := (Int × Gs) × Tb × Tb × (Nat → Int)) (fun u => some (.int (iI u.1.1))) (fun u => u.1 = m_vinegarFor sp n T K ik SB SS SN tn TB F) (fun u => wM cI r u.1.2 u.2.1 u.2.2.1 u.2.2.2) := by
  refine CtI.of (cc := cX5_vinegarFor) (maxL := 6) (by decide +kernel) rfl (Nat.le_of_ble_eq_true rfl) ?_
  intro pg e s m args below meth c Q A hx hb hml hts hown hP hK hD hS ls hl kend
  have hown : s.vm.findClass RX5 = some m.cls := hown
  have hl : lv_has ls 6 [(0, .ref (r 0)), (1, .int (iI sp)), (2, .int (iI n))] := hl
  obtain ⟨hI, hIK, hik, hSB, hSS, hSN, htn, hTB, hF⟩ := id hG
  have hn := Inv_n hI
  have hdy := Inv_d hI
  have hP : va_P D vwCl (wRo r ik tn j ++ (wA cI (r 1) 100 T ++ (wA cI (r 2) 100 K ++ (wA cI (r 3) 100 X ++ (wA cI (r 4) 100 Y ++ (wA cI (r 5) 8 (fR F) ++ (wA cI (r 6) 120 TB ++ (wA cI (r 7) 4 (bR SB) ++ (wA cI (r 8) 4 SS ++ (wA cI (r 9) 160 SN)))))))))) s.heap := hP
  have hD : va_D A (wRo r ik tn j ++ (wA cI (r 1) 100 T ++ (wA cI (r 2) 100 K ++ (wA cI (r 3) 100 X ++ (wA cI (r 4) 100 Y ++ (wA cI (r 5) 8 (fR F) ++ (wA cI (r 6) 120 TB ++ (wA cI (r 7) 4 (bR SB) ++ (wA cI (r 8) 4 SS ++ (wA cI (r 9) 160 SN)))))))))) := hD
  refine lv_aload_n hx hb dX5_vinegarFor_0 rfl (lv_at hl 0 rfl) ?_
  refine lv_iload_n hx hb dX5_vinegarFor_1 rfl (lv_at hl 1 rfl) ?_
  refine lv_iload_n hx hb dX5_vinegarFor_2 rfl (lv_at hl 2 rfl) ?_
  refine x_callV (As := [.int (iI sp), .int (iI n)]) (rest := []) ⟨hx, hb, hml, hown, hts⟩ (kX5_isAsked r ik tn j T sp n (by omega) (by omega) (by omega)) (cwV 2 hts gX5_vinegarFor_X5_isAsked rfl rfl rfl ykVX5_isAsked ⟨Nat.le_of_ble_eq_true rfl, Nat.le_of_ble_eq_true rfl⟩) hP hK hD hS 0 4 rfl rfl rfl [0, 1] rfl (by decide) (fun _ => rfl) (fun _ => wRo r ik tn j ++ (wA cI (r 1) 100 T ++ (wA cI (r 2) 100 K ++ (wA cI (r 3) 100 X ++ (wA cI (r 4) 100 Y ++ (wA cI (r 5) 8 (fR F) ++ (wA cI (r 6) 120 TB ++ (wA cI (r 7) 4 (bR SB) ++ (wA cI (r 8) 4 SS ++ (wA cI (r 9) 160 SN)))))))))) (fun _ => rfl) rfl hl.1 rfl (Nat.le_of_ble_eq_true rfl) dX5_vinegarFor_3 ⟨Nat.le_of_ble_eq_true rfl, Nat.le_of_ble_eq_true rfl⟩ (fun _ H locs _ hP hD hS => ?_)
  refine W.eq (g2 := F0 m 6 ls [.int (iI (b2 (decide ((0 ≤ sp ∧ sp < T 0) ∧ (0 ≤ n ∧ n ≤ 40)))))]) rfl ?_
  refine x_ifb_ne (tgt := 16) hx hb dX5_vinegarFor_6 (by decide) (fun c_6 => ?_) (fun c_6 => ?_)
  · obtain ⟨p0, rfl⟩ : ∃ p0 : Nat, sp = (p0 : Int) := ⟨sp.toNat, by omega⟩
    obtain ⟨n0, rfl⟩ : ∃ n0 : Nat, n = (n0 : Int) := ⟨n.toNat, by omega⟩
    refine lv_aload_n hx hb dX5_vinegarFor_16 rfl (lv_at hl 0 rfl) ?_
    refine va_get (D := D) (ci := 4) (v := .ref (r 1)) (C := RX5) (T := TX5) (N := 18) hx hb hts (iT_X5_vinegarFor_X5) hown hK hP 0 rfl rfl 0 (by decide) (hts (.fieldLink RX5 7 "WordSupperModel" "s" "[I") (by decide +kernel)) (fun _ h9 => h9) rfl dX5_vinegarFor_17 ?_
    refine x_iconst hx hb dX5_vinegarFor_20 ?_
    refine x_iald hx hb hK hP 1 0 rfl rfl 3 rfl (by omega) (by decide) (T 3) (gd_at _ (by omega)) dX5_vinegarFor_21 ?_
    refine lv_istore_n (lv' := [(3, .int (iI (T 3))), (0, .ref (r 0)), (1, .int (iI ((p0 : Nat) : Int))), (2, .int (iI ((n0 : Nat) : Int)))]) hx hb dX5_vinegarFor_22 rfl hl (by decide) rfl (fun ls hl => ?_)
    refine x_iconst hx hb dX5_vinegarFor_23 ?_
    refine lv_istore (lv' := [(4, .int (iI (-1))), (3, .int (iI (T 3))), (0, .ref (r 0)), (1, .int (iI ((p0 : Nat) : Int))), (2, .int (iI ((n0 : Nat) : Int)))]) hx hb dX5_vinegarFor_24 hl (by decide) rfl (fun ls hl => ?_)
    refine x_bipush hx hb dX5_vinegarFor_26 (by decide) ?_
    refine lv_istore (lv' := [(5, .int (iI 9)), (4, .int (iI (-1))), (3, .int (iI (T 3))), (0, .ref (r 0)), (1, .int (iI ((p0 : Nat) : Int))), (2, .int (iI ((n0 : Nat) : Int)))]) hx hb dX5_vinegarFor_28 hl (by decide) rfl (fun ls hl => ?_)
    have hlvp := Inv_v hI
    have L30 : ∀ (k t : Nat) (Tt : Tb) (Y1 : Tb) (jt : Nat → Int) (be : Int) (H : Heap) (locs : List Loc) (ls : Array Slot), t + k = 10 → (∀ v : Int, va_up Tt 3 v = va_up T 3 v) → (Tt 0 = T 0) → ((be = -1 ∧ viF n0 p0 T k = viF n0 p0 T 10) ∨ (0 ≤ be ∧ be ≤ 9 ∧ viF n0 p0 T 10 = be)) → va_P D vwCl (wRo r ik tn jt ++ (wA cI (r 1) 100 Tt ++ (wA cI (r 2) 100 K ++ (wA cI (r 3) 100 X ++ (wA cI (r 4) 100 Y1 ++ (wA cI (r 5) 8 (fR F) ++ (wA cI (r 6) 120 TB ++ (wA cI (r 7) 4 (bR SB) ++ (wA cI (r 8) 4 SS ++ (wA cI (r 9) 160 SN)))))))))) H → va_D A (wRo r ik tn jt ++ (wA cI (r 1) 100 Tt ++ (wA cI (r 2) 100 K ++ (wA cI (r 3) 100 X ++ (wA cI (r 4) 100 Y1 ++ (wA cI (r 5) 8 (fR F) ++ (wA cI (r 6) 120 TB ++ (wA cI (r 7) 4 (bR SB) ++ (wA cI (r 8) 4 SS ++ (wA cI (r 9) 160 SN)))))))))) → va_S A s.heap H locs → lv_has ls 6 [(0, .ref (r 0)), (1, .int (iI ((p0 : Nat) : Int))), (2, .int (iI ((n0 : Nat) : Int))), (3, .int (iI (T 3))), (4, .int (iI be)), (5, .int (iI (((k : Nat) : Int) - 1)))] → W pg l e { frames := 7, cells := 0, slots := 0, locals := 157 } s m args below meth c H locs 0 0 Q (F0 m 30 ls []) := by
      intro k
      induction k with
      | zero =>
        intro t Tt Y1 jt be H locs ls hkt hT h0 hq hP hD hS hl
        have hlvp := Inv_v hI
        refine lv_iload hx hb dX5_vinegarFor_30 (lv_at hl 5 rfl) ?_
        refine x_if_lt (tgt := 72) hx hb (by omega) dX5_vinegarFor_32 (by decide) (fun c_32 => ?_) (fun c_32 => ?_)
        · refine lv_aload_n hx hb dX5_vinegarFor_72 rfl (lv_at hl 0 rfl) ?_
          refine va_get (D := D) (ci := 4) (v := .ref (r 1)) (C := RX5) (T := TX5) (N := 18) hx hb hts (iT_X5_vinegarFor_X5) hown hK hP 0 rfl rfl 0 (by decide) (hts (.fieldLink RX5 7 "WordSupperModel" "s" "[I") (by decide +kernel)) (fun _ h9 => h9) rfl dX5_vinegarFor_73 ?_
          refine x_iconst hx hb dX5_vinegarFor_76 ?_
          refine lv_iload_n hx hb dX5_vinegarFor_77 rfl (lv_at hl 3 rfl) ?_
          refine x_iast hx hb hK hP hD hS 1 0 rfl rfl 3 rfl (by omega) (by decide) (wRo r ik tn jt ++ (wA cI (r 1) 100 (va_up Tt 3 (T 3)) ++ (wA cI (r 2) 100 K ++ (wA cI (r 3) 100 X ++ (wA cI (r 4) 100 Y1 ++ (wA cI (r 5) 8 (fR F) ++ (wA cI (r 6) 120 TB ++ (wA cI (r 7) 4 (bR SB) ++ (wA cI (r 8) 4 SS ++ (wA cI (r 9) 160 SN)))))))))) (by rw [← wA_up cI (r 1) 100 Tt (T 3) 3 (by omega)]; rfl) dX5_vinegarFor_78 (fun H locs hP hD hS => ?_)
          rw [hT, up_id] at hP hD
          have e_b : viF n0 p0 T 10 = be := hq.elim (fun q9 => q9.2.symm.trans q9.1.symm) (fun q9 => q9.2.2)
          refine lv_aload_n hx hb dX5_vinegarFor_79 rfl (lv_at hl 0 rfl) ?_
          refine lv_iload hx hb dX5_vinegarFor_80 (lv_at hl 4 rfl) ?_
          refine x_callV (As := [.int (iI be)]) (rest := []) ⟨hx, hb, hml, hown, hts⟩ (kX5_orNone r ik tn jt F be (by omega)) (cwV 1 hts gX5_vinegarFor_X5_orNone rfl rfl rfl ykVX5_orNone ⟨Nat.le_of_ble_eq_true rfl, Nat.le_of_ble_eq_true rfl⟩) hP hK hD hS 0 4 rfl rfl rfl [0, 5] rfl (by decide) (fun _ => rfl) (fun u => wRo r ik tn jt ++ (wA cI (r 1) 100 T ++ (wA cI (r 2) 100 K ++ (wA cI (r 3) 100 X ++ (wA cI (r 4) 100 Y1 ++ (wA cI (r 5) 8 (fR u.1) ++ (wA cI (r 6) 120 TB ++ (wA cI (r 7) 4 (bR SB) ++ (wA cI (r 8) 4 SS ++ (wA cI (r 9) 160 SN)))))))))) (fun _ => rfl) rfl hl.1 rfl (Nat.le_of_ble_eq_true rfl) dX5_vinegarFor_82 ⟨Nat.le_of_ble_eq_true rfl, Nat.le_of_ble_eq_true rfl⟩ (fun u3 H locs hp4 hP hD hS => ?_)
          obtain ⟨F11, r12⟩ := u3
          replace hp4 : (r12, F11) = noF be F := hp4
          have hP : va_P D vwCl (wRo r ik tn jt ++ (wA cI (r 1) 100 T ++ (wA cI (r 2) 100 K ++ (wA cI (r 3) 100 X ++ (wA cI (r 4) 100 Y1 ++ (wA cI (r 5) 8 (fR F11) ++ (wA cI (r 6) 120 TB ++ (wA cI (r 7) 4 (bR SB) ++ (wA cI (r 8) 4 SS ++ (wA cI (r 9) 160 SN)))))))))) H := hP
          have hD : va_D A (wRo r ik tn jt ++ (wA cI (r 1) 100 T ++ (wA cI (r 2) 100 K ++ (wA cI (r 3) 100 X ++ (wA cI (r 4) 100 Y1 ++ (wA cI (r 5) 8 (fR F11) ++ (wA cI (r 6) 120 TB ++ (wA cI (r 7) 4 (bR SB) ++ (wA cI (r 8) 4 SS ++ (wA cI (r 9) 160 SN)))))))))) := hD
          refine W.eq (g2 := F0 m 85 ls [.int (iI r12)]) rfl ?_
          exact kend ((r12, T, K, ik, SB, SS, SN, tn, TB, F11), X, Y1, jt) hP hS rfl (by unfold m_vinegarFor; rw [if_pos (by omega)]; simp only [Int.toNat_natCast]; rw [e_b]; exact no_r hp4) dX5_vinegarFor_85
        · exfalso; omega
      | succ k ih =>
        intro t Tt Y1 jt be H locs ls hkt hT h0 hq hP hD hS hl
        have hlvp := Inv_v hI
        refine lv_iload hx hb dX5_vinegarFor_30 (lv_at hl 5 rfl) ?_
        refine x_if_lt (tgt := 72) hx hb (by omega) dX5_vinegarFor_32 (by decide) (fun c_32 => ?_) (fun c_32 => ?_)
        · exfalso; omega
        · refine lv_iload hx hb dX5_vinegarFor_35 (lv_at hl 4 rfl) ?_
          refine x_if_ge (tgt := 72) hx hb (by omega) dX5_vinegarFor_37 (by decide) (fun c_37 => ?_) (fun c_37 => ?_)
          · refine lv_aload_n hx hb dX5_vinegarFor_72 rfl (lv_at hl 0 rfl) ?_
            refine va_get (D := D) (ci := 4) (v := .ref (r 1)) (C := RX5) (T := TX5) (N := 18) hx hb hts (iT_X5_vinegarFor_X5) hown hK hP 0 rfl rfl 0 (by decide) (hts (.fieldLink RX5 7 "WordSupperModel" "s" "[I") (by decide +kernel)) (fun _ h9 => h9) rfl dX5_vinegarFor_73 ?_
            refine x_iconst hx hb dX5_vinegarFor_76 ?_
            refine lv_iload_n hx hb dX5_vinegarFor_77 rfl (lv_at hl 3 rfl) ?_
            refine x_iast hx hb hK hP hD hS 1 0 rfl rfl 3 rfl (by omega) (by decide) (wRo r ik tn jt ++ (wA cI (r 1) 100 (va_up Tt 3 (T 3)) ++ (wA cI (r 2) 100 K ++ (wA cI (r 3) 100 X ++ (wA cI (r 4) 100 Y1 ++ (wA cI (r 5) 8 (fR F) ++ (wA cI (r 6) 120 TB ++ (wA cI (r 7) 4 (bR SB) ++ (wA cI (r 8) 4 SS ++ (wA cI (r 9) 160 SN)))))))))) (by rw [← wA_up cI (r 1) 100 Tt (T 3) 3 (by omega)]; rfl) dX5_vinegarFor_78 (fun H locs hP hD hS => ?_)
            rw [hT, up_id] at hP hD
            have e_b : viF n0 p0 T 10 = be := hq.elim (fun q9 => by exfalso; omega) (fun q9 => q9.2.2)
            refine lv_aload_n hx hb dX5_vinegarFor_79 rfl (lv_at hl 0 rfl) ?_
            refine lv_iload hx hb dX5_vinegarFor_80 (lv_at hl 4 rfl) ?_
            refine x_callV (As := [.int (iI be)]) (rest := []) ⟨hx, hb, hml, hown, hts⟩ (kX5_orNone r ik tn jt F be (by omega)) (cwV 1 hts gX5_vinegarFor_X5_orNone rfl rfl rfl ykVX5_orNone ⟨Nat.le_of_ble_eq_true rfl, Nat.le_of_ble_eq_true rfl⟩) hP hK hD hS 0 4 rfl rfl rfl [0, 5] rfl (by decide) (fun _ => rfl) (fun u => wRo r ik tn jt ++ (wA cI (r 1) 100 T ++ (wA cI (r 2) 100 K ++ (wA cI (r 3) 100 X ++ (wA cI (r 4) 100 Y1 ++ (wA cI (r 5) 8 (fR u.1) ++ (wA cI (r 6) 120 TB ++ (wA cI (r 7) 4 (bR SB) ++ (wA cI (r 8) 4 SS ++ (wA cI (r 9) 160 SN)))))))))) (fun _ => rfl) rfl hl.1 rfl (Nat.le_of_ble_eq_true rfl) dX5_vinegarFor_82 ⟨Nat.le_of_ble_eq_true rfl, Nat.le_of_ble_eq_true rfl⟩ (fun u7 H locs hp8 hP hD hS => ?_)
            obtain ⟨F15, r16⟩ := u7
            replace hp8 : (r16, F15) = noF be F := hp8
            have hP : va_P D vwCl (wRo r ik tn jt ++ (wA cI (r 1) 100 T ++ (wA cI (r 2) 100 K ++ (wA cI (r 3) 100 X ++ (wA cI (r 4) 100 Y1 ++ (wA cI (r 5) 8 (fR F15) ++ (wA cI (r 6) 120 TB ++ (wA cI (r 7) 4 (bR SB) ++ (wA cI (r 8) 4 SS ++ (wA cI (r 9) 160 SN)))))))))) H := hP
            have hD : va_D A (wRo r ik tn jt ++ (wA cI (r 1) 100 T ++ (wA cI (r 2) 100 K ++ (wA cI (r 3) 100 X ++ (wA cI (r 4) 100 Y1 ++ (wA cI (r 5) 8 (fR F15) ++ (wA cI (r 6) 120 TB ++ (wA cI (r 7) 4 (bR SB) ++ (wA cI (r 8) 4 SS ++ (wA cI (r 9) 160 SN)))))))))) := hD
            refine W.eq (g2 := F0 m 85 ls [.int (iI r16)]) rfl ?_
            exact kend ((r16, T, K, ik, SB, SS, SN, tn, TB, F15), X, Y1, jt) hP hS rfl (by unfold m_vinegarFor; rw [if_pos (by omega)]; simp only [Int.toNat_natCast]; rw [e_b]; exact no_r hp8) dX5_vinegarFor_85
          · refine lv_aload_n hx hb dX5_vinegarFor_40 rfl (lv_at hl 0 rfl) ?_
            refine va_get (D := D) (ci := 4) (v := .ref (r 1)) (C := RX5) (T := TX5) (N := 18) hx hb hts (iT_X5_vinegarFor_X5) hown hK hP 0 rfl rfl 0 (by decide) (hts (.fieldLink RX5 7 "WordSupperModel" "s" "[I") (by decide +kernel)) (fun _ h9 => h9) rfl dX5_vinegarFor_41 ?_
            refine x_iconst hx hb dX5_vinegarFor_44 ?_
            refine lv_iload hx hb dX5_vinegarFor_45 (lv_at hl 5 rfl) ?_
            refine x_topi ((k : Nat) : Int) (by omega) ?_
            refine x_iast hx hb hK hP hD hS 1 0 rfl rfl 3 rfl (by omega) (by decide) (wRo r ik tn jt ++ (wA cI (r 1) 100 (va_up Tt 3 ((k : Nat) : Int)) ++ (wA cI (r 2) 100 K ++ (wA cI (r 3) 100 X ++ (wA cI (r 4) 100 Y1 ++ (wA cI (r 5) 8 (fR F) ++ (wA cI (r 6) 120 TB ++ (wA cI (r 7) 4 (bR SB) ++ (wA cI (r 8) 4 SS ++ (wA cI (r 9) 160 SN)))))))))) (by rw [← wA_up cI (r 1) 100 Tt ((k : Nat) : Int) 3 (by omega)]; rfl) dX5_vinegarFor_47 (fun H locs hP hD hS => ?_)
            rw [hT] at hP hD
            have iS : Inv B (va_up T 3 ((k : Nat) : Int)) := Inv_up hI (by omega) (show 0 ≤ ((k : Nat) : Int) ∧ ((k : Nat) : Int) ≤ 9 by omega)
            have nS : (va_up T 3 ((k : Nat) : Int)) 0 = T 0 := up_n _ _ (by omega)
            refine lv_aload_n hx hb dX5_vinegarFor_48 rfl (lv_at hl 0 rfl) ?_
            refine lv_iload_n hx hb dX5_vinegarFor_49 rfl (lv_at hl 1 rfl) ?_
            refine x_iconst hx hb dX5_vinegarFor_50 ?_
            refine lv_iload_n hx hb dX5_vinegarFor_51 rfl (lv_at hl 2 rfl) ?_
            refine x_callV (As := [.int (iI ((p0 : Nat) : Int)), .int (iI 5), .int (iI ((n0 : Nat) : Int))]) (rest := []) ⟨hx, hb, hml, hown, hts⟩ (kX5_then r ik tn jt (va_up T 3 ((k : Nat) : Int)) Y1 p0 5 n0 B iS (by rw [nS]; omega) (by omega) (by omega) (by omega)) (cwV 3 hts gX5_vinegarFor_X5_then rfl rfl rfl ykVX5_then ⟨Nat.le_of_ble_eq_true rfl, Nat.le_of_ble_eq_true rfl⟩) hP hK hD hS 0 4 rfl rfl rfl [0, 1, 4] rfl (by decide) (fun _ => rfl) (fun u => wRo r ik tn u ++ (wA cI (r 1) 100 (va_up T 3 ((k : Nat) : Int)) ++ (wA cI (r 2) 100 K ++ (wA cI (r 3) 100 X ++ (wA cI (r 4) 100 (va_up T 3 ((k : Nat) : Int)) ++ (wA cI (r 5) 8 (fR F) ++ (wA cI (r 6) 120 TB ++ (wA cI (r 7) 4 (bR SB) ++ (wA cI (r 8) 4 SS ++ (wA cI (r 9) 160 SN)))))))))) (fun _ => rfl) rfl hl.1 rfl (Nat.le_of_ble_eq_true rfl) dX5_vinegarFor_52 ⟨Nat.le_of_ble_eq_true rfl, Nat.le_of_ble_eq_true rfl⟩ (fun u10 H locs hp11 hP hD hS => ?_)
            obtain ⟨j19, rfl⟩ : ∃ z, z = u10 := ⟨_, rfl⟩
            have hP : va_P D vwCl (wRo r ik tn j19 ++ (wA cI (r 1) 100 (va_up T 3 ((k : Nat) : Int)) ++ (wA cI (r 2) 100 K ++ (wA cI (r 3) 100 X ++ (wA cI (r 4) 100 (va_up T 3 ((k : Nat) : Int)) ++ (wA cI (r 5) 8 (fR F) ++ (wA cI (r 6) 120 TB ++ (wA cI (r 7) 4 (bR SB) ++ (wA cI (r 8) 4 SS ++ (wA cI (r 9) 160 SN)))))))))) H := hP
            have hD : va_D A (wRo r ik tn j19 ++ (wA cI (r 1) 100 (va_up T 3 ((k : Nat) : Int)) ++ (wA cI (r 2) 100 K ++ (wA cI (r 3) 100 X ++ (wA cI (r 4) 100 (va_up T 3 ((k : Nat) : Int)) ++ (wA cI (r 5) 8 (fR F) ++ (wA cI (r 6) 120 TB ++ (wA cI (r 7) 4 (bR SB) ++ (wA cI (r 8) 4 SS ++ (wA cI (r 9) 160 SN)))))))))) := hD
            refine W.eq (g2 := F0 m 55 ls [.int (iI (thF (va_up T 3 ((k : Nat) : Int)) p0 5 n0))]) rfl ?_
            have lV := Inv_lf (p := p0) (dsF_I (m := 0) n0 iS).1 (by rw [(dsF_I (m := 0) n0 iS).2.1, nS]; omega)
            refine x_topi (lfF (dsF 0 n0 ((va_up T 3 ((k : Nat) : Int)))) p0) (th_5 _ _ _) ?_
            refine x_if_ne (tgt := 63) hx hb (by omega) dX5_vinegarFor_55 (by decide) (fun c_55 => ?_) (fun c_55 => ?_)
            · refine x_iconst hx hb dX5_vinegarFor_63 ?_
              refine lv_istore (lv' := [(4, .int (iI (-1))), (0, .ref (r 0)), (1, .int (iI ((p0 : Nat) : Int))), (2, .int (iI ((n0 : Nat) : Int))), (3, .int (iI (T 3))), (5, .int (iI (((k + 1 : Nat) : Int) - 1)))]) hx hb dX5_vinegarFor_64 hl (by decide) rfl (fun ls hl => ?_)
              refine x_iinc hx hb 5 (((k : Nat) : Int) - 1) (by omega) [(5, .int (iI (((k : Nat) : Int) - 1))), (4, .int (iI (-1))), (0, .ref (r 0)), (1, .int (iI ((p0 : Nat) : Int))), (2, .int (iI ((n0 : Nat) : Int))), (3, .int (iI (T 3)))] dX5_vinegarFor_66 hl rfl (by decide) rfl (fun ls hl => ?_)
              refine lv_goto (tgt := 30) hx hb dX5_vinegarFor_69 (by decide) ?_
              have hlvp := Inv_v hI
              exact ih (t + 1) (va_up T 3 ((k : Nat) : Int)) (va_up T 3 ((k : Nat) : Int)) j19 (-1) _ _ _ (by omega) (fun v => up_up _ _ _ _) (up_n _ _ (by omega)) (Or.inl ⟨rfl, hq.elim (fun q9 => by rw [← q9.2, viF, if_neg (by omega)]) (fun q9 => by omega)⟩) hP hD hS (lv_sub hl [2, 3, 4, 5, 1, 0] rfl)
            · refine lv_iload hx hb dX5_vinegarFor_58 (lv_at hl 5 rfl) ?_
              refine x_topi ((k : Nat) : Int) (by omega) ?_
              refine lv_goto (tgt := 64) hx hb dX5_vinegarFor_60 (by decide) ?_
              refine lv_istore (lv' := [(4, .int (iI ((k : Nat) : Int))), (0, .ref (r 0)), (1, .int (iI ((p0 : Nat) : Int))), (2, .int (iI ((n0 : Nat) : Int))), (3, .int (iI (T 3))), (5, .int (iI (((k + 1 : Nat) : Int) - 1)))]) hx hb dX5_vinegarFor_64 hl (by decide) rfl (fun ls hl => ?_)
              refine x_iinc hx hb 5 (((k : Nat) : Int) - 1) (by omega) [(5, .int (iI (((k : Nat) : Int) - 1))), (4, .int (iI ((k : Nat) : Int))), (0, .ref (r 0)), (1, .int (iI ((p0 : Nat) : Int))), (2, .int (iI ((n0 : Nat) : Int))), (3, .int (iI (T 3)))] dX5_vinegarFor_66 hl rfl (by decide) rfl (fun ls hl => ?_)
              refine lv_goto (tgt := 30) hx hb dX5_vinegarFor_69 (by decide) ?_
              have hlvp := Inv_v hI
              exact ih (t + 1) (va_up T 3 ((k : Nat) : Int)) (va_up T 3 ((k : Nat) : Int)) j19 ((k : Nat) : Int) _ _ _ (by omega) (fun v => up_up _ _ _ _) (up_n _ _ (by omega)) (Or.inr ⟨by omega, by omega, hq.elim (fun q9 => by rw [← q9.2, viF, if_pos (by omega)]) (fun q9 => by omega)⟩) hP hD hS (lv_sub hl [2, 3, 4, 5, 1, 0] rfl)
    exact L30 10 0 T Y j (-1) _ _ _ (by omega) (fun _ => rfl) rfl (Or.inl ⟨rfl, rfl⟩) hP hD hS (lv_sub hl [3, 4, 5, 2, 1, 0] rfl)
  · refine lv_aload_n hx hb dX5_vinegarFor_9 rfl (lv_at hl 0 rfl) ?_
    refine x_ldc hx hb (-1000001) rfl hown (hts (.constant RX5 37 (-1000001)) (by decide +kernel)) dX5_vinegarFor_10 ?_
    refine x_callV (As := [.int (iI (-1000001))]) (rest := []) ⟨hx, hb, hml, hown, hts⟩ (kX5_finds r ik tn j F (-1000001) 0 (by omega) (by omega)) (cwV 1 hts gX5_vinegarFor_X5_finds rfl rfl rfl ykVX5_finds ⟨Nat.le_of_ble_eq_true rfl, Nat.le_of_ble_eq_true rfl⟩) hP hK hD hS 0 4 rfl rfl rfl [0, 5] rfl (by decide) (fun _ => rfl) (fun _ => wRo r ik tn j ++ (wA cI (r 1) 100 T ++ (wA cI (r 2) 100 K ++ (wA cI (r 3) 100 X ++ (wA cI (r 4) 100 Y ++ (wA cI (r 5) 8 (fR (bmp 0 F)) ++ (wA cI (r 6) 120 TB ++ (wA cI (r 7) 4 (bR SB) ++ (wA cI (r 8) 4 SS ++ (wA cI (r 9) 160 SN)))))))))) (fun _ => rfl) rfl hl.1 rfl (Nat.le_of_ble_eq_true rfl) dX5_vinegarFor_12 ⟨Nat.le_of_ble_eq_true rfl, Nat.le_of_ble_eq_true rfl⟩ (fun _ H locs _ hP hD hS => ?_)
    refine W.eq (g2 := F0 m 15 ls [.int (iI (-1000001))]) rfl ?_
    exact kend (((-1000001), T, K, ik, SB, SS, SN, tn, TB, (bmp 0 F)), X, Y, j) hP hS rfl (if_neg (by omega)).symm dX5_vinegarFor_15
