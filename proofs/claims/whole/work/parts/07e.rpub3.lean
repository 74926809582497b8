theorem ykSX5_swapFor : yX5_swapFor.cls ≠ "java/lang/invoke/MethodHandle" ∧ yX5_swapFor.cls ≠ "java/lang/invoke/VarHandle" ∧ (parseMethodDescriptor yX5_swapFor.desc).map (fun d => d.parameters.length) = some 1 := by decide +kernel
theorem ykVX5_swapFor : yX5_swapFor.cls = RX5 ∧ yX5_swapFor.cls ≠ "java/lang/invoke/MethodHandle" ∧ yX5_swapFor.cls ≠ "java/lang/invoke/VarHandle" ∧ (parseMethodDescriptor yX5_swapFor.desc).map (fun d => d.parameters.length) = some 1 := ⟨rfl, ykSX5_swapFor⟩
set_option maxRecDepth 20000 in
theorem iT_X5_swapFor_X5 : ∀ w ∈ u_ws RX5 TX5 18, w ∈ wsX5_swapFor := by decide +kernel
set_option maxHeartbeats 4000000 in
set_option maxRecDepth 100000 in
theorem kX5_swapFor {l : Launch} {D : va_G} {cI cB : ClassId} (r : Nat → Nat) (T K : Tb) (ik : Int) (SB SS SN : Nat → Int) (tn : Int) (TB F : Nat → Int) (X Y : Tb) (j : Nat → Int) (n : Int) (B : Int) (hG : GI B T K ik SB SS SN tn TB F) (hB : B ≤ 40000) (h_n : rI n) : Ct l yX5_swapFor wsX5_swapFor 7 155 D [(cI, .int), (cB, .byte)] [.ref (r 0), .int (iI n)] (wM cI r (T, K, ik, SB, SS, SN, tn, TB, F) X Y j) (S := (Int × Gs) × Tb × Tb × (Nat → Int)) (fun u => some (.int (iI u.1.1))) (fun u => u.1 = m_swapFor n T K ik SB SS SN tn TB F) (fun u => wM cI r u.1.2 u.2.1 u.2.2.1 u.2.2.2) := by
  refine CtI.of (cc := cX5_swapFor) (maxL := 8) (by decide +kernel) rfl (Nat.le_of_ble_eq_true rfl) ?_
  intro pg e s m args below meth c Q A hx hb hml hts hown hP hK hD hS ls hl kend
  have hown : s.vm.findClass RX5 = some m.cls := hown
  have hl : lv_has ls 8 [(0, .ref (r 0)), (1, .int (iI n))] := hl
  obtain ⟨hI, hIK, hik, hSB, hSS, hSN, htn, hTB, hF⟩ := id hG
  have hn := Inv_n hI
  have hdy := Inv_d hI
  have hP : va_P D vwCl (wRo r ik tn j ++ (wA cI (r 1) 100 T ++ (wA cI (r 2) 100 K ++ (wA cI (r 3) 100 X ++ (wA cI (r 4) 100 Y ++ (wA cI (r 5) 8 (fR F) ++ (wA cI (r 6) 120 TB ++ (wA cI (r 7) 4 (bR SB) ++ (wA cI (r 8) 4 SS ++ (wA cI (r 9) 160 SN)))))))))) s.heap := hP
  have hD : va_D A (wRo r ik tn j ++ (wA cI (r 1) 100 T ++ (wA cI (r 2) 100 K ++ (wA cI (r 3) 100 X ++ (wA cI (r 4) 100 Y ++ (wA cI (r 5) 8 (fR F) ++ (wA cI (r 6) 120 TB ++ (wA cI (r 7) 4 (bR SB) ++ (wA cI (r 8) 4 SS ++ (wA cI (r 9) 160 SN)))))))))) := hD
  refine lv_iload_n hx hb dX5_swapFor_0 rfl (lv_at hl 1 rfl) ?_
  refine x_i2l hx hb (by omega) dX5_swapFor_1 ?_
  refine x_lconst hx hb 0 rfl dX5_swapFor_2 ?_
  refine x_ldc2 hx hb 20 rfl hown (hts (.constantLong RX5 57 (20)) (by decide +kernel)) dX5_swapFor_3 ?_
  refine x_callS (As := [.long (lI n), .long (lI 0), .long (lI 20)]) (rest := []) ⟨hx, hb, hml, hown, hts⟩ (kX5_isIn n 0 20 (by omega) (by omega) (by omega)) (va_cwS 3 hts gX5_swapFor_X5_isIn rfl rfl rfl ykSX5_isIn ⟨Nat.le_of_ble_eq_true rfl, Nat.le_of_ble_eq_true rfl⟩) hP hK hD hS [] rfl (by decide) (fun _ => rfl) (fun _ => wRo r ik tn j ++ (wA cI (r 1) 100 T ++ (wA cI (r 2) 100 K ++ (wA cI (r 3) 100 X ++ (wA cI (r 4) 100 Y ++ (wA cI (r 5) 8 (fR F) ++ (wA cI (r 6) 120 TB ++ (wA cI (r 7) 4 (bR SB) ++ (wA cI (r 8) 4 SS ++ (wA cI (r 9) 160 SN)))))))))) (fun _ => rfl) rfl hl.1 rfl (Nat.le_of_ble_eq_true rfl) dX5_swapFor_6 ⟨Nat.le_of_ble_eq_true rfl, Nat.le_of_ble_eq_true rfl⟩ (fun _ H locs _ hP hD hS => ?_)
  refine W.eq (g2 := F0 m 9 ls [.int (iI (b2 (decide (0 ≤ n ∧ n ≤ 20))))]) rfl ?_
  refine x_ifb_ne (tgt := 19) hx hb dX5_swapFor_9 (by decide) (fun c_9 => ?_) (fun c_9 => ?_)
  · obtain ⟨n0, rfl⟩ : ∃ n0 : Nat, n = (n0 : Int) := ⟨n.toNat, by omega⟩
    refine x_iconst hx hb dX5_swapFor_19 ?_
    refine lv_istore_n (lv' := [(2, .int (iI (-1))), (0, .ref (r 0)), (1, .int (iI ((n0 : Nat) : Int)))]) hx hb dX5_swapFor_20 rfl hl (by decide) rfl (fun ls hl => ?_)
    refine x_iconst hx hb dX5_swapFor_21 ?_
    refine lv_istore_n (lv' := [(3, .int (iI 0)), (2, .int (iI (-1))), (0, .ref (r 0)), (1, .int (iI ((n0 : Nat) : Int)))]) hx hb dX5_swapFor_22 rfl hl (by decide) rfl (fun ls hl => ?_)
    refine x_iconst hx hb dX5_swapFor_23 ?_
    refine lv_istore (lv' := [(4, .int (iI 0)), (3, .int (iI 0)), (2, .int (iI (-1))), (0, .ref (r 0)), (1, .int (iI ((n0 : Nat) : Int)))]) hx hb dX5_swapFor_24 hl (by decide) rfl (fun ls hl => ?_)
    have L26 : ∀ (k t : Nat) (Y1 : Tb) (jt : Nat → Int) (be : Int) (fe : Int) (bv : Int) (lv : Int) (H : Heap) (locs : List Loc) (ls : Array Slot), t + k = (T 0).toNat → (run (swO T n0) k t (bv, lv) = run (swO T n0) (T 0).toNat 0 (0, 1000000)) → ((be = -1 ∧ lv = 1000000 ∧ bv = 0 ∧ (t = 0 ∨ T 0 < 2)) ∨ (be = bv ∧ fe = lv ∧ 0 ≤ lv ∧ lv ≤ 47952 ∧ 0 ≤ be ∧ be ≤ 99 ∧ 2 ≤ T 0)) → va_P D vwCl (wRo r ik tn jt ++ (wA cI (r 1) 100 T ++ (wA cI (r 2) 100 K ++ (wA cI (r 3) 100 X ++ (wA cI (r 4) 100 Y1 ++ (wA cI (r 5) 8 (fR F) ++ (wA cI (r 6) 120 TB ++ (wA cI (r 7) 4 (bR SB) ++ (wA cI (r 8) 4 SS ++ (wA cI (r 9) 160 SN)))))))))) H → va_D A (wRo r ik tn jt ++ (wA cI (r 1) 100 T ++ (wA cI (r 2) 100 K ++ (wA cI (r 3) 100 X ++ (wA cI (r 4) 100 Y1 ++ (wA cI (r 5) 8 (fR F) ++ (wA cI (r 6) 120 TB ++ (wA cI (r 7) 4 (bR SB) ++ (wA cI (r 8) 4 SS ++ (wA cI (r 9) 160 SN)))))))))) → va_S A s.heap H locs → lv_has ls 8 [(0, .ref (r 0)), (1, .int (iI ((n0 : Nat) : Int))), (2, .int (iI be)), (3, .int (iI fe)), (4, .int (iI ((t : Nat) : Int)))] → W pg l e { frames := 7, cells := 0, slots := 0, locals := 155 } s m args below meth c H locs 0 0 Q (F0 m 26 ls []) := by
      intro k
      induction k with
      | zero =>
        intro t Y1 jt be fe bv lv H locs ls hkt hr hq hP hD hS hl
        refine lv_iload hx hb dX5_swapFor_26 (lv_at hl 4 rfl) ?_
        refine lv_aload_n hx hb dX5_swapFor_28 rfl (lv_at hl 0 rfl) ?_
        refine va_get (D := D) (ci := 4) (v := .ref (r 1)) (C := RX5) (T := TX5) (N := 18) hx hb hts (iT_X5_swapFor_X5) hown hK hP 0 rfl rfl 0 (by decide) (hts (.fieldLink RX5 7 "WordSupperModel" "s" "[I") (by decide +kernel)) (fun _ h9 => h9) rfl dX5_swapFor_29 ?_
        refine x_iconst hx hb dX5_swapFor_32 ?_
        refine x_iald hx hb hK hP 1 0 rfl rfl 0 rfl (by omega) (by decide) (T 0) (gd_at _ (by omega)) dX5_swapFor_33 ?_
        refine x_icmp_ge (tgt := 136) hx hb (by omega) (by omega) dX5_swapFor_34 (by decide) (fun c_34 => ?_) (fun c_34 => ?_)
        · refine lv_aload_n hx hb dX5_swapFor_136 rfl (lv_at hl 0 rfl) ?_
          refine lv_iload_n hx hb dX5_swapFor_137 rfl (lv_at hl 2 rfl) ?_
          refine x_callV (As := [.int (iI be)]) (rest := []) ⟨hx, hb, hml, hown, hts⟩ (kX5_orNone r ik tn jt F be (by omega)) (cwV 1 hts gX5_swapFor_X5_orNone rfl rfl rfl ykVX5_orNone ⟨Nat.le_of_ble_eq_true rfl, Nat.le_of_ble_eq_true rfl⟩) hP hK hD hS 0 4 rfl rfl rfl [0, 5] rfl (by decide) (fun _ => rfl) (fun u => wRo r ik tn jt ++ (wA cI (r 1) 100 T ++ (wA cI (r 2) 100 K ++ (wA cI (r 3) 100 X ++ (wA cI (r 4) 100 Y1 ++ (wA cI (r 5) 8 (fR u.1) ++ (wA cI (r 6) 120 TB ++ (wA cI (r 7) 4 (bR SB) ++ (wA cI (r 8) 4 SS ++ (wA cI (r 9) 160 SN)))))))))) (fun _ => rfl) rfl hl.1 rfl (Nat.le_of_ble_eq_true rfl) dX5_swapFor_138 ⟨Nat.le_of_ble_eq_true rfl, Nat.le_of_ble_eq_true rfl⟩ (fun u3 H locs hp4 hP hD hS => ?_)
          obtain ⟨F11, r12⟩ := u3
          replace hp4 : (r12, F11) = noF be F := hp4
          have hP : va_P D vwCl (wRo r ik tn jt ++ (wA cI (r 1) 100 T ++ (wA cI (r 2) 100 K ++ (wA cI (r 3) 100 X ++ (wA cI (r 4) 100 Y1 ++ (wA cI (r 5) 8 (fR F11) ++ (wA cI (r 6) 120 TB ++ (wA cI (r 7) 4 (bR SB) ++ (wA cI (r 8) 4 SS ++ (wA cI (r 9) 160 SN)))))))))) H := hP
          have hD : va_D A (wRo r ik tn jt ++ (wA cI (r 1) 100 T ++ (wA cI (r 2) 100 K ++ (wA cI (r 3) 100 X ++ (wA cI (r 4) 100 Y1 ++ (wA cI (r 5) 8 (fR F11) ++ (wA cI (r 6) 120 TB ++ (wA cI (r 7) 4 (bR SB) ++ (wA cI (r 8) 4 SS ++ (wA cI (r 9) 160 SN)))))))))) := hD
          refine W.eq (g2 := F0 m 141 ls [.int (iI r12)]) rfl ?_
          exact kend ((r12, T, K, ik, SB, SS, SN, tn, TB, F11), X, Y1, jt) hP hS rfl (by unfold m_swapFor; rw [if_neg (by omega)]; simp only [Int.toNat_natCast]; rw [← hr, run_0]; exact sw_r (bv := bv) (by omega) hp4) dX5_swapFor_141
        · exfalso; omega
      | succ k ih =>
        intro t Y1 jt be fe bv lv H locs ls hkt hr hq hP hD hS hl
        refine lv_iload hx hb dX5_swapFor_26 (lv_at hl 4 rfl) ?_
        refine lv_aload_n hx hb dX5_swapFor_28 rfl (lv_at hl 0 rfl) ?_
        refine va_get (D := D) (ci := 4) (v := .ref (r 1)) (C := RX5) (T := TX5) (N := 18) hx hb hts (iT_X5_swapFor_X5) hown hK hP 0 rfl rfl 0 (by decide) (hts (.fieldLink RX5 7 "WordSupperModel" "s" "[I") (by decide +kernel)) (fun _ h9 => h9) rfl dX5_swapFor_29 ?_
        refine x_iconst hx hb dX5_swapFor_32 ?_
        refine x_iald hx hb hK hP 1 0 rfl rfl 0 rfl (by omega) (by decide) (T 0) (gd_at _ (by omega)) dX5_swapFor_33 ?_
        refine x_icmp_ge (tgt := 136) hx hb (by omega) (by omega) dX5_swapFor_34 (by decide) (fun c_34 => ?_) (fun c_34 => ?_)
        · exfalso; omega
        · refine lv_iload hx hb dX5_swapFor_37 (lv_at hl 4 rfl) ?_
          refine x_iconst hx hb dX5_swapFor_39 ?_
          refine x_iadd hx hb dX5_swapFor_40 ?_
          refine x_topi ((t + 1 : Nat) : Int) (by omega) ?_
          refine lv_istore (lv' := [(5, .int (iI ((t + 1 : Nat) : Int))), (0, .ref (r 0)), (1, .int (iI ((n0 : Nat) : Int))), (2, .int (iI be)), (3, .int (iI fe)), (4, .int (iI ((t : Nat) : Int)))]) hx hb dX5_swapFor_41 hl (by decide) rfl (fun ls hl => ?_)
          have L43 : ∀ (k2 cw : Nat) (Y2 : Tb) (j2 : Nat → Int) (be2 : Int) (fe2 : Int) (bv2 : Int) (lv2 : Int) (H : Heap) (locs : List Loc) (ls : Array Slot), cw + k2 = (T 0).toNat → (run (swI1 T n0 t) k2 cw (bv2, lv2) = swO T n0 t (bv, lv)) → ((be2 = -1 ∧ lv2 = 1000000 ∧ bv2 = 0 ∧ ((t = 0 ∧ cw = 1) ∨ T 0 < 2)) ∨ (be2 = bv2 ∧ fe2 = lv2 ∧ 0 ≤ lv2 ∧ lv2 ≤ 47952 ∧ 0 ≤ be2 ∧ be2 ≤ 99 ∧ 2 ≤ T 0)) → (t < cw) → va_P D vwCl (wRo r ik tn j2 ++ (wA cI (r 1) 100 T ++ (wA cI (r 2) 100 K ++ (wA cI (r 3) 100 X ++ (wA cI (r 4) 100 Y2 ++ (wA cI (r 5) 8 (fR F) ++ (wA cI (r 6) 120 TB ++ (wA cI (r 7) 4 (bR SB) ++ (wA cI (r 8) 4 SS ++ (wA cI (r 9) 160 SN)))))))))) H → va_D A (wRo r ik tn j2 ++ (wA cI (r 1) 100 T ++ (wA cI (r 2) 100 K ++ (wA cI (r 3) 100 X ++ (wA cI (r 4) 100 Y2 ++ (wA cI (r 5) 8 (fR F) ++ (wA cI (r 6) 120 TB ++ (wA cI (r 7) 4 (bR SB) ++ (wA cI (r 8) 4 SS ++ (wA cI (r 9) 160 SN)))))))))) → va_S A s.heap H locs → lv_has ls 8 [(0, .ref (r 0)), (1, .int (iI ((n0 : Nat) : Int))), (2, .int (iI be2)), (3, .int (iI fe2)), (4, .int (iI ((t : Nat) : Int))), (5, .int (iI ((cw : Nat) : Int)))] → W pg l e { frames := 7, cells := 0, slots := 0, locals := 155 } s m args below meth c H locs 0 0 Q (F0 m 43 ls []) := by
            intro k2
            induction k2 with
            | zero =>
              intro cw Y2 j2 be2 fe2 bv2 lv2 H locs ls hkc hr2 hq2 hlt hP hD hS hl
              refine lv_iload hx hb dX5_swapFor_43 (lv_at hl 5 rfl) ?_
              refine lv_aload_n hx hb dX5_swapFor_45 rfl (lv_at hl 0 rfl) ?_
              refine va_get (D := D) (ci := 4) (v := .ref (r 1)) (C := RX5) (T := TX5) (N := 18) hx hb hts (iT_X5_swapFor_X5) hown hK hP 0 rfl rfl 0 (by decide) (hts (.fieldLink RX5 7 "WordSupperModel" "s" "[I") (by decide +kernel)) (fun _ h9 => h9) rfl dX5_swapFor_46 ?_
              refine x_iconst hx hb dX5_swapFor_49 ?_
              refine x_iald hx hb hK hP 1 0 rfl rfl 0 rfl (by omega) (by decide) (T 0) (gd_at _ (by omega)) dX5_swapFor_50 ?_
              refine x_icmp_ge (tgt := 130) hx hb (by omega) (by omega) dX5_swapFor_51 (by decide) (fun c_51 => ?_) (fun c_51 => ?_)
              · refine x_iinc hx hb 4 ((t + 1 : Nat) : Int) (by omega) [(4, .int (iI ((t + 1 : Nat) : Int))), (0, .ref (r 0)), (1, .int (iI ((n0 : Nat) : Int))), (2, .int (iI be2)), (3, .int (iI fe2)), (5, .int (iI ((cw : Nat) : Int)))] dX5_swapFor_130 hl rfl (by decide) rfl (fun ls hl => ?_)
                refine lv_goto (tgt := 26) hx hb dX5_swapFor_133 (by decide) ?_
                exact ih (t + 1) Y2 j2 be2 fe2 bv2 lv2 _ _ _ (by omega) (run_step hr hr2.symm) (by omega) hP hD hS (lv_sub hl [1, 2, 3, 4, 0] rfl)
              · exfalso; omega
            | succ k2 ih2 =>
              intro cw Y2 j2 be2 fe2 bv2 lv2 H locs ls hkc hr2 hq2 hlt hP hD hS hl
              refine lv_iload hx hb dX5_swapFor_43 (lv_at hl 5 rfl) ?_
              refine lv_aload_n hx hb dX5_swapFor_45 rfl (lv_at hl 0 rfl) ?_
              refine va_get (D := D) (ci := 4) (v := .ref (r 1)) (C := RX5) (T := TX5) (N := 18) hx hb hts (iT_X5_swapFor_X5) hown hK hP 0 rfl rfl 0 (by decide) (hts (.fieldLink RX5 7 "WordSupperModel" "s" "[I") (by decide +kernel)) (fun _ h9 => h9) rfl dX5_swapFor_46 ?_
              refine x_iconst hx hb dX5_swapFor_49 ?_
              refine x_iald hx hb hK hP 1 0 rfl rfl 0 rfl (by omega) (by decide) (T 0) (gd_at _ (by omega)) dX5_swapFor_50 ?_
              refine x_icmp_ge (tgt := 130) hx hb (by omega) (by omega) dX5_swapFor_51 (by decide) (fun c_51 => ?_) (fun c_51 => ?_)
              · exfalso; omega
              · refine lv_aload_n hx hb dX5_swapFor_54 rfl (lv_at hl 0 rfl) ?_
                refine lv_iload hx hb dX5_swapFor_55 (lv_at hl 4 rfl) ?_
                refine lv_iload hx hb dX5_swapFor_57 (lv_at hl 5 rfl) ?_
                refine x_callV (As := [.int (iI ((t : Nat) : Int)), .int (iI ((cw : Nat) : Int))]) (rest := []) ⟨hx, hb, hml, hown, hts⟩ (kX5_exchange r ik tn j2 T t cw (by omega) (by omega) (by omega)) (cwV 2 hts gX5_swapFor_X5_exchange rfl rfl rfl ykVX5_exchange ⟨Nat.le_of_ble_eq_true rfl, Nat.le_of_ble_eq_true rfl⟩) hP hK hD hS 0 4 rfl rfl rfl [0, 1] rfl (by decide) (fun _ => rfl) (fun u => wRo r ik tn j2 ++ (wA cI (r 1) 100 u ++ (wA cI (r 2) 100 K ++ (wA cI (r 3) 100 X ++ (wA cI (r 4) 100 Y2 ++ (wA cI (r 5) 8 (fR F) ++ (wA cI (r 6) 120 TB ++ (wA cI (r 7) 4 (bR SB) ++ (wA cI (r 8) 4 SS ++ (wA cI (r 9) 160 SN)))))))))) (fun _ => rfl) rfl hl.1 rfl (Nat.le_of_ble_eq_true rfl) dX5_swapFor_59 ⟨Nat.le_of_ble_eq_true rfl, Nat.le_of_ble_eq_true rfl⟩ (fun u6 H locs hp7 hP hD hS => ?_)
                obtain ⟨T15, rfl⟩ : ∃ z, z = u6 := ⟨_, rfl⟩
                replace hp7 : T15 = exF t cw T := hp7
                have hP : va_P D vwCl (wRo r ik tn j2 ++ (wA cI (r 1) 100 T15 ++ (wA cI (r 2) 100 K ++ (wA cI (r 3) 100 X ++ (wA cI (r 4) 100 Y2 ++ (wA cI (r 5) 8 (fR F) ++ (wA cI (r 6) 120 TB ++ (wA cI (r 7) 4 (bR SB) ++ (wA cI (r 8) 4 SS ++ (wA cI (r 9) 160 SN)))))))))) H := hP
                have hD : va_D A (wRo r ik tn j2 ++ (wA cI (r 1) 100 T15 ++ (wA cI (r 2) 100 K ++ (wA cI (r 3) 100 X ++ (wA cI (r 4) 100 Y2 ++ (wA cI (r 5) 8 (fR F) ++ (wA cI (r 6) 120 TB ++ (wA cI (r 7) 4 (bR SB) ++ (wA cI (r 8) 4 SS ++ (wA cI (r 9) 160 SN)))))))))) := hD
                refine W.eq (g2 := F0 m 62 ls []) rfl ?_
                have e_x : T15 = exF t cw T := hp7
                have iS := ex_I hI (a := t) (c := cw) (by omega) (by omega)
                rw [e_x] at hP hD
                refine lv_aload_n hx hb dX5_swapFor_62 rfl (lv_at hl 0 rfl) ?_
                refine lv_iload_n hx hb dX5_swapFor_63 rfl (lv_at hl 1 rfl) ?_
                refine x_callV (As := [.int (iI ((n0 : Nat) : Int))]) (rest := []) ⟨hx, hb, hml, hown, hts⟩ (kX5_leftThen r ik tn j2 (exF t cw T) Y2 n0 B iS.1 (by omega) (by omega)) (cwV 1 hts gX5_swapFor_X5_leftThen rfl rfl rfl ykVX5_leftThen ⟨Nat.le_of_ble_eq_true rfl, Nat.le_of_ble_eq_true rfl⟩) hP hK hD hS 0 4 rfl rfl rfl [0, 1, 4] rfl (by decide) (fun _ => rfl) (fun u => wRo r ik tn u ++ (wA cI (r 1) 100 (exF t cw T) ++ (wA cI (r 2) 100 K ++ (wA cI (r 3) 100 X ++ (wA cI (r 4) 100 (exF t cw T) ++ (wA cI (r 5) 8 (fR F) ++ (wA cI (r 6) 120 TB ++ (wA cI (r 7) 4 (bR SB) ++ (wA cI (r 8) 4 SS ++ (wA cI (r 9) 160 SN)))))))))) (fun _ => rfl) rfl hl.1 rfl (Nat.le_of_ble_eq_true rfl) dX5_swapFor_64 ⟨Nat.le_of_ble_eq_true rfl, Nat.le_of_ble_eq_true rfl⟩ (fun u9 H locs hp10 hP hD hS => ?_)
                obtain ⟨j18, rfl⟩ : ∃ z, z = u9 := ⟨_, rfl⟩
                have hP : va_P D vwCl (wRo r ik tn j18 ++ (wA cI (r 1) 100 (exF t cw T) ++ (wA cI (r 2) 100 K ++ (wA cI (r 3) 100 X ++ (wA cI (r 4) 100 (exF t cw T) ++ (wA cI (r 5) 8 (fR F) ++ (wA cI (r 6) 120 TB ++ (wA cI (r 7) 4 (bR SB) ++ (wA cI (r 8) 4 SS ++ (wA cI (r 9) 160 SN)))))))))) H := hP
                have hD : va_D A (wRo r ik tn j18 ++ (wA cI (r 1) 100 (exF t cw T) ++ (wA cI (r 2) 100 K ++ (wA cI (r 3) 100 X ++ (wA cI (r 4) 100 (exF t cw T) ++ (wA cI (r 5) 8 (fR F) ++ (wA cI (r 6) 120 TB ++ (wA cI (r 7) 4 (bR SB) ++ (wA cI (r 8) 4 SS ++ (wA cI (r 9) 160 SN)))))))))) := hD
                refine W.eq (g2 := F0 m 67 ls [.int (iI (alF (dsF 0 n0 (exF t cw T))))]) rfl ?_
                have aV := al_b (dsF_I (m := 0) n0 iS.1).1
                refine lv_istore (lv' := [(6, .int (iI (alF (dsF 0 n0 (exF t cw T))))), (0, .ref (r 0)), (1, .int (iI ((n0 : Nat) : Int))), (2, .int (iI be2)), (3, .int (iI fe2)), (4, .int (iI ((t : Nat) : Int))), (5, .int (iI ((cw : Nat) : Int)))]) hx hb dX5_swapFor_67 hl (by decide) rfl (fun ls hl => ?_)
                refine lv_aload_n hx hb dX5_swapFor_69 rfl (lv_at hl 1 rfl) ?_
                refine lv_iload hx hb dX5_swapFor_70 (lv_at hl 5 rfl) ?_
                refine lv_iload hx hb dX5_swapFor_72 (lv_at hl 6 rfl) ?_
                refine x_callV (As := [.int (iI ((t : Nat) : Int)), .int (iI ((cw : Nat) : Int))]) (rest := []) ⟨hx, hb, hml, hown, hts⟩ (kX5_exchange r ik tn j18 (exF t cw T) t cw (by omega) (by omega) (by omega)) (cwV 2 hts gX5_swapFor_X5_exchange rfl rfl rfl ykVX5_exchange ⟨Nat.le_of_ble_eq_true rfl, Nat.le_of_ble_eq_true rfl⟩) hP hK hD hS 0 4 rfl rfl rfl [0, 1] rfl (by decide) (fun _ => rfl) (fun u => wRo r ik tn j18 ++ (wA cI (r 1) 100 u ++ (wA cI (r 2) 100 K ++ (wA cI (r 3) 100 X ++ (wA cI (r 4) 100 (exF t cw T) ++ (wA cI (r 5) 8 (fR F) ++ (wA cI (r 6) 120 TB ++ (wA cI (r 7) 4 (bR SB) ++ (wA cI (r 8) 4 SS ++ (wA cI (r 9) 160 SN)))))))))) (fun _ => rfl) rfl hl.1 rfl (Nat.le_of_ble_eq_true rfl) dX5_swapFor_74 ⟨Nat.le_of_ble_eq_true rfl, Nat.le_of_ble_eq_true rfl⟩ (fun u12 H locs hp13 hP hD hS => ?_)
                obtain ⟨T111, rfl⟩ : ∃ z, z = u12 := ⟨_, rfl⟩
                replace hp13 : T111 = exF t cw (exF t cw T) := hp13
                have hP : va_P D vwCl (wRo r ik tn j18 ++ (wA cI (r 1) 100 T111 ++ (wA cI (r 2) 100 K ++ (wA cI (r 3) 100 X ++ (wA cI (r 4) 100 (exF t cw T) ++ (wA cI (r 5) 8 (fR F) ++ (wA cI (r 6) 120 TB ++ (wA cI (r 7) 4 (bR SB) ++ (wA cI (r 8) 4 SS ++ (wA cI (r 9) 160 SN)))))))))) H := hP
                have hD : va_D A (wRo r ik tn j18 ++ (wA cI (r 1) 100 T111 ++ (wA cI (r 2) 100 K ++ (wA cI (r 3) 100 X ++ (wA cI (r 4) 100 (exF t cw T) ++ (wA cI (r 5) 8 (fR F) ++ (wA cI (r 6) 120 TB ++ (wA cI (r 7) 4 (bR SB) ++ (wA cI (r 8) 4 SS ++ (wA cI (r 9) 160 SN)))))))))) := hD
                refine W.eq (g2 := F0 m 77 ls []) rfl ?_
                rw [hp13, ex_ex (show t ≠ cw by omega)] at hP hD
                refine lv_iload_n hx hb dX5_swapFor_77 rfl (lv_at hl 3 rfl) ?_
                refine x_if_lt (tgt := 87) hx hb (by omega) dX5_swapFor_78 (by decide) (fun c_78 => ?_) (fun c_78 => ?_)
                · refine x_iconst hx hb dX5_swapFor_87 ?_
                  refine lv_goto (tgt := 92) hx hb dX5_swapFor_88 (by decide) ?_
                  refine lv_istore (lv' := [(7, .int (iI 1)), (6, .int (iI (alF (dsF 0 n0 (exF t cw T))))), (0, .ref (r 0)), (1, .int (iI ((n0 : Nat) : Int))), (2, .int (iI be2)), (3, .int (iI fe2)), (4, .int (iI ((t : Nat) : Int))), (5, .int (iI ((cw : Nat) : Int)))]) hx hb dX5_swapFor_92 hl (by decide) rfl (fun ls hl => ?_)
                  refine lv_iload hx hb dX5_swapFor_94 (lv_at hl 0 rfl) ?_
                  refine x_if_eq (tgt := 110) hx hb (by decide) dX5_swapFor_96 (by decide) (fun c_96 => ?_) (fun c_96 => ?_)
                  · exact absurd c_96 (by decide)
                  · refine x_bipush hx hb dX5_swapFor_99 (by decide) ?_
                    refine lv_iload hx hb dX5_swapFor_101 (lv_at hl 6 rfl) ?_
                    refine x_imul hx hb dX5_swapFor_103 ?_
                    refine lv_iload hx hb dX5_swapFor_104 (lv_at hl 7 rfl) ?_
                    refine x_iadd hx hb dX5_swapFor_106 ?_
                    refine lv_goto (tgt := 111) hx hb dX5_swapFor_107 (by decide) ?_
                    refine lv_istore_n (lv' := [(2, .int (iI ((8 * ((t : Nat) : Int)) + ((cw : Nat) : Int)))), (7, .int (iI 1)), (6, .int (iI (alF (dsF 0 n0 (exF t cw T))))), (0, .ref (r 0)), (1, .int (iI ((n0 : Nat) : Int))), (3, .int (iI fe2)), (4, .int (iI ((t : Nat) : Int))), (5, .int (iI ((cw : Nat) : Int)))]) hx hb dX5_swapFor_111 rfl hl (by decide) rfl (fun ls hl => ?_)
                    refine lv_iload hx hb dX5_swapFor_112 (lv_at hl 1 rfl) ?_
                    refine x_if_eq (tgt := 122) hx hb (by decide) dX5_swapFor_114 (by decide) (fun c_114 => ?_) (fun c_114 => ?_)
                    · exact absurd c_114 (by decide)
                    · refine lv_iload hx hb dX5_swapFor_117 (lv_at hl 2 rfl) ?_
                      refine lv_goto (tgt := 123) hx hb dX5_swapFor_119 (by decide) ?_
                      refine lv_istore_n (lv' := [(3, .int (iI (alF (dsF 0 n0 (exF t cw T))))), (2, .int (iI ((8 * ((t : Nat) : Int)) + ((cw : Nat) : Int)))), (7, .int (iI 1)), (6, .int (iI (alF (dsF 0 n0 (exF t cw T))))), (0, .ref (r 0)), (1, .int (iI ((n0 : Nat) : Int))), (4, .int (iI ((t : Nat) : Int))), (5, .int (iI ((cw : Nat) : Int)))]) hx hb dX5_swapFor_123 rfl hl (by decide) rfl (fun ls hl => ?_)
                      refine x_iinc hx hb 7 ((cw + 1 : Nat) : Int) (by omega) [(5, .int (iI ((cw + 1 : Nat) : Int))), (3, .int (iI (alF (dsF 0 n0 (exF t cw T))))), (2, .int (iI ((8 * ((t : Nat) : Int)) + ((cw : Nat) : Int)))), (7, .int (iI 1)), (6, .int (iI (alF (dsF 0 n0 (exF t cw T))))), (0, .ref (r 0)), (1, .int (iI ((n0 : Nat) : Int))), (4, .int (iI ((t : Nat) : Int)))] dX5_swapFor_124 hl rfl (by decide) rfl (fun ls hl => ?_)
                      refine lv_goto (tgt := 43) hx hb dX5_swapFor_127 (by decide) ?_
                      exact ih2 (cw + 1) (exF t cw T) j18 ((8 * ((t : Nat) : Int)) + ((cw : Nat) : Int)) (alF (dsF 0 n0 (exF t cw T))) (8 * ((t : Nat) : Int) + ((cw : Nat) : Int)) (alF (dsF 0 n0 (exF t cw T))) _ _ _ (by omega) (run_step hr2 (by unfold swI1 swV; rw [if_pos (by (try dsimp only); omega)])) (by omega) (by omega) hP hD hS (lv_sub hl [5, 6, 2, 1, 7, 0] rfl)
                · refine lv_iload hx hb dX5_swapFor_81 (lv_at hl 0 rfl) ?_
                  refine lv_iload_n hx hb dX5_swapFor_83 rfl (lv_at hl 4 rfl) ?_
                  refine x_icmp_ge (tgt := 91) hx hb (by omega) (by omega) dX5_swapFor_84 (by decide) (fun c_84 => ?_) (fun c_84 => ?_)
                  · refine x_iconst hx hb dX5_swapFor_91 ?_
                    refine lv_istore (lv' := [(7, .int (iI 0)), (6, .int (iI (alF (dsF 0 n0 (exF t cw T))))), (0, .ref (r 0)), (1, .int (iI ((n0 : Nat) : Int))), (2, .int (iI be2)), (3, .int (iI fe2)), (4, .int (iI ((t : Nat) : Int))), (5, .int (iI ((cw : Nat) : Int)))]) hx hb dX5_swapFor_92 hl (by decide) rfl (fun ls hl => ?_)
                    refine lv_iload hx hb dX5_swapFor_94 (lv_at hl 0 rfl) ?_
                    refine x_if_eq (tgt := 110) hx hb (by decide) dX5_swapFor_96 (by decide) (fun c_96 => ?_) (fun c_96 => ?_)
                    · refine lv_iload_n hx hb dX5_swapFor_110 rfl (lv_at hl 4 rfl) ?_
                      refine lv_istore_n (lv' := [(2, .int (iI be2)), (7, .int (iI 0)), (6, .int (iI (alF (dsF 0 n0 (exF t cw T))))), (0, .ref (r 0)), (1, .int (iI ((n0 : Nat) : Int))), (3, .int (iI fe2)), (4, .int (iI ((t : Nat) : Int))), (5, .int (iI ((cw : Nat) : Int)))]) hx hb dX5_swapFor_111 rfl hl (by decide) rfl (fun ls hl => ?_)
                      refine lv_iload hx hb dX5_swapFor_112 (lv_at hl 1 rfl) ?_
                      refine x_if_eq (tgt := 122) hx hb (by decide) dX5_swapFor_114 (by decide) (fun c_114 => ?_) (fun c_114 => ?_)
                      · refine lv_iload_n hx hb dX5_swapFor_122 rfl (lv_at hl 5 rfl) ?_
                        refine lv_istore_n (lv' := [(3, .int (iI fe2)), (2, .int (iI be2)), (7, .int (iI 0)), (6, .int (iI (alF (dsF 0 n0 (exF t cw T))))), (0, .ref (r 0)), (1, .int (iI ((n0 : Nat) : Int))), (4, .int (iI ((t : Nat) : Int))), (5, .int (iI ((cw : Nat) : Int)))]) hx hb dX5_swapFor_123 rfl hl (by decide) rfl (fun ls hl => ?_)
                        refine x_iinc hx hb 7 ((cw + 1 : Nat) : Int) (by omega) [(5, .int (iI ((cw + 1 : Nat) : Int))), (3, .int (iI fe2)), (2, .int (iI be2)), (7, .int (iI 0)), (6, .int (iI (alF (dsF 0 n0 (exF t cw T))))), (0, .ref (r 0)), (1, .int (iI ((n0 : Nat) : Int))), (4, .int (iI ((t : Nat) : Int)))] dX5_swapFor_124 hl rfl (by decide) rfl (fun ls hl => ?_)
                        refine lv_goto (tgt := 43) hx hb dX5_swapFor_127 (by decide) ?_
                        exact ih2 (cw + 1) (exF t cw T) j18 be2 fe2 bv2 lv2 _ _ _ (by omega) (run_step hr2 (by unfold swI1 swV; rw [if_neg (by (try dsimp only); omega)])) (by omega) (by omega) hP hD hS (lv_sub hl [5, 6, 2, 1, 7, 0] rfl)
                      · exact absurd c_114 (by decide)
                    · exact absurd c_96 (by decide)
                  · refine x_iconst hx hb dX5_swapFor_87 ?_
                    refine lv_goto (tgt := 92) hx hb dX5_swapFor_88 (by decide) ?_
                    refine lv_istore (lv' := [(7, .int (iI 1)), (6, .int (iI (alF (dsF 0 n0 (exF t cw T))))), (0, .ref (r 0)), (1, .int (iI ((n0 : Nat) : Int))), (2, .int (iI be2)), (3, .int (iI fe2)), (4, .int (iI ((t : Nat) : Int))), (5, .int (iI ((cw : Nat) : Int)))]) hx hb dX5_swapFor_92 hl (by decide) rfl (fun ls hl => ?_)
                    refine lv_iload hx hb dX5_swapFor_94 (lv_at hl 0 rfl) ?_
                    refine x_if_eq (tgt := 110) hx hb (by decide) dX5_swapFor_96 (by decide) (fun c_96 => ?_) (fun c_96 => ?_)
                    · exact absurd c_96 (by decide)
                    · refine x_bipush hx hb dX5_swapFor_99 (by decide) ?_
                      refine lv_iload hx hb dX5_swapFor_101 (lv_at hl 6 rfl) ?_
                      refine x_imul hx hb dX5_swapFor_103 ?_
                      refine lv_iload hx hb dX5_swapFor_104 (lv_at hl 7 rfl) ?_
                      refine x_iadd hx hb dX5_swapFor_106 ?_
                      refine lv_goto (tgt := 111) hx hb dX5_swapFor_107 (by decide) ?_
                      refine lv_istore_n (lv' := [(2, .int (iI ((8 * ((t : Nat) : Int)) + ((cw : Nat) : Int)))), (7, .int (iI 1)), (6, .int (iI (alF (dsF 0 n0 (exF t cw T))))), (0, .ref (r 0)), (1, .int (iI ((n0 : Nat) : Int))), (3, .int (iI fe2)), (4, .int (iI ((t : Nat) : Int))), (5, .int (iI ((cw : Nat) : Int)))]) hx hb dX5_swapFor_111 rfl hl (by decide) rfl (fun ls hl => ?_)
                      refine lv_iload hx hb dX5_swapFor_112 (lv_at hl 1 rfl) ?_
                      refine x_if_eq (tgt := 122) hx hb (by decide) dX5_swapFor_114 (by decide) (fun c_114 => ?_) (fun c_114 => ?_)
                      · exact absurd c_114 (by decide)
                      · refine lv_iload hx hb dX5_swapFor_117 (lv_at hl 2 rfl) ?_
                        refine lv_goto (tgt := 123) hx hb dX5_swapFor_119 (by decide) ?_
                        refine lv_istore_n (lv' := [(3, .int (iI (alF (dsF 0 n0 (exF t cw T))))), (2, .int (iI ((8 * ((t : Nat) : Int)) + ((cw : Nat) : Int)))), (7, .int (iI 1)), (6, .int (iI (alF (dsF 0 n0 (exF t cw T))))), (0, .ref (r 0)), (1, .int (iI ((n0 : Nat) : Int))), (4, .int (iI ((t : Nat) : Int))), (5, .int (iI ((cw : Nat) : Int)))]) hx hb dX5_swapFor_123 rfl hl (by decide) rfl (fun ls hl => ?_)
                        refine x_iinc hx hb 7 ((cw + 1 : Nat) : Int) (by omega) [(5, .int (iI ((cw + 1 : Nat) : Int))), (3, .int (iI (alF (dsF 0 n0 (exF t cw T))))), (2, .int (iI ((8 * ((t : Nat) : Int)) + ((cw : Nat) : Int)))), (7, .int (iI 1)), (6, .int (iI (alF (dsF 0 n0 (exF t cw T))))), (0, .ref (r 0)), (1, .int (iI ((n0 : Nat) : Int))), (4, .int (iI ((t : Nat) : Int)))] dX5_swapFor_124 hl rfl (by decide) rfl (fun ls hl => ?_)
                        refine lv_goto (tgt := 43) hx hb dX5_swapFor_127 (by decide) ?_
                        exact ih2 (cw + 1) (exF t cw T) j18 ((8 * ((t : Nat) : Int)) + ((cw : Nat) : Int)) (alF (dsF 0 n0 (exF t cw T))) (8 * ((t : Nat) : Int) + ((cw : Nat) : Int)) (alF (dsF 0 n0 (exF t cw T))) _ _ _ (by omega) (run_step hr2 (by unfold swI1 swV; rw [if_pos (by (try dsimp only); omega)])) (by omega) (by omega) hP hD hS (lv_sub hl [5, 6, 2, 1, 7, 0] rfl)
          exact L43 ((T 0).toNat - (t + 1)) (t + 1) Y1 jt be fe bv lv _ _ _ (by omega) rfl (by omega) (by omega) hP hD hS (lv_sub hl [1, 2, 3, 4, 5, 0] rfl)
    exact L26 (T 0).toNat 0 Y j (-1) 0 0 1000000 _ _ _ (by omega) rfl (by omega) hP hD hS (lv_sub hl [3, 4, 2, 1, 0] rfl)
  · refine lv_aload_n hx hb dX5_swapFor_12 rfl (lv_at hl 0 rfl) ?_
    refine x_ldc hx hb (-1000001) rfl hown (hts (.constant RX5 37 (-1000001)) (by decide +kernel)) dX5_swapFor_13 ?_
    refine x_callV (As := [.int (iI (-1000001))]) (rest := []) ⟨hx, hb, hml, hown, hts⟩ (kX5_finds r ik tn j F (-1000001) 0 (by omega) (by omega)) (cwV 1 hts gX5_swapFor_X5_finds rfl rfl rfl ykVX5_finds ⟨Nat.le_of_ble_eq_true rfl, Nat.le_of_ble_eq_true rfl⟩) hP hK hD hS 0 4 rfl rfl rfl [0, 5] rfl (by decide) (fun _ => rfl) (fun _ => wRo r ik tn j ++ (wA cI (r 1) 100 T ++ (wA cI (r 2) 100 K ++ (wA cI (r 3) 100 X ++ (wA cI (r 4) 100 Y ++ (wA cI (r 5) 8 (fR (bmp 0 F)) ++ (wA cI (r 6) 120 TB ++ (wA cI (r 7) 4 (bR SB) ++ (wA cI (r 8) 4 SS ++ (wA cI (r 9) 160 SN)))))))))) (fun _ => rfl) rfl hl.1 rfl (Nat.le_of_ble_eq_true rfl) dX5_swapFor_15 ⟨Nat.le_of_ble_eq_true rfl, Nat.le_of_ble_eq_true rfl⟩ (fun _ H locs _ hP hD hS => ?_)
    refine W.eq (g2 := F0 m 18 ls [.int (iI (-1000001))]) rfl ?_
    exact kend (((-1000001), T, K, ik, SB, SS, SN, tn, TB, (bmp 0 F)), X, Y, j) hP hS rfl (if_pos (by omega)).symm dX5_swapFor_18
