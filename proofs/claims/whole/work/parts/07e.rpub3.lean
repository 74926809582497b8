theorem ykSX5_swapFor : yX5_swapFor.cls ≠ "java/lang/invoke/MethodHandle" ∧ yX5_swapFor.cls ≠ "java/lang/invoke/VarHandle" ∧ (parseMethodDescriptor yX5_swapFor.desc).map (fun d => d.parameters.length) = some 1 := by decide +kernel
theorem ykVX5_swapFor : yX5_swapFor.cls = RX5 ∧ yX5_swapFor.cls ≠ "java/lang/invoke/MethodHandle" ∧ yX5_swapFor.cls ≠ "java/lang/invoke/VarHandle" ∧ (parseMethodDescriptor yX5_swapFor.desc).map (fun d => d.parameters.length) = some 1 := ⟨rfl, ykSX5_swapFor⟩
set_option maxRecDepth 20000 in
theorem iT_X5_swapFor_X5 : ∀ w ∈ u_ws RX5 TX5 18, w ∈ wsX5_swapFor := by decide +kernel
set_option maxHeartbeats 4000000 in
set_option maxRecDepth 100000 in
theorem kX5_swapFor {l : Launch} {D : va_G} {cI cB : ClassId} (r : Nat → Nat) (T K : Tb) (ik : Int) (SB SS SN : Nat → Int) (tn : Int) (TB F : Nat → Int) (X Y : Tb) (j : Nat → Int) (n : Int) (B : Int) (hG : GI B T K ik SB SS SN tn TB F) (hB : B ≤ 40000) (h_n : rI n) : Ct l yX5_swapFor wsX5_swapFor 7 155 D [(cI, .int), (cB, .byte)] [.ref (r 0), .int (iI n)] (wM cI r (T, K, ik, SB, SS, SN, tn, TB, F) X Y j) (S := (Int × Gs) × Tb × Tb × (Nat → Int)) (fun u => some (.int (iI u.1.1))) (fun u => u.1 = m_swapFor n T K ik SB SS SN tn TB F) (fun u => wM cI r u.1.2 u.2.1 u.2.2.1 u.2.2.2) := by
  refine CtI.of (cc := cX5_swapFor) (maxL := 8) (by decide +kernel) rfl (Nat.le_of_ble_eq_true rfl) ?_
  intro pg e s m args below meth c Q A hx hb hml hts hown hP hK hD hS ls hl kend
  have hown : s.vm.findClass RX5 = some m.cls := hown
  have hl : lv_has ls 8 [(0, .ref (r 0)), (1, .int (iI n))] := hl
  obtain ⟨hI, hIK, hik, hSB, hSS, hSN, htn, hTB, hF⟩ := id hG
  have hn := Inv_n hI
  have hdy := Inv_d hI
  have hP : va_P D vwCl (wRo r ik tn j ++ (wA cI (r 1) 100 T ++ (wA cI (r 2) 100 K ++ (wA cI (r 3) 100 X ++ (wA cI (r 4) 100 Y ++ (wA cI (r 5) 8 (fR F) ++ (wA cI (r 6) 120 TB ++ (wA cI (r 7) 4 (bR SB) ++ (wA cI (r 8) 4 SS ++ (wA cI (r 9) 160 SN)))))))))) s.heap := hP
  have hD : va_D A (wRo r ik tn j ++ (wA cI (r 1) 100 T ++ (wA cI (r 2) 100 K ++ (wA cI (r 3) 100 X ++ (wA cI (r 4) 100 Y ++ (wA cI (r 5) 8 (fR F) ++ (wA cI (r 6) 120 TB ++ (wA cI (r 7) 4 (bR SB) ++ (wA cI (r 8) 4 SS ++ (wA cI (r 9) 160 SN)))))))))) := hD
  refine lv_iload_n hx hb dX5_swapFor_0 rfl (lv_at hl 1 rfl) ?_
  refine x_i2l hx hb (by omega) dX5_swapFor_1 ?_
  refine x_lconst hx hb 0 rfl dX5_swapFor_2 ?_
  refine x_ldc2 hx hb 20 rfl hown (hts (.constantLong RX5 57 (20)) (by decide +kernel)) dX5_swapFor_3 ?_
  refine x_callS (As := [.long (lI n), .long (lI 0), .long (lI 20)]) (rest := []) ⟨hx, hb, hml, hown, hts⟩ (kX5_isIn n 0 20 (by omega) (by omega) (by omega)) (va_cwS 3 hts gX5_swapFor_X5_isIn rfl rfl rfl ykSX5_isIn ⟨Nat.le_of_ble_eq_true rfl, Nat.le_of_ble_eq_true rfl⟩) hP hK hD hS [] rfl (by decide) (fun _ => rfl) (fun _ => wRo r ik tn j ++ (wA cI (r 1) 100 T ++ (wA cI (r 2) 100 K ++ (wA cI (r 3) 100 X ++ (wA cI (r 4) 100 Y ++ (wA cI (r 5) 8 (fR F) ++ (wA cI (r 6) 120 TB ++ (wA cI (r 7) 4 (bR SB) ++ (wA cI (r 8) 4 SS ++ (wA cI (r 9) 160 SN)))))))))) (fun _ => rfl) rfl hl.1 rfl (Nat.le_of_ble_eq_true rfl) dX5_swapFor_6 ⟨Nat.le_of_ble_eq_true rfl, Nat.le_of_ble_eq_true rfl⟩ (fun _ H locs _ hP hD hS => ?_)
  refine W.eq (g2 := F0 m 9 ls [.int (iI (b2 (decide (0 ≤ n ∧ n ≤ 20))))]) rfl ?_
  refine x_ifb_ne (tgt := 19) hx hb dX5_swapFor_9 (by decide) (fun c_9 => ?_) (fun c_9 => ?_)
  · obtain ⟨n0, rfl⟩ : ∃ n0 : Nat, n = (n0 : Int) := ⟨n.toNat, by omega⟩
    refine x_iconst hx hb dX5_swapFor_19 ?_
    refine lv_istore_n (lv' := [(2, .int (iI (-1))), (0, .ref (r 0)), (1, .int (iI ((n0 : Nat) : Int)))]) hx hb dX5_swapFor_20 rfl hl (by decide) rfl (fun ls hl => ?_)
    refine x_iconst hx hb dX5_swapFor_21 ?_
    refine lv_istore_n (lv' := [(3, .int (iI 0)), (2, .int (iI (-1))), (0, .ref (r 0)), (1, .int (iI ((n0 : Nat) : Int)))]) hx hb dX5_swapFor_22 rfl hl (by decide) rfl (fun ls hl => ?_)
    refine x_iconst hx hb dX5_swapFor_23 ?_
    refine lv_istore (lv' := [(4, .int (iI 0)), (3, .int (iI 0)), (2, .int (iI (-1))), (0, .ref (r 0)), (1, .int (iI ((n0 : Nat) : Int)))]) hx hb dX5_swapFor_24 hl (by decide) rfl (fun ls hl => ?_)
    have L26 : ∀ (k t : Nat) (Y1 : Tb) (jt : Nat → Int) (be : Int) (fe : Int) (bv : Int) (lv : Int) (H : Heap) (locs : List Loc) (ls : Array Slot), t + k = (T 0).toNat → (run (swO T n0) k t (bv, lv) = run (swO T n0) (T 0).toNat 0 (0, 1000000)) → ((be = -1 ∧ lv = 1000000 ∧ bv = 0 ∧ (t = 0 ∨ T 0 < 2)) ∨ (be = bv ∧ fe = lv ∧ 0 ≤ lv ∧ lv ≤ 47952 ∧ 0 ≤ be ∧ be ≤ 99 ∧ 2 ≤ T 0)) → va_P D vwCl (wRo r ik tn jt ++ (wA cI (r 1) 100 T ++ (wA cI (r 2) 100 K ++ (wA cI (r 3) 100 X ++ (wA cI (r 4) 100 Y1 ++ (wA cI (r 5) 8 (fR F) ++ (wA cI (r 6) 120 TB ++ (wA cI (r 7) 4 (bR SB) ++ (wA cI (r 8) 4 SS ++ (wA cI (r 9) 160 SN)))))))))) H → va_D A (wRo r ik tn jt ++ (wA cI (r 1) 100 T ++ (wA cI (r 2) 100 K ++ (wA cI (r 3) 100 X ++ (wA cI (r 4) 100 Y1 ++ (wA cI (r 5) 8 (fR F) ++ (wA cI (r 6) 120 TB ++ (wA cI (r 7) 4 (bR SB) ++ (wA cI (r 8) 4 SS ++ (wA cI (r 9) 160 SN)))))))))) → va_S A s.heap H locs → lv_has ls 8 [(0, .ref (r 0)), (1, .int (iI ((n0 : Nat) : Int))), (2, .int (iI be)), (3, .int (iI fe)), (4, .int (iI ((t : Nat) : Int)))] → W pg l e { frames := 7, cells := 0, slots := 0, locals := 155 } s m args below meth c H locs 0 0 Q (F0 m 26 ls []) := by
      intro k
      induction k with
      | zero =>
        intro t Y1 jt be fe bv lv H locs ls hkt hr hq hP hD hS hl
        refine lv_iload hx hb dX5_swapFor_26 (lv_at hl 4 rfl) ?_
        refine lv_aload_n hx hb dX5_swapFor_28 rfl (lv_at hl 0 rfl) ?_
        refine va_get (D := D) (ci := 4) (v := .ref (r 1)) (C := RX5) (T := TX5) (N := 18) hx hb hts (iT_X5_swapFor_X5) hown hK hP 0 rfl rfl 0 (by decide) (hts (.fieldLink RX5 7 "WordSupperModel" "s" "[I") (by decide +kernel)) (fun _ h9 => h9) rfl dX5_swapFor_29 ?_
        refine x_iconst hx hb dX5_swapFor_32 ?_
        refine x_iald hx hb hK hP 1 0 rfl rfl 0 rfl (by omega) (by decide) (T 0) (gd_at _ (by omega)) dX5_swapFor_33 ?_
        refine x_icmp_ge (tgt := 136) hx hb (by omega) (by omega) dX5_swapFor_34 (by decide) (fun c_34 => ?_) (fun c_34 => ?_)
        · refine lv_aload_n hx hb dX5_swapFor_136 rfl (lv_at hl 0 rfl) ?_
          refine lv_iload_n hx hb dX5_swapFor_137 rfl (lv_at hl 2 rfl) ?_
          refine x_callV (As := [.int (iI be)]) (rest := []) ⟨hx, hb, hml, hown, hts⟩ (kX5_orNone r ik tn jt F be (by omega)) (cwV 1 hts gX5_swapFor_X5_orNone rfl rfl rfl ykVX5_orNone ⟨Nat.le_of_ble_eq_true rfl, Nat.le_of_ble_eq_true rfl⟩) hP hK hD hS 0 4 rfl rfl rfl [0, 5] rfl (by decide) (fun _ => rfl) (fun u => wRo r ik tn jt ++ (wA cI (r 1) 100 T ++ (wA cI (r 2) 100 K ++ (wA cI (r 3) 100 X ++ (wA cI (r 4) 100 Y1 ++ (wA cI (r 5) 8 (fR u.1) ++ (wA cI (r 6) 120 TB ++ (wA cI (r 7) 4 (bR SB) ++ (wA cI (r 8) 4 SS ++ (wA cI (r 9) 160 SN)))))))))) (fun _ => rfl) rfl hl.1 rfl (Nat.le_of_ble_eq_true rfl) dX5_swapFor_138 ⟨Nat.le_of_ble_eq_true rfl, Nat.le_of_ble_eq_true rfl⟩ (fun u3 H locs hp4 hP hD hS => ?_)
          obtain ⟨F11, r12⟩ := u3
          replace hp4 : (r12, F11) = noF be F := hp4
          have hP : va_P D vwCl (wRo r ik tn jt ++ (wA cI (r 1) 100 T ++ (wA cI (r 2) 100 K ++ (wA cI (r 3) 100 X ++ (wA cI (r 4) 100 Y1 ++ (wA cI (r 5) 8 (fR F11) ++ (wA cI (r 6) 120 TB ++ (wA cI (r 7) 4 (bR SB) ++ (wA cI (r 8) 4 SS ++ (wA cI (r 9) 160 SN)))))))))) H := hP
          have hD : va_D A (wRo r ik tn jt ++ (wA cI (r 1) 100 T ++ (wA cI (r 2) 100 K ++ (wA cI (r 3) 100 X ++ (wA cI (r 4) 100 Y1 ++ (wA cI (r 5) 8 (fR F11) ++ (wA cI (r 6) 120 TB ++ (wA cI (r 7) 4 (bR SB) ++ (wA cI (r 8) 4 SS ++ (wA cI (r 9) 160 SN)))))))))) := hD
          refine W.eq (g2 := F0 m 141 ls [.int (iI r12)]) rfl ?_
          exact kend ((r12, T, K, ik, SB, SS, SN, tn, TB, F11), X, Y1, jt) hP hS rfl (by unfold m_swapFor; rw [if_neg (by omega)]; simp only [Int.toNat_natCast]; rw [← hr, run_0]; exact sw_r (bv := bv) (by omega) hp4) dX5_swapFor_141
        · exfalso; omega
      | succ k ih =>
        intro t Y1 jt be fe bv lv H locs ls hkt hr hq hP hD hS hl
        refine lv_iload hx hb dX5_swapFor_26 (lv_at hl 4 rfl) ?_
        refine lv_aload_n hx hb dX5_swapFor_28 rfl (lv_at hl 0 rfl) ?_
        refine va_get (D := D) (ci := 4) (v := .ref (r 1)) (C := RX5) (T := TX5) (N := 18) hx hb hts (iT_X5_swapFor_X5) hown hK hP 0 rfl rfl 0 (by decide) (hts (.fieldLink RX5 7 "WordSupperModel" "s" "[I") (by decide +kernel)) (fun _ h9 => h9) rfl dX5_swapFor_29 ?_
        refine x_iconst hx hb dX5_swapFor_32 ?_
        refine x_iald hx hb hK hP 1 0 rfl rfl 0 rfl (by omega) (by decide) (T 0) (gd_at _ (by omega)) dX5_swapFor_33 ?_
        refine x_icmp_ge (tgt := 136) hx hb (by omega) (by omega) dX5_swapFor_34 (by decide) (fun c_34 => ?_) (fun c_34 => ?_)
        · exfalso; omega
        · refine lv_iload hx hb dX5_swapFor_37 (lv_at hl 4 rfl) ?_
          refine x_iconst hx hb dX5_swapFor_39 ?_
          refine x_iadd hx hb dX5_swapFor_40 ?_
          refine x_topi ((t + 1 : Nat) : Int) (by omega) ?_
          refine lv_istore (lv' := [(5, .int (iI ((t + 1 : Nat) : Int))), (0, .ref (r 0)), (1, .int (iI ((n0 : Nat) : Int))), (2, .int (iI be)), (3, .int (iI fe)), (4, .int (iI ((t : Nat) : Int)))]) hx hb dX5_swapFor_41 hl (by decide) rfl (fun ls hl => ?_)
          have L43 : ∀ (k2 c : Nat) (Y2 : Tb) (j2 : Nat → Int) (be2 : Int) (fe2 : Int) (bv2 : Int) (lv2 : Int) (H : Heap) (locs : List Loc) (ls : Array Slot), c + k2 = (T 0).toNat → (run (swI1 T n0 t) k2 c (bv2, lv2) = swO T n0 t (bv, lv)) → ((be2 = -1 ∧ lv2 = 1000000 ∧ bv2 = 0 ∧ ((t = 0 ∧ c = 1) ∨ T 0 < 2)) ∨ (be2 = bv2 ∧ fe2 = lv2 ∧ 0 ≤ lv2 ∧ lv2 ≤ 47952 ∧ 0 ≤ be2 ∧ be2 ≤ 99 ∧ 2 ≤ T 0)) → va_P D vwCl (wRo r ik tn j2 ++ (wA cI (r 1) 100 T ++ (wA cI (r 2) 100 K ++ (wA cI (r 3) 100 X ++ (wA cI (r 4) 100 Y2 ++ (wA cI (r 5) 8 (fR F) ++ (wA cI (r 6) 120 TB ++ (wA cI (r 7) 4 (bR SB) ++ (wA cI (r 8) 4 SS ++ (wA cI (r 9) 160 SN)))))))))) H → va_D A (wRo r ik tn j2 ++ (wA cI (r 1) 100 T ++ (wA cI (r 2) 100 K ++ (wA cI (r 3) 100 X ++ (wA cI (r 4) 100 Y2 ++ (wA cI (r 5) 8 (fR F) ++ (wA cI (r 6) 120 TB ++ (wA cI (r 7) 4 (bR SB) ++ (wA cI (r 8) 4 SS ++ (wA cI (r 9) 160 SN)))))))))) → va_S A s.heap H locs → lv_has ls 8 [(0, .ref (r 0)), (1, .int (iI ((n0 : Nat) : Int))), (2, .int (iI be2)), (3, .int (iI fe2)), (4, .int (iI ((t : Nat) : Int))), (5, .int (iI ((c : Nat) : Int)))] → W pg l e { frames := 7, cells := 0, slots := 0, locals := 155 } s m args below meth c H locs 0 0 Q (F0 m 43 ls []) := by
            intro k2
            induction k2 with
            | zero =>
              intro c Y2 j2 be2 fe2 bv2 lv2 H locs ls hkc hr2 hq2 hP hD hS hl
              refine lv_iload hx hb dX5_swapFor_43 (lv_at hl 5 rfl) ?_
              refine lv_aload_n hx hb dX5_swapFor_45 rfl (lv_at hl 0 rfl) ?_
              refine va_get (D := D) (ci := 4) (v := .ref (r 1)) (C := RX5) (T := TX5) (N := 18) hx hb hts (iT_X5_swapFor_X5) hown hK hP 0 rfl rfl 0 (by decide) (hts (.fieldLink RX5 7 "WordSupperModel" "s" "[I") (by decide +kernel)) (fun _ h9 => h9) rfl dX5_swapFor_46 ?_
              refine x_iconst hx hb dX5_swapFor_49 ?_
              refine x_iald hx hb hK hP 1 0 rfl rfl 0 rfl (by omega) (by decide) (T 0) (gd_at _ (by omega)) dX5_swapFor_50 ?_
              refine x_icmp_ge (tgt := 130) hx hb (by omega) (by omega) dX5_swapFor_51 (by decide) (fun c_51 => ?_) (fun c_51 => ?_)
              · refine x_iinc hx hb 4 ((t + 1 : Nat) : Int) (by omega) [(4, .int (iI ((t + 1 : Nat) : Int))), (0, .ref (r 0)), (1, .int (iI ((n0 : Nat) : Int))), (2, .int (iI be2)), (3, .int (iI fe2)), (5, .int (iI ((c : Nat) : Int)))] dX5_swapFor_130 hl rfl (by decide) rfl (fun ls hl => ?_)
                refine lv_goto (tgt := 26) hx hb dX5_swapFor_133 (by decide) ?_
                exact ih (t + 1) Y2 j2 be2 fe2 bv2 lv2 _ _ _ (by omega) (run_step hr hr2.symm) (by omega) hP hD hS (lv_sub hl [1, 2, 3, 4, 0] rfl)
              · exfalso; omega
            | succ k2 ih2 =>
              intro c Y2 j2 be2 fe2 bv2 lv2 H locs ls hkc hr2 hq2 hP hD hS hl
              refine lv_iload hx hb dX5_swapFor_43 (lv_at hl 5 rfl) ?_
              refine lv_aload_n hx hb dX5_swapFor_45 rfl (lv_at hl 0 rfl) ?_
              refine va_get (D := D) (ci := 4) (v := .ref (r 1)) (C := RX5) (T := TX5) (N := 18) hx hb hts (iT_X5_swapFor_X5) hown hK hP 0 rfl rfl 0 (by decide) (hts (.fieldLink RX5 7 "WordSupperModel" "s" "[I") (by decide +kernel)) (fun _ h9 => h9) rfl dX5_swapFor_46 ?_
              refine x_iconst hx hb dX5_swapFor_49 ?_
              refine x_iald hx hb hK hP 1 0 rfl rfl 0 rfl (by omega) (by decide) (T 0) (gd_at _ (by omega)) dX5_swapFor_50 ?_
              refine x_icmp_ge (tgt := 130) hx hb (by omega) (by omega) dX5_swapFor_51 (by decide) (fun c_51 => ?_) (fun c_51 => ?_)
              · exfalso; omega
              · refine lv_aload_n hx hb dX5_swapFor_54 rfl (lv_at hl 0 rfl) ?_
                refine lv_iload hx hb dX5_swapFor_55 (lv_at hl 4 rfl) ?_
                refine lv_iload hx hb dX5_swapFor_57 (lv_at hl 5 rfl) ?_
                refine x_callV (As := [.int (iI ((t : Nat) : Int)), .int (iI ((c : Nat) : Int))]) (rest := []) ⟨hx, hb, hml, hown, hts⟩ (kX5_exchange r ik tn j2 T t c (by omega) (by omega) (by omega)) (cwV 2 hts gX5_swapFor_X5_exchange rfl rfl rfl ykVX5_exchange ⟨Nat.le_of_ble_eq_true rfl, Nat.le_of_ble_eq_true rfl⟩) hP hK hD hS 0 4 rfl rfl rfl [0, 1] rfl (by decide) (fun _ => rfl) (fun u => wRo r ik tn j2 ++ (wA cI (r 1) 100 u ++ (wA cI (r 2) 100 K ++ (wA cI (r 3) 100 X ++ (wA cI (r 4) 100 Y2 ++ (wA cI (r 5) 8 (fR F) ++ (wA cI (r 6) 120 TB ++ (wA cI (r 7) 4 (bR SB) ++ (wA cI (r 8) 4 SS ++ (wA cI (r 9) 160 SN)))))))))) (fun _ => rfl) rfl hl.1 rfl (Nat.le_of_ble_eq_true rfl) dX5_swapFor_59 ⟨Nat.le_of_ble_eq_true rfl, Nat.le_of_ble_eq_true rfl⟩ (fun u6 H locs hp7 hP hD hS => ?_)
                obtain ⟨T15, rfl⟩ : ∃ z, z = u6 := ⟨_, rfl⟩
                replace hp7 : T15 = exF t c T := hp7
                have hP : va_P D vwCl (wRo r ik tn j2 ++ (wA cI (r 1) 100 T15 ++ (wA cI (r 2) 100 K ++ (wA cI (r 3) 100 X ++ (wA cI (r 4) 100 Y2 ++ (wA cI (r 5) 8 (fR F) ++ (wA cI (r 6) 120 TB ++ (wA cI (r 7) 4 (bR SB) ++ (wA cI (r 8) 4 SS ++ (wA cI (r 9) 160 SN)))))))))) H := hP
                have hD : va_D A (wRo r ik tn j2 ++ (wA cI (r 1) 100 T15 ++ (wA cI (r 2) 100 K ++ (wA cI (r 3) 100 X ++ (wA cI (r 4) 100 Y2 ++ (wA cI (r 5) 8 (fR F) ++ (wA cI (r 6) 120 TB ++ (wA cI (r 7) 4 (bR SB) ++ (wA cI (r 8) 4 SS ++ (wA cI (r 9) 160 SN)))))))))) := hD
                refine W.eq (g2 := F0 m 62 ls []) rfl ?_
                have e_x : T15 = exF t c T := hp7
                have iS := ex_I hI (a := t) (c := c) (by omega) (by omega)
                rw [e_x] at hP hD
                refine lv_aload_n hx hb dX5_swapFor_62 rfl (lv_at hl 0 rfl) ?_
                refine lv_iload_n hx hb dX5_swapFor_63 rfl (lv_at hl 1 rfl) ?_
                refine x_callV (As := [.int (iI ((n0 : Nat) : Int))]) (rest := []) ⟨hx, hb, hml, hown, hts⟩ (kX5_leftThen r ik tn j2 (exF t c T) Y2 n0 B iS.1 (by omega) (by omega)) (cwV 1 hts gX5_swapFor_X5_leftThen rfl rfl rfl ykVX5_leftThen ⟨Nat.le_of_ble_eq_true rfl, Nat.le_of_ble_eq_true rfl⟩) hP hK hD hS 0 4 rfl rfl rfl [0, 1, 4] rfl (by decide) (fun _ => rfl) (fun u => wRo r ik tn u ++ (wA cI (r 1) 100 (exF t c T) ++ (wA cI (r 2) 100 K ++ (wA cI (r 3) 100 X ++ (wA cI (r 4) 100 (exF t c T) ++ (wA cI (r 5) 8 (fR F) ++ (wA cI (r 6) 120 TB ++ (wA cI (r 7) 4 (bR SB) ++ (wA cI (r 8) 4 SS ++ (wA cI (r 9) 160 SN)))))))))) (fun _ => rfl) rfl hl.1 rfl (Nat.le_of_ble_eq_true rfl) dX5_swapFor_64 ⟨Nat.le_of_ble_eq_true rfl, Nat.le_of_ble_eq_true rfl⟩ (fun u9 H locs hp10 hP hD hS => ?_)
                obtain ⟨j18, rfl⟩ : ∃ z, z = u9 := ⟨_, rfl⟩
                have hP : va_P D vwCl (wRo r ik tn j18 ++ (wA cI (r 1) 100 (exF t c T) ++ (wA cI (r 2) 100 K ++ (wA cI (r 3) 100 X ++ (wA cI (r 4) 100 (exF t c T) ++ (wA cI (r 5) 8 (fR F) ++ (wA cI (r 6) 120 TB ++ (wA cI (r 7) 4 (bR SB) ++ (wA cI (r 8) 4 SS ++ (wA cI (r 9) 160 SN)))))))))) H := hP
                have hD : va_D A (wRo r ik tn j18 ++ (wA cI (r 1) 100 (exF t c T) ++ (wA cI (r 2) 100 K ++ (wA cI (r 3) 100 X ++ (wA cI (r 4) 100 (exF t c T) ++ (wA cI (r 5) 8 (fR F) ++ (wA cI (r 6) 120 TB ++ (wA cI (r 7) 4 (bR SB) ++ (wA cI (r 8) 4 SS ++ (wA cI (r 9) 160 SN)))))))))) := hD
                refine W.eq (g2 := F0 m 67 ls [.int (iI (alF (dsF 0 n0 (exF t c T))))]) rfl ?_
                have aV := al_b (dsF_I (m := 0) n0 iS.1).1
                refine lv_istore (lv' := [(6, .int (iI (alF (dsF 0 n0 (exF t c T))))), (0, .ref (r 0)), (1, .int (iI ((n0 : Nat) : Int))), (2, .int (iI be2)), (3, .int (iI fe2)), (4, .int (iI ((t : Nat) : Int))), (5, .int (iI ((c : Nat) : Int)))]) hx hb dX5_swapFor_67 hl (by decide) rfl (fun ls hl => ?_)
                refine lv_aload_n hx hb dX5_swapFor_69 rfl (lv_at hl 1 rfl) ?_
                refine lv_iload hx hb dX5_swapFor_70 (lv_at hl 5 rfl) ?_
                refine lv_iload hx hb dX5_swapFor_72 (lv_at hl 6 rfl) ?_
                refine x_callV (As := [.int (iI ((t : Nat) : Int)), .int (iI ((c : Nat) : Int))]) (rest := []) ⟨hx, hb, hml, hown, hts⟩ (kX5_exchange r ik tn j18 (exF t c T) t c (by omega) (by omega) (by omega)) (cwV 2 hts gX5_swapFor_X5_exchange rfl rfl rfl ykVX5_exchange ⟨Nat.le_of_ble_eq_true rfl, Nat.le_of_ble_eq_true rfl⟩) hP hK hD hS 0 4 rfl rfl rfl [0, 1] rfl (by decide) (fun _ => rfl) (fun u => wRo r ik tn j18 ++ (wA cI (r 1) 100 u ++ (wA cI (r 2) 100 K ++ (wA cI (r 3) 100 X ++ (wA cI (r 4) 100 (exF t c T) ++ (wA cI (r 5) 8 (fR F) ++ (wA cI (r 6) 120 TB ++ (wA cI (r 7) 4 (bR SB) ++ (wA cI (r 8) 4 SS ++ (wA cI (r 9) 160 SN)))))))))) (fun _ => rfl) rfl hl.1 rfl (Nat.le_of_ble_eq_true rfl) dX5_swapFor_74 ⟨Nat.le_of_ble_eq_true rfl, Nat.le_of_ble_eq_true rfl⟩ (fun u12 H locs hp13 hP hD hS => ?_)
                obtain ⟨T111, rfl⟩ : ∃ z, z = u12 := ⟨_, rfl⟩
                replace hp13 : T111 = exF t c (exF t c T) := hp13
                have hP : va_P D vwCl (wRo r ik tn j18 ++ (wA cI (r 1) 100 T111 ++ (wA cI (r 2) 100 K ++ (wA cI (r 3) 100 X ++ (wA cI (r 4) 100 (exF t c T) ++ (wA cI (r 5) 8 (fR F) ++ (wA cI (r 6) 120 TB ++ (wA cI (r 7) 4 (bR SB) ++ (wA cI (r 8) 4 SS ++ (wA cI (r 9) 160 SN)))))))))) H := hP
                have hD : va_D A (wRo r ik tn j18 ++ (wA cI (r 1) 100 T111 ++ (wA cI (r 2) 100 K ++ (wA cI (r 3) 100 X ++ (wA cI (r 4) 100 (exF t c T) ++ (wA cI (r 5) 8 (fR F) ++ (wA cI (r 6) 120 TB ++ (wA cI (r 7) 4 (bR SB) ++ (wA cI (r 8) 4 SS ++ (wA cI (r 9) 160 SN)))))))))) := hD
                refine W.eq (g2 := F0 m 77 ls []) rfl ?_
                rw [hp13, ex_ex (show t ≠ c by omega)] at hP hD
                refine lv_iload_n hx hb dX5_swapFor_77 rfl (lv_at hl 3 rfl) ?_
                refine x_if_lt (tgt := 87) hx hb (by omega) dX5_swapFor_78 (by decide) (fun c_78 => ?_) (fun c_78 => ?_)
                · refine x_iconst hx hb dX5_swapFor_87 ?_
                  refine lv_goto (tgt := 92) hx hb dX5_swapFor_88 (by decide) ?_
                  refine lv_istore (lv' := [(7, .int (iI 1)), (6, .int (iI (alF (dsF 0 n0 (exF t c T))))), (0, .ref (r 0)), (1, .int (iI ((n0 : Nat) : Int))), (2, .int (iI be2)), (3, .int (iI fe2)), (4, .int (iI ((t : Nat) : Int))), (5, .int (iI ((c : Nat) : Int)))]) hx hb dX5_swapFor_92 hl (by decide) rfl (fun ls hl => ?_)
                  refine lv_iload hx hb dX5_swapFor_94 (lv_at hl 0 rfl) ?_
                  refine x_if_eq (tgt := 110) hx hb (by decide) dX5_swapFor_96 (by decide) (fun c_96 => ?_) (fun c_96 => ?_)
                  · exact absurd c_96 (by decide)
                  · refine x_bipush hx hb dX5_swapFor_99 (by decide) ?_
                    refine lv_iload hx hb dX5_swapFor_101 (lv_at hl 6 rfl) ?_
                    refine x_imul hx hb dX5_swapFor_103 ?_
                    refine lv_iload hx hb dX5_swapFor_104 (lv_at hl 7 rfl) ?_
                    refine x_iadd hx hb dX5_swapFor_106 ?_
                    refine lv_goto (tgt := 111) hx hb dX5_swapFor_107 (by decide) ?_
                    refine lv_istore_n (lv' := [(2, .int (iI ((8 * ((t : Nat) : Int)) + ((c : Nat) : Int)))), (7, .int (iI 1)), (6, .int (iI (alF (dsF 0 n0 (exF t c T))))), (0, .ref (r 0)), (1, .int (iI ((n0 : Nat) : Int))), (3, .int (iI fe2)), (4, .int (iI ((t : Nat) : Int))), (5, .int (iI ((c : Nat) : Int)))]) hx hb dX5_swapFor_111 rfl hl (by decide) rfl (fun ls hl => ?_)
                    refine lv_iload hx hb dX5_swapFor_112 (lv_at hl 1 rfl) ?_
                    refine x_if_eq (tgt := 122) hx hb (by decide) dX5_swapFor_114 (by decide) (fun c_114 => ?_) (fun c_114 => ?_)
                    · exact absurd c_114 (by decide)
                    · refine lv_iload hx hb dX5_swapFor_117 (lv_at hl 2 rfl) ?_
                      refine lv_goto (tgt := 123) hx hb dX5_swapFor_119 (by decide) ?_
                      refine lv_istore_n (lv' := [(3, .int (iI (alF (dsF 0 n0 (exF t c T))))), (2, .int (iI ((8 * ((t : Nat) : Int)) + ((c : Nat) : Int)))), (7, .int (iI 1)), (6, .int (iI (alF (dsF 0 n0 (exF t c T))))), (0, .ref (r 0)), (1, .int (iI ((n0 : Nat) : Int))), (4, .int (iI ((t : Nat) : Int))), (5, .int (iI ((c : Nat) : Int)))]) hx hb dX5_swapFor_123 rfl hl (by decide) rfl (fun ls hl => ?_)
                      refine x_iinc hx hb 7 ((c + 1 : Nat) : Int) (by omega) [(5, .int (iI ((c + 1 : Nat) : Int))), (3, .int (iI (alF (dsF 0 n0 (exF t c T))))), (2, .int (iI ((8 * ((t : Nat) : Int)) + ((c : Nat) : Int)))), (7, .int (iI 1)), (6, .int (iI (alF (dsF 0 n0 (exF t c T))))), (0, .ref (r 0)), (1, .int (iI ((n0 : Nat) : Int))), (4, .int (iI ((t : Nat) : Int)))] dX5_swapFor_124 hl rfl (by decide) rfl (fun ls hl => ?_)
                      refine lv_goto (tgt := 43) hx hb dX5_swapFor_127 (by decide) ?_
                      exact ih2 (c + 1) (exF t c T) j18 ((8 * ((t : Nat) : Int)) + ((c : Nat) : Int)) (alF (dsF 0 n0 (exF t c T))) (8 * ((t : Nat) : Int) + ((c : Nat) : Int)) (alF (dsF 0 n0 (exF t c T))) _ _ _ (by omega) (run_step hr2 (by unfold swI1 swV; rw [if_pos (by (try dsimp only); omega)])) (by omega) hP hD hS (lv_sub hl [5, 6, 2, 1, 7, 0] rfl)
                · refine lv_iload hx hb dX5_swapFor_81 (lv_at hl 0 rfl) ?_
                  refine lv_iload_n hx hb dX5_swapFor_83 rfl (lv_at hl 4 rfl) ?_
                  refine x_icmp_ge (tgt := 91) hx hb (by omega) (by omega) dX5_swapFor_84 (by decide) (fun c_84 => ?_) (fun c_84 => ?_)
                  · refine x_iconst hx hb dX5_swapFor_91 ?_
                    refine lv_istore (lv' := [(7, .int (iI 0)), (6, .int (iI (alF (dsF 0 n0 (exF t c T))))), (0, .ref (r 0)), (1, .int (iI ((n0 : Nat) : Int))), (2, .int (iI be2)), (3, .int (iI fe2)), (4, .int (iI ((t : Nat) : Int))), (5, .int (iI ((c : Nat) : Int)))]) hx hb dX5_swapFor_92 hl (by decide) rfl (fun ls hl => ?_)
                    refine lv_iload hx hb dX5_swapFor_94 (lv_at hl 0 rfl) ?_
                    refine x_if_eq (tgt := 110) hx hb (by decide) dX5_swapFor_96 (by decide) (fun c_96 => ?_) (fun c_96 => ?_)
                    · refine lv_iload_n hx hb dX5_swapFor_110 rfl (lv_at hl 4 rfl) ?_
                      refine lv_istore_n (lv' := [(2, .int (iI be2)), (7, .int (iI 0)), (6, .int (iI (alF (dsF 0 n0 (exF t c T))))), (0, .ref (r 0)), (1, .int (iI ((n0 : Nat) : Int))), (3, .int (iI fe2)), (4, .int (iI ((t : Nat) : Int))), (5, .int (iI ((c : Nat) : Int)))]) hx hb dX5_swapFor_111 rfl hl (by decide) rfl (fun ls hl => ?_)
                      refine lv_iload hx hb dX5_swapFor_112 (lv_at hl 1 rfl) ?_
                      refine x_if_eq (tgt := 122) hx hb (by decide) dX5_swapFor_114 (by decide) (fun c_114 => ?_) (fun c_114 => ?_)
                      · refine lv_iload_n hx hb dX5_swapFor_122 rfl (lv_at hl 5 rfl) ?_
                        refine lv_istore_n (lv' := [(3, .int (iI fe2)), (2, .int (iI be2)), (7, .int (iI 0)), (6, .int (iI (alF (dsF 0 n0 (exF t c T))))), (0, .ref (r 0)), (1, .int (iI ((n0 : Nat) : Int))), (4, .int (iI ((t : Nat) : Int))), (5, .int (iI ((c : Nat) : Int)))]) hx hb dX5_swapFor_123 rfl hl (by decide) rfl (fun ls hl => ?_)
                        refine x_iinc hx hb 7 ((c + 1 : Nat) : Int) (by omega) [(5, .int (iI ((c + 1 : Nat) : Int))), (3, .int (iI fe2)), (2, .int (iI be2)), (7, .int (iI 0)), (6, .int (iI (alF (dsF 0 n0 (exF t c T))))), (0, .ref (r 0)), (1, .int (iI ((n0 : Nat) : Int))), (4, .int (iI ((t : Nat) : Int)))] dX5_swapFor_124 hl rfl (by decide) rfl (fun ls hl => ?_)
                        refine lv_goto (tgt := 43) hx hb dX5_swapFor_127 (by decide) ?_
                        exact ih2 (c + 1) (exF t c T) j18 be2 fe2 bv2 lv2 _ _ _ (by omega) (run_step hr2 (by unfold swI1 swV; rw [if_neg (by (try dsimp only); omega)])) (by omega) hP hD hS (lv_sub hl [5, 6, 2, 1, 7, 0] rfl)
                      · exact absurd c_114 (by decide)
                    · exact absurd c_96 (by decide)
                  · refine x_iconst hx hb dX5_swapFor_87 ?_
                    refine lv_goto (tgt := 92) hx hb dX5_swapFor_88 (by decide) ?_
                    refine lv_istore (lv' := [(7, .int (iI 1)), (6, .int (iI (alF (dsF 0 n0 (exF t c T))))), (0, .ref (r 0)), (1, .int (iI ((n0 : Nat) : Int))), (2, .int (iI be2)), (3, .int (iI fe2)), (4, .int (iI ((t : Nat) : Int))), (5, .int (iI ((c : Nat) : Int)))]) hx hb dX5_swapFor_92 hl (by decide) rfl (fun ls hl => ?_)
                    refine lv_iload hx hb dX5_swapFor_94 (lv_at hl 0 rfl) ?_
                    refine x_if_eq (tgt := 110) hx hb (by decide) dX5_swapFor_96 (by decide) (fun c_96 => ?_) (fun c_96 => ?_)
                    · exact absurd c_96 (by decide)
                    · refine x_bipush hx hb dX5_swapFor_99 (by decide) ?_
                      refine lv_iload hx hb dX5_swapFor_101 (lv_at hl 6 rfl) ?_
                      refine x_imul hx hb dX5_swapFor_103 ?_
                      refine lv_iload hx hb dX5_swapFor_104 (lv_at hl 7 rfl) ?_
                      refine x_iadd hx hb dX5_swapFor_106 ?_
                      refine lv_goto (tgt := 111) hx hb dX5_swapFor_107 (by decide) ?_
                      refine lv_istore_n (lv' := [(2, .int (iI ((8 * ((t : Nat) : Int)) + ((c : Nat) : Int)))), (7, .int (iI 1)), (6, .int (iI (alF (dsF 0 n0 (exF t c T))))), (0, .ref (r 0)), (1, .int (iI ((n0 : Nat) : Int))), (3, .int (iI fe2)), (4, .int (iI ((t : Nat) : Int))), (5, .int (iI ((c : Nat) : Int)))]) hx hb dX5_swapFor_111 rfl hl (by decide) rfl (fun ls hl => ?_)
                      refine lv_iload hx hb dX5_swapFor_112 (lv_at hl 1 rfl) ?_
                      refine x_if_eq (tgt := 122) hx hb (by decide) dX5_swapFor_114 (by decide) (fun c_114 => ?_) (fun c_114 => ?_)
                      · exact absurd c_114 (by decide)
                      · refine lv_iload hx hb dX5_swapFor_117 (lv_at hl 2 rfl) ?_
                        refine lv_goto (tgt := 123) hx hb dX5_swapFor_119 (by decide) ?_
                        refine lv_istore_n (lv' := [(3, .int (iI (alF (dsF 0 n0 (exF t c T))))), (2, .int (iI ((8 * ((t : Nat) : Int)) + ((c : Nat) : Int)))), (7, .int (iI 1)), (6, .int (iI (alF (dsF 0 n0 (exF t c T))))), (0, .ref (r 0)), (1, .int (iI ((n0 : Nat) : Int))), (4, .int (iI ((t : Nat) : Int))), (5, .int (iI ((c : Nat) : Int)))]) hx hb dX5_swapFor_123 rfl hl (by decide) rfl (fun ls hl => ?_)
                        refine x_iinc hx hb 7 ((c + 1 : Nat) : Int) (by omega) [(5, .int (iI ((c + 1 : Nat) : Int))), (3, .int (iI (alF (dsF 0 n0 (exF t c T))))), (2, .int (iI ((8 * ((t : Nat) : Int)) + ((c : Nat) : Int)))), (7, .int (iI 1)), (6, .int (iI (alF (dsF 0 n0 (exF t c T))))), (0, .ref (r 0)), (1, .int (iI ((n0 : Nat) : Int))), (4, .int (iI ((t : Nat) : Int)))] dX5_swapFor_124 hl rfl (by decide) rfl (fun ls hl => ?_)
                        refine lv_goto (tgt := 43) hx hb dX5_swapFor_127 (by decide) ?_
                        exact ih2 (c + 1) (exF t c T) j18 ((8 * ((t : Nat) : Int)) + ((c : Nat) : Int)) (alF (dsF 0 n0 (exF t c T))) (8 * ((t : Nat) : Int) + ((c : Nat) : Int)) (alF (dsF 0 n0 (exF t c T))) _ _ _ (by omega) (run_step hr2 (by unfold swI1 swV; rw [if_pos (by (try dsimp only); omega)])) (by omega) hP hD hS (lv_sub hl [5, 6, 2, 1, 7, 0] rfl)
          exact L43 ((T 0).toNat - (t + 1)) (t + 1) Y1 jt be fe bv lv _ _ _ (by omega) rfl (by omega) hP hD hS (lv_sub hl [1, 2, 3, 4, 5, 0] rfl)
    exact L26 (T 0).toNat 0 Y j (-1) 0 0 1000000 _ _ _ (by omega) rfl (by omega) hP hD hS (lv_sub hl [3, 4, 2, 1, 0] rfl)
  · refine lv_aload_n hx hb dX5_swapFor_12 rfl (lv_at hl 0 rfl) ?_
    refine x_ldc hx hb (-1000001) rfl hown (hts (.constant RX5 37 (-1000001)) (by decide +kernel)) dX5_swapFor_13 ?_
    refine x_callV (As := [.int (iI (-1000001))]) (rest := []) ⟨hx, hb, hml, hown, hts⟩ (kX5_finds r ik tn j F (-1000001) 0 (by omega) (by omega)) (cwV 1 hts gX5_swapFor_X5_finds rfl rfl rfl ykVX5_finds ⟨Nat.le_of_ble_eq_true rfl, Nat.le_of_ble_eq_true rfl⟩) hP hK hD hS 0 4 rfl rfl rfl [0, 5] rfl (by decide) (fun _ => rfl) (fun _ => wRo r ik tn j ++ (wA cI (r 1) 100 T ++ (wA cI (r 2) 100 K ++ (wA cI (r 3) 100 X ++ (wA cI (r 4) 100 Y ++ (wA cI (r 5) 8 (fR (bmp 0 F)) ++ (wA cI (r 6) 120 TB ++ (wA cI (r 7) 4 (bR SB) ++ (wA cI (r 8) 4 SS ++ (wA cI (r 9) 160 SN)))))))))) (fun _ => rfl) rfl hl.1 rfl (Nat.le_of_ble_eq_true rfl) dX5_swapFor_15 ⟨Nat.le_of_ble_eq_true rfl, Nat.le_of_ble_eq_true rfl⟩ (fun _ H locs _ hP hD hS => ?_)
    refine W.eq (g2 := F0 m 18 ls [.int (iI (-1000001))]) rfl ?_
    exact kend (((-1000001), T, K, ik, SB, SS, SN, tn, TB, (bmp 0 F)), X, Y, j) hP hS rfl (if_pos (by omega)).symm dX5_swapFor_18
theorem ykSX5_fits : yX5_fits.cls ≠ "java/lang/invoke/MethodHandle" ∧ yX5_fits.cls ≠ "java/lang/invoke/VarHandle" ∧ (parseMethodDescriptor yX5_fits.desc).map (fun d => d.parameters.length) = some 2 := by decide +kernel
theorem ykVX5_fits : yX5_fits.cls = RX5 ∧ yX5_fits.cls ≠ "java/lang/invoke/MethodHandle" ∧ yX5_fits.cls ≠ "java/lang/invoke/VarHandle" ∧ (parseMethodDescriptor yX5_fits.desc).map (fun d => d.parameters.length) = some 2 := ⟨rfl, ykSX5_fits⟩
set_option maxRecDepth 20000 in
theorem iT_X5_fits_X5 : ∀ w ∈ u_ws RX5 TX5 18, w ∈ wsX5_fits := by decide +kernel
set_option maxHeartbeats 4000000 in
set_option maxRecDepth 100000 in
theorem kX5_fits {l : Launch} {D : va_G} {cI cB : ClassId} (r : Nat → Nat) (T K : Tb) (ik : Int) (SB SS SN : Nat → Int) (tn : Int) (TB F : Nat → Int) (X Y : Tb) (j : Nat → Int) (s0 sp : Int) (B : Int) (hG : GI B T K ik SB SS SN tn TB F) (hB : B ≤ 40000) (h_s0 : rI s0) (h_sp : rI sp) : Ct l yX5_fits wsX5_fits 6 136 D [(cI, .int), (cB, .byte)] [.ref (r 0), .int (iI s0), .int (iI sp)] (wM cI r (T, K, ik, SB, SS, SN, tn, TB, F) X Y j) (S := (Int × Gs) × Tb × Tb × (Nat → Int)) (fun u => some (.int (iI u.1.1))) (fun u => u.1 = m_fits s0 sp T K ik SB SS SN tn TB F) (fun u => wM cI r u.1.2 u.2.1 u.2.2.1 u.2.2.2) := by
  refine CtI.of (cc := cX5_fits) (maxL := 7) (by decide +kernel) rfl (Nat.le_of_ble_eq_true rfl) ?_
  intro pg e s m args below meth c Q A hx hb hml hts hown hP hK hD hS ls hl kend
  have hown : s.vm.findClass RX5 = some m.cls := hown
  have hl : lv_has ls 7 [(0, .ref (r 0)), (1, .int (iI s0)), (2, .int (iI sp))] := hl
  obtain ⟨hI, hIK, hik, hSB, hSS, hSN, htn, hTB, hF⟩ := id hG
  have hn := Inv_n hI
  have hdy := Inv_d hI
  have hP : va_P D vwCl (wRo r ik tn j ++ (wA cI (r 1) 100 T ++ (wA cI (r 2) 100 K ++ (wA cI (r 3) 100 X ++ (wA cI (r 4) 100 Y ++ (wA cI (r 5) 8 (fR F) ++ (wA cI (r 6) 120 TB ++ (wA cI (r 7) 4 (bR SB) ++ (wA cI (r 8) 4 SS ++ (wA cI (r 9) 160 SN)))))))))) s.heap := hP
  have hD : va_D A (wRo r ik tn j ++ (wA cI (r 1) 100 T ++ (wA cI (r 2) 100 K ++ (wA cI (r 3) 100 X ++ (wA cI (r 4) 100 Y ++ (wA cI (r 5) 8 (fR F) ++ (wA cI (r 6) 120 TB ++ (wA cI (r 7) 4 (bR SB) ++ (wA cI (r 8) 4 SS ++ (wA cI (r 9) 160 SN)))))))))) := hD
  have hwt := wtF_c SB (T 0) s0 sp
  refine lv_aload_n hx hb dX5_fits_0 rfl (lv_at hl 0 rfl) ?_
  refine lv_iload_n hx hb dX5_fits_1 rfl (lv_at hl 1 rfl) ?_
  refine lv_iload_n hx hb dX5_fits_2 rfl (lv_at hl 2 rfl) ?_
  refine x_callV (As := [.int (iI s0), .int (iI sp)]) (rest := []) ⟨hx, hb, hml, hown, hts⟩ (kX5_wantsFor r ik tn j T SB s0 sp (by omega) (by omega) (by omega) hSB) (cwV 2 hts gX5_fits_X5_wantsFor rfl rfl rfl ykVX5_wantsFor ⟨Nat.le_of_ble_eq_true rfl, Nat.le_of_ble_eq_true rfl⟩) hP hK hD hS 0 4 rfl rfl rfl [0, 1, 7] rfl (by decide) (fun _ => rfl) (fun _ => wRo r ik tn j ++ (wA cI (r 1) 100 T ++ (wA cI (r 2) 100 K ++ (wA cI (r 3) 100 X ++ (wA cI (r 4) 100 Y ++ (wA cI (r 5) 8 (fR F) ++ (wA cI (r 6) 120 TB ++ (wA cI (r 7) 4 (bR SB) ++ (wA cI (r 8) 4 SS ++ (wA cI (r 9) 160 SN)))))))))) (fun _ => rfl) rfl hl.1 rfl (Nat.le_of_ble_eq_true rfl) dX5_fits_3 ⟨Nat.le_of_ble_eq_true rfl, Nat.le_of_ble_eq_true rfl⟩ (fun _ H locs _ hP hD hS => ?_)
  refine W.eq (g2 := F0 m 6 ls [.int (iI (wtF SB (T 0) s0 sp))]) rfl ?_
  refine lv_istore_n (lv' := [(3, .int (iI (wtF SB (T 0) s0 sp))), (0, .ref (r 0)), (1, .int (iI s0)), (2, .int (iI sp))]) hx hb dX5_fits_6 rfl hl (by decide) rfl (fun ls hl => ?_)
  refine lv_iload_n hx hb dX5_fits_7 rfl (lv_at hl 0 rfl) ?_
  refine x_if_eq (tgt := 17) hx hb (by omega) dX5_fits_8 (by decide) (fun c_8 => ?_) (fun c_8 => ?_)
  · have hs9 := wtF_0 (show wtF SB (T 0) s0 sp = 0 by omega)
    obtain ⟨s1, rfl⟩ : ∃ s1 : Nat, s0 = (s1 : Int) := ⟨s0.toNat, by omega⟩
    obtain ⟨p0, rfl⟩ : ∃ p0 : Nat, sp = (p0 : Int) := ⟨sp.toNat, by omega⟩
    refine x_iconst hx hb dX5_fits_17 ?_
    refine lv_istore (lv' := [(4, .int (iI 0)), (3, .int (iI (wtF SB (T 0) ((s1 : Nat) : Int) ((p0 : Nat) : Int)))), (0, .ref (r 0)), (1, .int (iI ((s1 : Nat) : Int))), (2, .int (iI ((p0 : Nat) : Int)))]) hx hb dX5_fits_18 hl (by decide) rfl (fun ls hl => ?_)
    refine x_iconst hx hb dX5_fits_20 ?_
    refine lv_istore (lv' := [(5, .int (iI 0)), (4, .int (iI 0)), (3, .int (iI (wtF SB (T 0) ((s1 : Nat) : Int) ((p0 : Nat) : Int)))), (0, .ref (r 0)), (1, .int (iI ((s1 : Nat) : Int))), (2, .int (iI ((p0 : Nat) : Int)))]) hx hb dX5_fits_21 hl (by decide) rfl (fun ls hl => ?_)
    have L23 : ∀ (k t : Nat) (Y1 : Tb) (jt : Nat → Int) (sv : Int) (H : Heap) (locs : List Loc) (ls : Array Slot), t + k = 6 → (run (seS (fun (t : Nat) => toF SN (40 * s1) p0 (SS s1).toNat 0 (va_up T (cx p0 (4 + t)) (min 999 (T (cx p0 (4 + t)) + 1))))) k t sv = seF (fun (t : Nat) => toF SN (40 * s1) p0 (SS s1).toNat 0 (va_up T (cx p0 (4 + t)) (min 999 (T (cx p0 (4 + t)) + 1)))) 6) → (rI sv) → va_P D vwCl (wRo r ik tn jt ++ (wA cI (r 1) 100 T ++ (wA cI (r 2) 100 K ++ (wA cI (r 3) 100 X ++ (wA cI (r 4) 100 Y1 ++ (wA cI (r 5) 8 (fR F) ++ (wA cI (r 6) 120 TB ++ (wA cI (r 7) 4 (bR SB) ++ (wA cI (r 8) 4 SS ++ (wA cI (r 9) 160 SN)))))))))) H → va_D A (wRo r ik tn jt ++ (wA cI (r 1) 100 T ++ (wA cI (r 2) 100 K ++ (wA cI (r 3) 100 X ++ (wA cI (r 4) 100 Y1 ++ (wA cI (r 5) 8 (fR F) ++ (wA cI (r 6) 120 TB ++ (wA cI (r 7) 4 (bR SB) ++ (wA cI (r 8) 4 SS ++ (wA cI (r 9) 160 SN)))))))))) → va_S A s.heap H locs → lv_has ls 7 [(0, .ref (r 0)), (1, .int (iI ((s1 : Nat) : Int))), (2, .int (iI ((p0 : Nat) : Int))), (3, .int (iI (wtF SB (T 0) ((s1 : Nat) : Int) ((p0 : Nat) : Int)))), (4, .int (iI sv)), (5, .int (iI ((t : Nat) : Int)))] → W pg l e { frames := 6, cells := 0, slots := 0, locals := 136 } s m args below meth c H locs 0 0 Q (F0 m 23 ls []) := by
      intro k
      induction k with
      | zero =>
        intro t Y1 jt sv H locs ls hkt hr hq hP hD hS hl
        refine lv_iload hx hb dX5_fits_23 (lv_at hl 5 rfl) ?_
        refine x_bipush hx hb dX5_fits_25 (by decide) ?_
        refine x_icmp_ge (tgt := 107) hx hb (by omega) (by decide) dX5_fits_27 (by decide) (fun c_27 => ?_) (fun c_27 => ?_)
        · refine lv_iload hx hb dX5_fits_107 (lv_at hl 4 rfl) ?_
          exact kend ((sv, T, K, ik, SB, SS, SN, tn, TB, F), X, Y1, jt) hP hS rfl (by unfold m_fits; rw [if_neg (by omega)]; simp only [Int.toNat_natCast]; rw [← hr] <;> rfl) dX5_fits_109
        · exfalso; omega
      | succ k ih =>
        intro t Y1 jt sv H locs ls hkt hr hq hP hD hS hl
        refine lv_iload hx hb dX5_fits_23 (lv_at hl 5 rfl) ?_
        refine x_bipush hx hb dX5_fits_25 (by decide) ?_
        refine x_icmp_ge (tgt := 107) hx hb (by omega) (by decide) dX5_fits_27 (by decide) (fun c_27 => ?_) (fun c_27 => ?_)
        · exfalso; omega
        · have hq1 := Inv_pl (p := p0) hI (by omega) (show t < 6 by omega)
          refine lv_aload_n hx hb dX5_fits_30 rfl (lv_at hl 0 rfl) ?_
          refine lv_iload_n hx hb dX5_fits_31 rfl (lv_at hl 2 rfl) ?_
          refine x_iconst hx hb dX5_fits_32 ?_
          refine lv_iload hx hb dX5_fits_33 (lv_at hl 5 rfl) ?_
          refine x_iadd hx hb dX5_fits_35 ?_
          refine x_topi ((4 + t : Nat) : Int) (by omega) ?_
          refine x_callV (As := [.int (iI ((p0 : Nat) : Int)), .int (iI ((4 + t : Nat) : Int))]) (rest := []) ⟨hx, hb, hml, hown, hts⟩ (kX5_its r ik tn jt T p0 (4 + t) (by omega) (by omega)) (cwV 2 hts gX5_fits_X5_its rfl rfl rfl ykVX5_its ⟨Nat.le_of_ble_eq_true rfl, Nat.le_of_ble_eq_true rfl⟩) hP hK hD hS 0 4 rfl rfl rfl [0, 1] rfl (by decide) (fun _ => rfl) (fun _ => wRo r ik tn jt ++ (wA cI (r 1) 100 T ++ (wA cI (r 2) 100 K ++ (wA cI (r 3) 100 X ++ (wA cI (r 4) 100 Y1 ++ (wA cI (r 5) 8 (fR F) ++ (wA cI (r 6) 120 TB ++ (wA cI (r 7) 4 (bR SB) ++ (wA cI (r 8) 4 SS ++ (wA cI (r 9) 160 SN)))))))))) (fun _ => rfl) rfl hl.1 rfl (Nat.le_of_ble_eq_true rfl) dX5_fits_36 ⟨Nat.le_of_ble_eq_true rfl, Nat.le_of_ble_eq_true rfl⟩ (fun _ H locs _ hP hD hS => ?_)
          refine W.eq (g2 := F0 m 39 ls [.int (iI (T (cx p0 (4 + t))))]) rfl ?_
          refine lv_istore (lv' := [(6, .int (iI (T (cx p0 (4 + t))))), (0, .ref (r 0)), (1, .int (iI ((s1 : Nat) : Int))), (2, .int (iI ((p0 : Nat) : Int))), (3, .int (iI (wtF SB (T 0) ((s1 : Nat) : Int) ((p0 : Nat) : Int)))), (4, .int (iI sv)), (5, .int (iI ((t : Nat) : Int)))]) hx hb dX5_fits_39 hl (by decide) rfl (fun ls hl => ?_)
          refine lv_aload_n hx hb dX5_fits_41 rfl (lv_at hl 1 rfl) ?_
          refine va_get (D := D) (ci := 4) (v := .ref (r 1)) (C := RX5) (T := TX5) (N := 18) hx hb hts (iT_X5_fits_X5) hown hK hP 0 rfl rfl 0 (by decide) (hts (.fieldLink RX5 7 "WordSupperModel" "s" "[I") (by decide +kernel)) (fun _ h9 => h9) rfl dX5_fits_42 ?_
          refine lv_iload_n hx hb dX5_fits_45 rfl (lv_at hl 3 rfl) ?_
          refine x_iconst hx hb dX5_fits_46 ?_
          refine lv_iload hx hb dX5_fits_47 (lv_at hl 6 rfl) ?_
          refine x_iadd hx hb dX5_fits_49 ?_
          refine x_topi ((4 + t : Nat) : Int) (by omega) ?_
          refine x_callS (As := [.int (iI ((p0 : Nat) : Int)), .int (iI ((4 + t : Nat) : Int))]) (rest := [.ref (r 1)]) ⟨hx, hb, hml, hown, hts⟩ (kX5_at p0 (4 + t) ) (va_cwS 2 hts gX5_fits_X5_at rfl rfl rfl ykSX5_at ⟨Nat.le_of_ble_eq_true rfl, Nat.le_of_ble_eq_true rfl⟩) hP hK hD hS [] rfl (by decide) (fun _ => rfl) (fun _ => wRo r ik tn jt ++ (wA cI (r 1) 100 T ++ (wA cI (r 2) 100 K ++ (wA cI (r 3) 100 X ++ (wA cI (r 4) 100 Y1 ++ (wA cI (r 5) 8 (fR F) ++ (wA cI (r 6) 120 TB ++ (wA cI (r 7) 4 (bR SB) ++ (wA cI (r 8) 4 SS ++ (wA cI (r 9) 160 SN)))))))))) (fun _ => rfl) rfl hl.1 rfl (Nat.le_of_ble_eq_true rfl) dX5_fits_50 ⟨Nat.le_of_ble_eq_true rfl, Nat.le_of_ble_eq_true rfl⟩ (fun _ H locs _ hP hD hS => ?_)
          refine W.eq (g2 := F0 m 53 ls [.int (iI ((cx p0 (4 + t) : Nat) : Int)), .ref (r 1)]) rfl ?_
          refine x_sipush hx hb dX5_fits_53 (by decide) ?_
          refine lv_iload hx hb dX5_fits_56 (lv_at hl 0 rfl) ?_
          refine x_iconst hx hb dX5_fits_58 ?_
          refine x_iadd hx hb dX5_fits_59 ?_
          refine x_callS (As := [.int (iI 999), .int (iI ((T (cx p0 (4 + t))) + 1))]) (rest := [.int (iI ((cx p0 (4 + t) : Nat) : Int)), .ref (r 1)]) ⟨hx, hb, hml, hown, hts⟩ (kX5_least 999 ((T (cx p0 (4 + t))) + 1) (by omega) (by omega)) (va_cwS 2 hts gX5_fits_X5_least rfl rfl rfl ykSX5_least ⟨Nat.le_of_ble_eq_true rfl, Nat.le_of_ble_eq_true rfl⟩) hP hK hD hS [] rfl (by decide) (fun _ => rfl) (fun _ => wRo r ik tn jt ++ (wA cI (r 1) 100 T ++ (wA cI (r 2) 100 K ++ (wA cI (r 3) 100 X ++ (wA cI (r 4) 100 Y1 ++ (wA cI (r 5) 8 (fR F) ++ (wA cI (r 6) 120 TB ++ (wA cI (r 7) 4 (bR SB) ++ (wA cI (r 8) 4 SS ++ (wA cI (r 9) 160 SN)))))))))) (fun _ => rfl) rfl hl.1 rfl (Nat.le_of_ble_eq_true rfl) dX5_fits_60 ⟨Nat.le_of_ble_eq_true rfl, Nat.le_of_ble_eq_true rfl⟩ (fun _ H locs _ hP hD hS => ?_)
          refine W.eq (g2 := F0 m 63 ls [.int (iI (min 999 ((T (cx p0 (4 + t))) + 1))), .int (iI ((cx p0 (4 + t) : Nat) : Int)), .ref (r 1)]) rfl ?_
          refine x_iast hx hb hK hP hD hS 1 0 rfl rfl (cx p0 (4 + t)) rfl (cx_lt1 (by omega) (by omega)) (by decide) (wRo r ik tn jt ++ (wA cI (r 1) 100 (va_up T (cx p0 (4 + t)) (min 999 ((T (cx p0 (4 + t))) + 1))) ++ (wA cI (r 2) 100 K ++ (wA cI (r 3) 100 X ++ (wA cI (r 4) 100 Y1 ++ (wA cI (r 5) 8 (fR F) ++ (wA cI (r 6) 120 TB ++ (wA cI (r 7) 4 (bR SB) ++ (wA cI (r 8) 4 SS ++ (wA cI (r 9) 160 SN)))))))))) (by rw [← wA_up cI (r 1) 100 T (min 999 ((T (cx p0 (4 + t))) + 1)) (cx p0 (4 + t)) (cx_lt1 (by omega) (by omega))]; rfl) dX5_fits_63 (fun H locs hP hD hS => ?_)
          have iS : Inv B ((va_up T (cx p0 (4 + t)) (min 999 ((T (cx p0 (4 + t))) + 1)))) := Inv_cx hI (by omega) (by omega) (fun _ => pkd_pl (by omega))
          have nS : ((va_up T (cx p0 (4 + t)) (min 999 ((T (cx p0 (4 + t))) + 1)))) 0 = T 0 := up_lo _ _ (by omega)
          refine lv_iload hx hb dX5_fits_64 (lv_at hl 5 rfl) ?_
          refine lv_aload_n hx hb dX5_fits_66 rfl (lv_at hl 1 rfl) ?_
          refine lv_iload_n hx hb dX5_fits_67 rfl (lv_at hl 2 rfl) ?_
          refine lv_iload_n hx hb dX5_fits_68 rfl (lv_at hl 3 rfl) ?_
          refine x_callV (As := [.int (iI ((s1 : Nat) : Int)), .int (iI ((p0 : Nat) : Int))]) (rest := [.int (iI sv)]) ⟨hx, hb, hml, hown, hts⟩ (kX5_isTold r ik tn jt (va_up T (cx p0 (4 + t)) (min 999 ((T (cx p0 (4 + t))) + 1))) Y1 SS SN s1 p0 B iS (by omega) (by rw [nS]; omega) (by omega) hSS hSN) (cwV 2 hts gX5_fits_X5_isTold rfl rfl rfl ykVX5_isTold ⟨Nat.le_of_ble_eq_true rfl, Nat.le_of_ble_eq_true rfl⟩) hP hK hD hS 0 4 rfl rfl rfl [0, 1, 4, 8, 9] rfl (by decide) (fun _ => rfl) (fun u => wRo r ik tn u ++ (wA cI (r 1) 100 (va_up T (cx p0 (4 + t)) (min 999 ((T (cx p0 (4 + t))) + 1))) ++ (wA cI (r 2) 100 K ++ (wA cI (r 3) 100 X ++ (wA cI (r 4) 100 (va_up T (cx p0 (4 + t)) (min 999 ((T (cx p0 (4 + t))) + 1))) ++ (wA cI (r 5) 8 (fR F) ++ (wA cI (r 6) 120 TB ++ (wA cI (r 7) 4 (bR SB) ++ (wA cI (r 8) 4 SS ++ (wA cI (r 9) 160 SN)))))))))) (fun _ => rfl) rfl hl.1 rfl (Nat.le_of_ble_eq_true rfl) dX5_fits_69 ⟨Nat.le_of_ble_eq_true rfl, Nat.le_of_ble_eq_true rfl⟩ (fun u2 H locs hp3 hP hD hS => ?_)
          obtain ⟨j11, rfl⟩ : ∃ z, z = u2 := ⟨_, rfl⟩
          have hP : va_P D vwCl (wRo r ik tn j11 ++ (wA cI (r 1) 100 (va_up T (cx p0 (4 + t)) (min 999 ((T (cx p0 (4 + t))) + 1))) ++ (wA cI (r 2) 100 K ++ (wA cI (r 3) 100 X ++ (wA cI (r 4) 100 (va_up T (cx p0 (4 + t)) (min 999 ((T (cx p0 (4 + t))) + 1))) ++ (wA cI (r 5) 8 (fR F) ++ (wA cI (r 6) 120 TB ++ (wA cI (r 7) 4 (bR SB) ++ (wA cI (r 8) 4 SS ++ (wA cI (r 9) 160 SN)))))))))) H := hP
          have hD : va_D A (wRo r ik tn j11 ++ (wA cI (r 1) 100 (va_up T (cx p0 (4 + t)) (min 999 ((T (cx p0 (4 + t))) + 1))) ++ (wA cI (r 2) 100 K ++ (wA cI (r 3) 100 X ++ (wA cI (r 4) 100 (va_up T (cx p0 (4 + t)) (min 999 ((T (cx p0 (4 + t))) + 1))) ++ (wA cI (r 5) 8 (fR F) ++ (wA cI (r 6) 120 TB ++ (wA cI (r 7) 4 (bR SB) ++ (wA cI (r 8) 4 SS ++ (wA cI (r 9) 160 SN)))))))))) := hD
          refine W.eq (g2 := F0 m 72 ls [.int (iI (b2 (decide (toF SN (40 * s1) p0 (SS s1).toNat 0 (va_up T (cx p0 (4 + t)) (min 999 ((T (cx p0 (4 + t))) + 1))) = true)))), .int (iI sv)]) rfl ?_
          refine x_ifb_eq (tgt := 82) hx hb dX5_fits_72 (by decide) (fun c_72 => ?_) (fun c_72 => ?_)
          · refine x_iconst hx hb dX5_fits_82 ?_
            refine x_ior hx hb dX5_fits_83 ?_
            refine lv_istore (lv' := [(4, .int (iI (orI sv 0))), (6, .int (iI (T (cx p0 (4 + t))))), (0, .ref (r 0)), (1, .int (iI ((s1 : Nat) : Int))), (2, .int (iI ((p0 : Nat) : Int))), (3, .int (iI (wtF SB (T 0) ((s1 : Nat) : Int) ((p0 : Nat) : Int)))), (5, .int (iI ((t : Nat) : Int)))]) hx hb dX5_fits_84 hl (by decide) rfl (fun ls hl => ?_)
            refine lv_aload_n hx hb dX5_fits_86 rfl (lv_at hl 2 rfl) ?_
            refine va_get (D := D) (ci := 4) (v := .ref (r 1)) (C := RX5) (T := TX5) (N := 18) hx hb hts (iT_X5_fits_X5) hown hK hP 0 rfl rfl 0 (by decide) (hts (.fieldLink RX5 7 "WordSupperModel" "s" "[I") (by decide +kernel)) (fun _ h9 => h9) rfl dX5_fits_87 ?_
            refine lv_iload_n hx hb dX5_fits_90 rfl (lv_at hl 4 rfl) ?_
            refine x_iconst hx hb dX5_fits_91 ?_
            refine lv_iload hx hb dX5_fits_92 (lv_at hl 6 rfl) ?_
            refine x_iadd hx hb dX5_fits_94 ?_
            refine x_topi ((4 + t : Nat) : Int) (by omega) ?_
            refine x_callS (As := [.int (iI ((p0 : Nat) : Int)), .int (iI ((4 + t : Nat) : Int))]) (rest := [.ref (r 1)]) ⟨hx, hb, hml, hown, hts⟩ (kX5_at p0 (4 + t) ) (va_cwS 2 hts gX5_fits_X5_at rfl rfl rfl ykSX5_at ⟨Nat.le_of_ble_eq_true rfl, Nat.le_of_ble_eq_true rfl⟩) hP hK hD hS [] rfl (by decide) (fun _ => rfl) (fun _ => wRo r ik tn j11 ++ (wA cI (r 1) 100 (va_up T (cx p0 (4 + t)) (min 999 ((T (cx p0 (4 + t))) + 1))) ++ (wA cI (r 2) 100 K ++ (wA cI (r 3) 100 X ++ (wA cI (r 4) 100 (va_up T (cx p0 (4 + t)) (min 999 ((T (cx p0 (4 + t))) + 1))) ++ (wA cI (r 5) 8 (fR F) ++ (wA cI (r 6) 120 TB ++ (wA cI (r 7) 4 (bR SB) ++ (wA cI (r 8) 4 SS ++ (wA cI (r 9) 160 SN)))))))))) (fun _ => rfl) rfl hl.1 rfl (Nat.le_of_ble_eq_true rfl) dX5_fits_95 ⟨Nat.le_of_ble_eq_true rfl, Nat.le_of_ble_eq_true rfl⟩ (fun _ H locs _ hP hD hS => ?_)
            refine W.eq (g2 := F0 m 98 ls [.int (iI ((cx p0 (4 + t) : Nat) : Int)), .ref (r 1)]) rfl ?_
            refine lv_iload hx hb dX5_fits_98 (lv_at hl 1 rfl) ?_
            refine x_iast hx hb hK hP hD hS 1 0 rfl rfl (cx p0 (4 + t)) rfl (cx_lt1 (by omega) (by omega)) (by decide) (wRo r ik tn j11 ++ (wA cI (r 1) 100 (va_up (va_up T (cx p0 (4 + t)) (min 999 ((T (cx p0 (4 + t))) + 1))) (cx p0 (4 + t)) (T (cx p0 (4 + t)))) ++ (wA cI (r 2) 100 K ++ (wA cI (r 3) 100 X ++ (wA cI (r 4) 100 (va_up T (cx p0 (4 + t)) (min 999 ((T (cx p0 (4 + t))) + 1))) ++ (wA cI (r 5) 8 (fR F) ++ (wA cI (r 6) 120 TB ++ (wA cI (r 7) 4 (bR SB) ++ (wA cI (r 8) 4 SS ++ (wA cI (r 9) 160 SN)))))))))) (by rw [← wA_up cI (r 1) 100 (va_up T (cx p0 (4 + t)) (min 999 ((T (cx p0 (4 + t))) + 1))) (T (cx p0 (4 + t))) (cx p0 (4 + t)) (cx_lt1 (by omega) (by omega))]; rfl) dX5_fits_100 (fun H locs hP hD hS => ?_)
            rw [up_back] at hP hD
            refine x_iinc hx hb 6 ((t + 1 : Nat) : Int) (by omega) [(5, .int (iI ((t + 1 : Nat) : Int))), (4, .int (iI (orI sv 0))), (6, .int (iI (T (cx p0 (4 + t))))), (0, .ref (r 0)), (1, .int (iI ((s1 : Nat) : Int))), (2, .int (iI ((p0 : Nat) : Int))), (3, .int (iI (wtF SB (T 0) ((s1 : Nat) : Int) ((p0 : Nat) : Int))))] dX5_fits_101 hl rfl (by decide) rfl (fun ls hl => ?_)
            refine lv_goto (tgt := 23) hx hb dX5_fits_104 (by decide) ?_
            exact ih (t + 1) (va_up T (cx p0 (4 + t)) (min 999 ((T (cx p0 (4 + t))) + 1))) j11 (orI sv 0) _ _ _ (by omega) (run_step hr ((if_neg c_72).trans (orI_0 hq).symm)) (orI_r _ _) hP hD hS (lv_sub hl [3, 4, 5, 6, 1, 0] rfl)
          · refine x_iconst hx hb dX5_fits_75 ?_
            refine lv_iload hx hb dX5_fits_76 (lv_at hl 6 rfl) ?_
            refine x_ishl hx hb dX5_fits_78 ?_
            refine lv_goto (tgt := 83) hx hb dX5_fits_79 (by decide) ?_
            refine x_ior hx hb dX5_fits_83 ?_
            refine lv_istore (lv' := [(4, .int (iI (orI sv (shlI 1 ((t : Nat) : Int))))), (6, .int (iI (T (cx p0 (4 + t))))), (0, .ref (r 0)), (1, .int (iI ((s1 : Nat) : Int))), (2, .int (iI ((p0 : Nat) : Int))), (3, .int (iI (wtF SB (T 0) ((s1 : Nat) : Int) ((p0 : Nat) : Int)))), (5, .int (iI ((t : Nat) : Int)))]) hx hb dX5_fits_84 hl (by decide) rfl (fun ls hl => ?_)
            refine lv_aload_n hx hb dX5_fits_86 rfl (lv_at hl 2 rfl) ?_
            refine va_get (D := D) (ci := 4) (v := .ref (r 1)) (C := RX5) (T := TX5) (N := 18) hx hb hts (iT_X5_fits_X5) hown hK hP 0 rfl rfl 0 (by decide) (hts (.fieldLink RX5 7 "WordSupperModel" "s" "[I") (by decide +kernel)) (fun _ h9 => h9) rfl dX5_fits_87 ?_
            refine lv_iload_n hx hb dX5_fits_90 rfl (lv_at hl 4 rfl) ?_
            refine x_iconst hx hb dX5_fits_91 ?_
            refine lv_iload hx hb dX5_fits_92 (lv_at hl 6 rfl) ?_
            refine x_iadd hx hb dX5_fits_94 ?_
            refine x_topi ((4 + t : Nat) : Int) (by omega) ?_
            refine x_callS (As := [.int (iI ((p0 : Nat) : Int)), .int (iI ((4 + t : Nat) : Int))]) (rest := [.ref (r 1)]) ⟨hx, hb, hml, hown, hts⟩ (kX5_at p0 (4 + t) ) (va_cwS 2 hts gX5_fits_X5_at rfl rfl rfl ykSX5_at ⟨Nat.le_of_ble_eq_true rfl, Nat.le_of_ble_eq_true rfl⟩) hP hK hD hS [] rfl (by decide) (fun _ => rfl) (fun _ => wRo r ik tn j11 ++ (wA cI (r 1) 100 (va_up T (cx p0 (4 + t)) (min 999 ((T (cx p0 (4 + t))) + 1))) ++ (wA cI (r 2) 100 K ++ (wA cI (r 3) 100 X ++ (wA cI (r 4) 100 (va_up T (cx p0 (4 + t)) (min 999 ((T (cx p0 (4 + t))) + 1))) ++ (wA cI (r 5) 8 (fR F) ++ (wA cI (r 6) 120 TB ++ (wA cI (r 7) 4 (bR SB) ++ (wA cI (r 8) 4 SS ++ (wA cI (r 9) 160 SN)))))))))) (fun _ => rfl) rfl hl.1 rfl (Nat.le_of_ble_eq_true rfl) dX5_fits_95 ⟨Nat.le_of_ble_eq_true rfl, Nat.le_of_ble_eq_true rfl⟩ (fun _ H locs _ hP hD hS => ?_)
            refine W.eq (g2 := F0 m 98 ls [.int (iI ((cx p0 (4 + t) : Nat) : Int)), .ref (r 1)]) rfl ?_
            refine lv_iload hx hb dX5_fits_98 (lv_at hl 1 rfl) ?_
            refine x_iast hx hb hK hP hD hS 1 0 rfl rfl (cx p0 (4 + t)) rfl (cx_lt1 (by omega) (by omega)) (by decide) (wRo r ik tn j11 ++ (wA cI (r 1) 100 (va_up (va_up T (cx p0 (4 + t)) (min 999 ((T (cx p0 (4 + t))) + 1))) (cx p0 (4 + t)) (T (cx p0 (4 + t)))) ++ (wA cI (r 2) 100 K ++ (wA cI (r 3) 100 X ++ (wA cI (r 4) 100 (va_up T (cx p0 (4 + t)) (min 999 ((T (cx p0 (4 + t))) + 1))) ++ (wA cI (r 5) 8 (fR F) ++ (wA cI (r 6) 120 TB ++ (wA cI (r 7) 4 (bR SB) ++ (wA cI (r 8) 4 SS ++ (wA cI (r 9) 160 SN)))))))))) (by rw [← wA_up cI (r 1) 100 (va_up T (cx p0 (4 + t)) (min 999 ((T (cx p0 (4 + t))) + 1))) (T (cx p0 (4 + t))) (cx p0 (4 + t)) (cx_lt1 (by omega) (by omega))]; rfl) dX5_fits_100 (fun H locs hP hD hS => ?_)
            rw [up_back] at hP hD
            refine x_iinc hx hb 6 ((t + 1 : Nat) : Int) (by omega) [(5, .int (iI ((t + 1 : Nat) : Int))), (4, .int (iI (orI sv (shlI 1 ((t : Nat) : Int))))), (6, .int (iI (T (cx p0 (4 + t))))), (0, .ref (r 0)), (1, .int (iI ((s1 : Nat) : Int))), (2, .int (iI ((p0 : Nat) : Int))), (3, .int (iI (wtF SB (T 0) ((s1 : Nat) : Int) ((p0 : Nat) : Int))))] dX5_fits_101 hl rfl (by decide) rfl (fun ls hl => ?_)
            refine lv_goto (tgt := 23) hx hb dX5_fits_104 (by decide) ?_
            exact ih (t + 1) (va_up T (cx p0 (4 + t)) (min 999 ((T (cx p0 (4 + t))) + 1))) j11 (orI sv (shlI 1 ((t : Nat) : Int))) _ _ _ (by omega) (run_step hr (if_pos c_72)) (orI_r _ _) hP hD hS (lv_sub hl [3, 4, 5, 6, 1, 0] rfl)
    exact L23 6 0 Y j 0 _ _ _ (by omega) rfl (by decide) hP hD hS (lv_sub hl [3, 4, 5, 2, 1, 0] rfl)
  · refine lv_aload_n hx hb dX5_fits_11 rfl (lv_at hl 1 rfl) ?_
    refine lv_iload_n hx hb dX5_fits_12 rfl (lv_at hl 0 rfl) ?_
    refine x_callV (As := [.int (iI (wtF SB (T 0) s0 sp))]) (rest := []) ⟨hx, hb, hml, hown, hts⟩ (kX5_finds r ik tn j F (wtF SB (T 0) s0 sp) (-1000001 - wtF SB (T 0) s0 sp).toNat (by omega) (by omega)) (cwV 1 hts gX5_fits_X5_finds rfl rfl rfl ykVX5_finds ⟨Nat.le_of_ble_eq_true rfl, Nat.le_of_ble_eq_true rfl⟩) hP hK hD hS 0 4 rfl rfl rfl [0, 5] rfl (by decide) (fun _ => rfl) (fun _ => wRo r ik tn j ++ (wA cI (r 1) 100 T ++ (wA cI (r 2) 100 K ++ (wA cI (r 3) 100 X ++ (wA cI (r 4) 100 Y ++ (wA cI (r 5) 8 (fR (bmp ((-1000001 - wtF SB (T 0) s0 sp).toNat) F)) ++ (wA cI (r 6) 120 TB ++ (wA cI (r 7) 4 (bR SB) ++ (wA cI (r 8) 4 SS ++ (wA cI (r 9) 160 SN)))))))))) (fun _ => rfl) rfl hl.1 rfl (Nat.le_of_ble_eq_true rfl) dX5_fits_13 ⟨Nat.le_of_ble_eq_true rfl, Nat.le_of_ble_eq_true rfl⟩ (fun _ H locs _ hP hD hS => ?_)
    refine W.eq (g2 := F0 m 16 ls [.int (iI (wtF SB (T 0) s0 sp))]) rfl ?_
    exact kend (((wtF SB (T 0) s0 sp), T, K, ik, SB, SS, SN, tn, TB, (bmp ((-1000001 - wtF SB (T 0) s0 sp).toNat) F)), X, Y, j) hP hS rfl (if_pos (by omega)).symm dX5_fits_16
theorem ykSX5_kinds : yX5_kinds.cls ≠ "java/lang/invoke/MethodHandle" ∧ yX5_kinds.cls ≠ "java/lang/invoke/VarHandle" ∧ (parseMethodDescriptor yX5_kinds.desc).map (fun d => d.parameters.length) = some 2 := by decide +kernel
theorem ykVX5_kinds : yX5_kinds.cls = RX5 ∧ yX5_kinds.cls ≠ "java/lang/invoke/MethodHandle" ∧ yX5_kinds.cls ≠ "java/lang/invoke/VarHandle" ∧ (parseMethodDescriptor yX5_kinds.desc).map (fun d => d.parameters.length) = some 2 := ⟨rfl, ykSX5_kinds⟩
set_option maxRecDepth 20000 in
theorem iT_X5_kinds_X5 : ∀ w ∈ u_ws RX5 TX5 18, w ∈ wsX5_kinds := by decide +kernel
set_option maxHeartbeats 4000000 in
set_option maxRecDepth 100000 in
theorem kX5_kinds {l : Launch} {D : va_G} {cI cB : ClassId} (r : Nat → Nat) (T K : Tb) (ik : Int) (SB SS SN : Nat → Int) (tn : Int) (TB F : Nat → Int) (X Y : Tb) (j : Nat → Int) (s0 sp : Int) (B : Int) (hG : GI B T K ik SB SS SN tn TB F) (hB : B ≤ 40000) (h_s0 : rI s0) (h_sp : rI sp) : Ct l yX5_kinds wsX5_kinds 6 136 D [(cI, .int), (cB, .byte)] [.ref (r 0), .int (iI s0), .int (iI sp)] (wM cI r (T, K, ik, SB, SS, SN, tn, TB, F) X Y j) (S := (Int × Gs) × Tb × Tb × (Nat → Int)) (fun u => some (.int (iI u.1.1))) (fun u => u.1 = m_kinds s0 sp T K ik SB SS SN tn TB F) (fun u => wM cI r u.1.2 u.2.1 u.2.2.1 u.2.2.2) := by
  refine CtI.of (cc := cX5_kinds) (maxL := 7) (by decide +kernel) rfl (Nat.le_of_ble_eq_true rfl) ?_
  intro pg e s m args below meth c Q A hx hb hml hts hown hP hK hD hS ls hl kend
  have hown : s.vm.findClass RX5 = some m.cls := hown
  have hl : lv_has ls 7 [(0, .ref (r 0)), (1, .int (iI s0)), (2, .int (iI sp))] := hl
  obtain ⟨hI, hIK, hik, hSB, hSS, hSN, htn, hTB, hF⟩ := id hG
  have hn := Inv_n hI
  have hdy := Inv_d hI
  have hP : va_P D vwCl (wRo r ik tn j ++ (wA cI (r 1) 100 T ++ (wA cI (r 2) 100 K ++ (wA cI (r 3) 100 X ++ (wA cI (r 4) 100 Y ++ (wA cI (r 5) 8 (fR F) ++ (wA cI (r 6) 120 TB ++ (wA cI (r 7) 4 (bR SB) ++ (wA cI (r 8) 4 SS ++ (wA cI (r 9) 160 SN)))))))))) s.heap := hP
  have hD : va_D A (wRo r ik tn j ++ (wA cI (r 1) 100 T ++ (wA cI (r 2) 100 K ++ (wA cI (r 3) 100 X ++ (wA cI (r 4) 100 Y ++ (wA cI (r 5) 8 (fR F) ++ (wA cI (r 6) 120 TB ++ (wA cI (r 7) 4 (bR SB) ++ (wA cI (r 8) 4 SS ++ (wA cI (r 9) 160 SN)))))))))) := hD
  have hwt := wtF_c SB (T 0) s0 sp
  refine lv_aload_n hx hb dX5_kinds_0 rfl (lv_at hl 0 rfl) ?_
  refine lv_iload_n hx hb dX5_kinds_1 rfl (lv_at hl 1 rfl) ?_
  refine lv_iload_n hx hb dX5_kinds_2 rfl (lv_at hl 2 rfl) ?_
  refine x_callV (As := [.int (iI s0), .int (iI sp)]) (rest := []) ⟨hx, hb, hml, hown, hts⟩ (kX5_wantsFor r ik tn j T SB s0 sp (by omega) (by omega) (by omega) hSB) (cwV 2 hts gX5_kinds_X5_wantsFor rfl rfl rfl ykVX5_wantsFor ⟨Nat.le_of_ble_eq_true rfl, Nat.le_of_ble_eq_true rfl⟩) hP hK hD hS 0 4 rfl rfl rfl [0, 1, 7] rfl (by decide) (fun _ => rfl) (fun _ => wRo r ik tn j ++ (wA cI (r 1) 100 T ++ (wA cI (r 2) 100 K ++ (wA cI (r 3) 100 X ++ (wA cI (r 4) 100 Y ++ (wA cI (r 5) 8 (fR F) ++ (wA cI (r 6) 120 TB ++ (wA cI (r 7) 4 (bR SB) ++ (wA cI (r 8) 4 SS ++ (wA cI (r 9) 160 SN)))))))))) (fun _ => rfl) rfl hl.1 rfl (Nat.le_of_ble_eq_true rfl) dX5_kinds_3 ⟨Nat.le_of_ble_eq_true rfl, Nat.le_of_ble_eq_true rfl⟩ (fun _ H locs _ hP hD hS => ?_)
  refine W.eq (g2 := F0 m 6 ls [.int (iI (wtF SB (T 0) s0 sp))]) rfl ?_
  refine lv_istore_n (lv' := [(3, .int (iI (wtF SB (T 0) s0 sp))), (0, .ref (r 0)), (1, .int (iI s0)), (2, .int (iI sp))]) hx hb dX5_kinds_6 rfl hl (by decide) rfl (fun ls hl => ?_)
  refine lv_iload_n hx hb dX5_kinds_7 rfl (lv_at hl 0 rfl) ?_
  refine x_if_eq (tgt := 17) hx hb (by omega) dX5_kinds_8 (by decide) (fun c_8 => ?_) (fun c_8 => ?_)
  · have hs9 := wtF_0 (show wtF SB (T 0) s0 sp = 0 by omega)
    obtain ⟨s1, rfl⟩ : ∃ s1 : Nat, s0 = (s1 : Int) := ⟨s0.toNat, by omega⟩
    obtain ⟨p0, rfl⟩ : ∃ p0 : Nat, sp = (p0 : Int) := ⟨sp.toNat, by omega⟩
    refine lv_aload_n hx hb dX5_kinds_17 rfl (lv_at hl 1 rfl) ?_
    refine lv_iload_n hx hb dX5_kinds_18 rfl (lv_at hl 3 rfl) ?_
    refine x_iconst hx hb dX5_kinds_19 ?_
    refine x_callV (As := [.int (iI ((p0 : Nat) : Int)), .int (iI 0)]) (rest := []) ⟨hx, hb, hml, hown, hts⟩ (kX5_its r ik tn j T p0 0 (by omega) (by omega)) (cwV 2 hts gX5_kinds_X5_its rfl rfl rfl ykVX5_its ⟨Nat.le_of_ble_eq_true rfl, Nat.le_of_ble_eq_true rfl⟩) hP hK hD hS 0 4 rfl rfl rfl [0, 1] rfl (by decide) (fun _ => rfl) (fun _ => wRo r ik tn j ++ (wA cI (r 1) 100 T ++ (wA cI (r 2) 100 K ++ (wA cI (r 3) 100 X ++ (wA cI (r 4) 100 Y ++ (wA cI (r 5) 8 (fR F) ++ (wA cI (r 6) 120 TB ++ (wA cI (r 7) 4 (bR SB) ++ (wA cI (r 8) 4 SS ++ (wA cI (r 9) 160 SN)))))))))) (fun _ => rfl) rfl hl.1 rfl (Nat.le_of_ble_eq_true rfl) dX5_kinds_20 ⟨Nat.le_of_ble_eq_true rfl, Nat.le_of_ble_eq_true rfl⟩ (fun _ H locs _ hP hD hS => ?_)
    refine W.eq (g2 := F0 m 23 ls [.int (iI (T (cx p0 0)))]) rfl ?_
    refine lv_istore (lv' := [(4, .int (iI (T (cx p0 0)))), (3, .int (iI (wtF SB (T 0) ((s1 : Nat) : Int) ((p0 : Nat) : Int)))), (0, .ref (r 0)), (1, .int (iI ((s1 : Nat) : Int))), (2, .int (iI ((p0 : Nat) : Int)))]) hx hb dX5_kinds_23 hl (by decide) rfl (fun ls hl => ?_)
    refine x_iconst hx hb dX5_kinds_25 ?_
    refine lv_istore (lv' := [(5, .int (iI 0)), (4, .int (iI (T (cx p0 0)))), (3, .int (iI (wtF SB (T 0) ((s1 : Nat) : Int) ((p0 : Nat) : Int)))), (0, .ref (r 0)), (1, .int (iI ((s1 : Nat) : Int))), (2, .int (iI ((p0 : Nat) : Int)))]) hx hb dX5_kinds_26 hl (by decide) rfl (fun ls hl => ?_)
    refine x_iconst hx hb dX5_kinds_28 ?_
    refine lv_istore (lv' := [(6, .int (iI 0)), (5, .int (iI 0)), (4, .int (iI (T (cx p0 0)))), (3, .int (iI (wtF SB (T 0) ((s1 : Nat) : Int) ((p0 : Nat) : Int)))), (0, .ref (r 0)), (1, .int (iI ((s1 : Nat) : Int))), (2, .int (iI ((p0 : Nat) : Int)))]) hx hb dX5_kinds_29 hl (by decide) rfl (fun ls hl => ?_)
    have L31 : ∀ (k t : Nat) (Tt : Tb) (Y1 : Tb) (jt : Nat → Int) (sv : Int) (H : Heap) (locs : List Loc) (ls : Array Slot), t + k = 7 → (∀ v : Int, va_up Tt (cx p0 0) v = va_up T (cx p0 0) v) → (Tt 0 = T 0) → (run (seS (fun (t : Nat) => toF SN (40 * s1) p0 (SS s1).toNat 0 (va_up T (cx p0 0) (t : Int)))) k t sv = seF (fun (t : Nat) => toF SN (40 * s1) p0 (SS s1).toNat 0 (va_up T (cx p0 0) (t : Int))) 7) → (rI sv) → va_P D vwCl (wRo r ik tn jt ++ (wA cI (r 1) 100 Tt ++ (wA cI (r 2) 100 K ++ (wA cI (r 3) 100 X ++ (wA cI (r 4) 100 Y1 ++ (wA cI (r 5) 8 (fR F) ++ (wA cI (r 6) 120 TB ++ (wA cI (r 7) 4 (bR SB) ++ (wA cI (r 8) 4 SS ++ (wA cI (r 9) 160 SN)))))))))) H → va_D A (wRo r ik tn jt ++ (wA cI (r 1) 100 Tt ++ (wA cI (r 2) 100 K ++ (wA cI (r 3) 100 X ++ (wA cI (r 4) 100 Y1 ++ (wA cI (r 5) 8 (fR F) ++ (wA cI (r 6) 120 TB ++ (wA cI (r 7) 4 (bR SB) ++ (wA cI (r 8) 4 SS ++ (wA cI (r 9) 160 SN)))))))))) → va_S A s.heap H locs → lv_has ls 7 [(0, .ref (r 0)), (1, .int (iI ((s1 : Nat) : Int))), (2, .int (iI ((p0 : Nat) : Int))), (3, .int (iI (wtF SB (T 0) ((s1 : Nat) : Int) ((p0 : Nat) : Int)))), (4, .int (iI (T (cx p0 0)))), (5, .int (iI sv)), (6, .int (iI ((t : Nat) : Int)))] → W pg l e { frames := 6, cells := 0, slots := 0, locals := 136 } s m args below meth c H locs 0 0 Q (F0 m 31 ls []) := by
      intro k
      induction k with
      | zero =>
        intro t Tt Y1 jt sv H locs ls hkt hT h0 hr hq hP hD hS hl
        refine lv_iload hx hb dX5_kinds_31 (lv_at hl 6 rfl) ?_
        refine x_bipush hx hb dX5_kinds_33 (by decide) ?_
        refine x_icmp_gt (tgt := 78) hx hb (by omega) (by decide) dX5_kinds_35 (by decide) (fun c_35 => ?_) (fun c_35 => ?_)
        · refine lv_aload_n hx hb dX5_kinds_78 rfl (lv_at hl 0 rfl) ?_
          refine va_get (D := D) (ci := 4) (v := .ref (r 1)) (C := RX5) (T := TX5) (N := 18) hx hb hts (iT_X5_kinds_X5) hown hK hP 0 rfl rfl 0 (by decide) (hts (.fieldLink RX5 7 "WordSupperModel" "s" "[I") (by decide +kernel)) (fun _ h9 => h9) rfl dX5_kinds_79 ?_
          refine lv_iload_n hx hb dX5_kinds_82 rfl (lv_at hl 2 rfl) ?_
          refine x_iconst hx hb dX5_kinds_83 ?_
          refine x_callS (As := [.int (iI ((p0 : Nat) : Int)), .int (iI 0)]) (rest := [.ref (r 1)]) ⟨hx, hb, hml, hown, hts⟩ (kX5_at p0 0 ) (va_cwS 2 hts gX5_kinds_X5_at rfl rfl rfl ykSX5_at ⟨Nat.le_of_ble_eq_true rfl, Nat.le_of_ble_eq_true rfl⟩) hP hK hD hS [] rfl (by decide) (fun _ => rfl) (fun _ => wRo r ik tn jt ++ (wA cI (r 1) 100 Tt ++ (wA cI (r 2) 100 K ++ (wA cI (r 3) 100 X ++ (wA cI (r 4) 100 Y1 ++ (wA cI (r 5) 8 (fR F) ++ (wA cI (r 6) 120 TB ++ (wA cI (r 7) 4 (bR SB) ++ (wA cI (r 8) 4 SS ++ (wA cI (r 9) 160 SN)))))))))) (fun _ => rfl) rfl hl.1 rfl (Nat.le_of_ble_eq_true rfl) dX5_kinds_84 ⟨Nat.le_of_ble_eq_true rfl, Nat.le_of_ble_eq_true rfl⟩ (fun _ H locs _ hP hD hS => ?_)
          refine W.eq (g2 := F0 m 87 ls [.int (iI ((cx p0 0 : Nat) : Int)), .ref (r 1)]) rfl ?_
          refine lv_iload hx hb dX5_kinds_87 (lv_at hl 4 rfl) ?_
          refine x_iast hx hb hK hP hD hS 1 0 rfl rfl (cx p0 0) rfl (cx_lt1 (by omega) (by omega)) (by decide) (wRo r ik tn jt ++ (wA cI (r 1) 100 (va_up Tt (cx p0 0) (T (cx p0 0))) ++ (wA cI (r 2) 100 K ++ (wA cI (r 3) 100 X ++ (wA cI (r 4) 100 Y1 ++ (wA cI (r 5) 8 (fR F) ++ (wA cI (r 6) 120 TB ++ (wA cI (r 7) 4 (bR SB) ++ (wA cI (r 8) 4 SS ++ (wA cI (r 9) 160 SN)))))))))) (by rw [← wA_up cI (r 1) 100 Tt (T (cx p0 0)) (cx p0 0) (cx_lt1 (by omega) (by omega))]; rfl) dX5_kinds_89 (fun H locs hP hD hS => ?_)
          rw [hT, up_id] at hP hD
          refine lv_iload hx hb dX5_kinds_90 (lv_at hl 5 rfl) ?_
          exact kend ((sv, T, K, ik, SB, SS, SN, tn, TB, F), X, Y1, jt) hP hS rfl (by unfold m_kinds; rw [if_neg (by omega)]; simp only [Int.toNat_natCast]; rw [← hr] <;> rfl) dX5_kinds_92
        · exfalso; omega
      | succ k ih =>
        intro t Tt Y1 jt sv H locs ls hkt hT h0 hr hq hP hD hS hl
        refine lv_iload hx hb dX5_kinds_31 (lv_at hl 6 rfl) ?_
        refine x_bipush hx hb dX5_kinds_33 (by decide) ?_
        refine x_icmp_gt (tgt := 78) hx hb (by omega) (by decide) dX5_kinds_35 (by decide) (fun c_35 => ?_) (fun c_35 => ?_)
        · exfalso; omega
        · refine lv_aload_n hx hb dX5_kinds_38 rfl (lv_at hl 0 rfl) ?_
          refine va_get (D := D) (ci := 4) (v := .ref (r 1)) (C := RX5) (T := TX5) (N := 18) hx hb hts (iT_X5_kinds_X5) hown hK hP 0 rfl rfl 0 (by decide) (hts (.fieldLink RX5 7 "WordSupperModel" "s" "[I") (by decide +kernel)) (fun _ h9 => h9) rfl dX5_kinds_39 ?_
          refine lv_iload_n hx hb dX5_kinds_42 rfl (lv_at hl 2 rfl) ?_
          refine x_iconst hx hb dX5_kinds_43 ?_
          refine x_callS (As := [.int (iI ((p0 : Nat) : Int)), .int (iI 0)]) (rest := [.ref (r 1)]) ⟨hx, hb, hml, hown, hts⟩ (kX5_at p0 0 ) (va_cwS 2 hts gX5_kinds_X5_at rfl rfl rfl ykSX5_at ⟨Nat.le_of_ble_eq_true rfl, Nat.le_of_ble_eq_true rfl⟩) hP hK hD hS [] rfl (by decide) (fun _ => rfl) (fun _ => wRo r ik tn jt ++ (wA cI (r 1) 100 Tt ++ (wA cI (r 2) 100 K ++ (wA cI (r 3) 100 X ++ (wA cI (r 4) 100 Y1 ++ (wA cI (r 5) 8 (fR F) ++ (wA cI (r 6) 120 TB ++ (wA cI (r 7) 4 (bR SB) ++ (wA cI (r 8) 4 SS ++ (wA cI (r 9) 160 SN)))))))))) (fun _ => rfl) rfl hl.1 rfl (Nat.le_of_ble_eq_true rfl) dX5_kinds_44 ⟨Nat.le_of_ble_eq_true rfl, Nat.le_of_ble_eq_true rfl⟩ (fun _ H locs _ hP hD hS => ?_)
          refine W.eq (g2 := F0 m 47 ls [.int (iI ((cx p0 0 : Nat) : Int)), .ref (r 1)]) rfl ?_
          refine lv_iload hx hb dX5_kinds_47 (lv_at hl 6 rfl) ?_
          refine x_iast hx hb hK hP hD hS 1 0 rfl rfl (cx p0 0) rfl (cx_lt1 (by omega) (by omega)) (by decide) (wRo r ik tn jt ++ (wA cI (r 1) 100 (va_up Tt (cx p0 0) ((t : Nat) : Int)) ++ (wA cI (r 2) 100 K ++ (wA cI (r 3) 100 X ++ (wA cI (r 4) 100 Y1 ++ (wA cI (r 5) 8 (fR F) ++ (wA cI (r 6) 120 TB ++ (wA cI (r 7) 4 (bR SB) ++ (wA cI (r 8) 4 SS ++ (wA cI (r 9) 160 SN)))))))))) (by rw [← wA_up cI (r 1) 100 Tt ((t : Nat) : Int) (cx p0 0) (cx_lt1 (by omega) (by omega))]; rfl) dX5_kinds_49 (fun H locs hP hD hS => ?_)
          rw [hT] at hP hD
          have iS : Inv B (va_up T (cx p0 0) ((t : Nat) : Int)) := Inv_cx hI (by omega) (by omega) (fun _ => show 0 ≤ ((t : Nat) : Int) ∧ ((t : Nat) : Int) ≤ 6 by omega)
          have nS : (va_up T (cx p0 0) ((t : Nat) : Int)) 0 = T 0 := up_lo _ _ (by omega)
          refine lv_iload hx hb dX5_kinds_50 (lv_at hl 5 rfl) ?_
          refine lv_aload_n hx hb dX5_kinds_52 rfl (lv_at hl 0 rfl) ?_
          refine lv_iload_n hx hb dX5_kinds_53 rfl (lv_at hl 1 rfl) ?_
          refine lv_iload_n hx hb dX5_kinds_54 rfl (lv_at hl 2 rfl) ?_
          refine x_callV (As := [.int (iI ((s1 : Nat) : Int)), .int (iI ((p0 : Nat) : Int))]) (rest := [.int (iI sv)]) ⟨hx, hb, hml, hown, hts⟩ (kX5_isTold r ik tn jt (va_up T (cx p0 0) ((t : Nat) : Int)) Y1 SS SN s1 p0 B iS (by omega) (by rw [nS]; omega) (by omega) hSS hSN) (cwV 2 hts gX5_kinds_X5_isTold rfl rfl rfl ykVX5_isTold ⟨Nat.le_of_ble_eq_true rfl, Nat.le_of_ble_eq_true rfl⟩) hP hK hD hS 0 4 rfl rfl rfl [0, 1, 4, 8, 9] rfl (by decide) (fun _ => rfl) (fun u => wRo r ik tn u ++ (wA cI (r 1) 100 (va_up T (cx p0 0) ((t : Nat) : Int)) ++ (wA cI (r 2) 100 K ++ (wA cI (r 3) 100 X ++ (wA cI (r 4) 100 (va_up T (cx p0 0) ((t : Nat) : Int)) ++ (wA cI (r 5) 8 (fR F) ++ (wA cI (r 6) 120 TB ++ (wA cI (r 7) 4 (bR SB) ++ (wA cI (r 8) 4 SS ++ (wA cI (r 9) 160 SN)))))))))) (fun _ => rfl) rfl hl.1 rfl (Nat.le_of_ble_eq_true rfl) dX5_kinds_55 ⟨Nat.le_of_ble_eq_true rfl, Nat.le_of_ble_eq_true rfl⟩ (fun u2 H locs hp3 hP hD hS => ?_)
          obtain ⟨j11, rfl⟩ : ∃ z, z = u2 := ⟨_, rfl⟩
          have hP : va_P D vwCl (wRo r ik tn j11 ++ (wA cI (r 1) 100 (va_up T (cx p0 0) ((t : Nat) : Int)) ++ (wA cI (r 2) 100 K ++ (wA cI (r 3) 100 X ++ (wA cI (r 4) 100 (va_up T (cx p0 0) ((t : Nat) : Int)) ++ (wA cI (r 5) 8 (fR F) ++ (wA cI (r 6) 120 TB ++ (wA cI (r 7) 4 (bR SB) ++ (wA cI (r 8) 4 SS ++ (wA cI (r 9) 160 SN)))))))))) H := hP
          have hD : va_D A (wRo r ik tn j11 ++ (wA cI (r 1) 100 (va_up T (cx p0 0) ((t : Nat) : Int)) ++ (wA cI (r 2) 100 K ++ (wA cI (r 3) 100 X ++ (wA cI (r 4) 100 (va_up T (cx p0 0) ((t : Nat) : Int)) ++ (wA cI (r 5) 8 (fR F) ++ (wA cI (r 6) 120 TB ++ (wA cI (r 7) 4 (bR SB) ++ (wA cI (r 8) 4 SS ++ (wA cI (r 9) 160 SN)))))))))) := hD
          refine W.eq (g2 := F0 m 58 ls [.int (iI (b2 (decide (toF SN (40 * s1) p0 (SS s1).toNat 0 (va_up T (cx p0 0) ((t : Nat) : Int)) = true)))), .int (iI sv)]) rfl ?_
          refine x_ifb_eq (tgt := 68) hx hb dX5_kinds_58 (by decide) (fun c_58 => ?_) (fun c_58 => ?_)
          · refine x_iconst hx hb dX5_kinds_68 ?_
            refine x_ior hx hb dX5_kinds_69 ?_
            refine lv_istore (lv' := [(5, .int (iI (orI sv 0))), (0, .ref (r 0)), (1, .int (iI ((s1 : Nat) : Int))), (2, .int (iI ((p0 : Nat) : Int))), (3, .int (iI (wtF SB (T 0) ((s1 : Nat) : Int) ((p0 : Nat) : Int)))), (4, .int (iI (T (cx p0 0)))), (6, .int (iI ((t : Nat) : Int)))]) hx hb dX5_kinds_70 hl (by decide) rfl (fun ls hl => ?_)
            refine x_iinc hx hb 6 ((t + 1 : Nat) : Int) (by omega) [(6, .int (iI ((t + 1 : Nat) : Int))), (5, .int (iI (orI sv 0))), (0, .ref (r 0)), (1, .int (iI ((s1 : Nat) : Int))), (2, .int (iI ((p0 : Nat) : Int))), (3, .int (iI (wtF SB (T 0) ((s1 : Nat) : Int) ((p0 : Nat) : Int)))), (4, .int (iI (T (cx p0 0))))] dX5_kinds_72 hl rfl (by decide) rfl (fun ls hl => ?_)
            refine lv_goto (tgt := 31) hx hb dX5_kinds_75 (by decide) ?_
            exact ih (t + 1) (va_up T (cx p0 0) ((t : Nat) : Int)) (va_up T (cx p0 0) ((t : Nat) : Int)) j11 (orI sv 0) _ _ _ (by omega) (fun v => up_up _ _ _ _) (up_lo _ _ (by omega)) (run_step hr ((if_neg c_58).trans (orI_0 hq).symm)) (orI_r _ _) hP hD hS (lv_sub hl [2, 3, 4, 5, 6, 1, 0] rfl)
          · refine x_iconst hx hb dX5_kinds_61 ?_
            refine lv_iload hx hb dX5_kinds_62 (lv_at hl 6 rfl) ?_
            refine x_ishl hx hb dX5_kinds_64 ?_
            refine lv_goto (tgt := 69) hx hb dX5_kinds_65 (by decide) ?_
            refine x_ior hx hb dX5_kinds_69 ?_
            refine lv_istore (lv' := [(5, .int (iI (orI sv (shlI 1 ((t : Nat) : Int))))), (0, .ref (r 0)), (1, .int (iI ((s1 : Nat) : Int))), (2, .int (iI ((p0 : Nat) : Int))), (3, .int (iI (wtF SB (T 0) ((s1 : Nat) : Int) ((p0 : Nat) : Int)))), (4, .int (iI (T (cx p0 0)))), (6, .int (iI ((t : Nat) : Int)))]) hx hb dX5_kinds_70 hl (by decide) rfl (fun ls hl => ?_)
            refine x_iinc hx hb 6 ((t + 1 : Nat) : Int) (by omega) [(6, .int (iI ((t + 1 : Nat) : Int))), (5, .int (iI (orI sv (shlI 1 ((t : Nat) : Int))))), (0, .ref (r 0)), (1, .int (iI ((s1 : Nat) : Int))), (2, .int (iI ((p0 : Nat) : Int))), (3, .int (iI (wtF SB (T 0) ((s1 : Nat) : Int) ((p0 : Nat) : Int)))), (4, .int (iI (T (cx p0 0))))] dX5_kinds_72 hl rfl (by decide) rfl (fun ls hl => ?_)
            refine lv_goto (tgt := 31) hx hb dX5_kinds_75 (by decide) ?_
            exact ih (t + 1) (va_up T (cx p0 0) ((t : Nat) : Int)) (va_up T (cx p0 0) ((t : Nat) : Int)) j11 (orI sv (shlI 1 ((t : Nat) : Int))) _ _ _ (by omega) (fun v => up_up _ _ _ _) (up_lo _ _ (by omega)) (run_step hr (if_pos c_58)) (orI_r _ _) hP hD hS (lv_sub hl [2, 3, 4, 5, 6, 1, 0] rfl)
    exact L31 7 0 T Y j 0 _ _ _ (by omega) (fun _ => rfl) rfl rfl (by decide) hP hD hS (lv_sub hl [4, 5, 6, 3, 2, 1, 0] rfl)
  · refine lv_aload_n hx hb dX5_kinds_11 rfl (lv_at hl 1 rfl) ?_
    refine lv_iload_n hx hb dX5_kinds_12 rfl (lv_at hl 0 rfl) ?_
    refine x_callV (As := [.int (iI (wtF SB (T 0) s0 sp))]) (rest := []) ⟨hx, hb, hml, hown, hts⟩ (kX5_finds r ik tn j F (wtF SB (T 0) s0 sp) (-1000001 - wtF SB (T 0) s0 sp).toNat (by omega) (by omega)) (cwV 1 hts gX5_kinds_X5_finds rfl rfl rfl ykVX5_finds ⟨Nat.le_of_ble_eq_true rfl, Nat.le_of_ble_eq_true rfl⟩) hP hK hD hS 0 4 rfl rfl rfl [0, 5] rfl (by decide) (fun _ => rfl) (fun _ => wRo r ik tn j ++ (wA cI (r 1) 100 T ++ (wA cI (r 2) 100 K ++ (wA cI (r 3) 100 X ++ (wA cI (r 4) 100 Y ++ (wA cI (r 5) 8 (fR (bmp ((-1000001 - wtF SB (T 0) s0 sp).toNat) F)) ++ (wA cI (r 6) 120 TB ++ (wA cI (r 7) 4 (bR SB) ++ (wA cI (r 8) 4 SS ++ (wA cI (r 9) 160 SN)))))))))) (fun _ => rfl) rfl hl.1 rfl (Nat.le_of_ble_eq_true rfl) dX5_kinds_13 ⟨Nat.le_of_ble_eq_true rfl, Nat.le_of_ble_eq_true rfl⟩ (fun _ H locs _ hP hD hS => ?_)
    refine W.eq (g2 := F0 m 16 ls [.int (iI (wtF SB (T 0) s0 sp))]) rfl ?_
    exact kend (((wtF SB (T 0) s0 sp), T, K, ik, SB, SS, SN, tn, TB, (bmp ((-1000001 - wtF SB (T 0) s0 sp).toNat) F)), X, Y, j) hP hS rfl (if_pos (by omega)).symm dX5_kinds_16
theorem ykSX5_talk : yX5_talk.cls ≠ "java/lang/invoke/MethodHandle" ∧ yX5_talk.cls ≠ "java/lang/invoke/VarHandle" ∧ (parseMethodDescriptor yX5_talk.desc).map (fun d => d.parameters.length) = some 1 := by decide +kernel
theorem ykVX5_talk : yX5_talk.cls = RX5 ∧ yX5_talk.cls ≠ "java/lang/invoke/MethodHandle" ∧ yX5_talk.cls ≠ "java/lang/invoke/VarHandle" ∧ (parseMethodDescriptor yX5_talk.desc).map (fun d => d.parameters.length) = some 1 := ⟨rfl, ykSX5_talk⟩
set_option maxRecDepth 20000 in
theorem iT_X5_talk_X5 : ∀ w ∈ u_ws RX5 TX5 18, w ∈ wsX5_talk := by decide +kernel
set_option maxHeartbeats 4000000 in
set_option maxRecDepth 100000 in
theorem kX5_talk {l : Launch} {D : va_G} {cI cB : ClassId} (r : Nat → Nat) (T K : Tb) (ik : Int) (SB SS SN : Nat → Int) (tn : Int) (TB F : Nat → Int) (X Y : Tb) (j : Nat → Int) (n : Int) (B : Int) (hG : GI B T K ik SB SS SN tn TB F) (hB : B ≤ 40000) (h_n : rI n) : Ct l yX5_talk wsX5_talk 5 111 D [(cI, .int), (cB, .byte)] [.ref (r 0), .int (iI n)] (wM cI r (T, K, ik, SB, SS, SN, tn, TB, F) X Y j) (S := (Int × Gs) × Tb × Tb × (Nat → Int)) (fun u => some (.int (iI u.1.1))) (fun u => u.1 = m_talk n T K ik SB SS SN tn TB F) (fun u => wM cI r u.1.2 u.2.1 u.2.2.1 u.2.2.2) := by
  refine CtI.of (cc := cX5_talk) (maxL := 4) (by decide +kernel) rfl (Nat.le_of_ble_eq_true rfl) ?_
  intro pg e s m args below meth c Q A hx hb hml hts hown hP hK hD hS ls hl kend
  have hown : s.vm.findClass RX5 = some m.cls := hown
  have hl : lv_has ls 4 [(0, .ref (r 0)), (1, .int (iI n))] := hl
  obtain ⟨hI, hIK, hik, hSB, hSS, hSN, htn, hTB, hF⟩ := id hG
  have hn := Inv_n hI
  have hdy := Inv_d hI
  have hP : va_P D vwCl (wRo r ik tn j ++ (wA cI (r 1) 100 T ++ (wA cI (r 2) 100 K ++ (wA cI (r 3) 100 X ++ (wA cI (r 4) 100 Y ++ (wA cI (r 5) 8 (fR F) ++ (wA cI (r 6) 120 TB ++ (wA cI (r 7) 4 (bR SB) ++ (wA cI (r 8) 4 SS ++ (wA cI (r 9) 160 SN)))))))))) s.heap := hP
  have hD : va_D A (wRo r ik tn j ++ (wA cI (r 1) 100 T ++ (wA cI (r 2) 100 K ++ (wA cI (r 3) 100 X ++ (wA cI (r 4) 100 Y ++ (wA cI (r 5) 8 (fR F) ++ (wA cI (r 6) 120 TB ++ (wA cI (r 7) 4 (bR SB) ++ (wA cI (r 8) 4 SS ++ (wA cI (r 9) 160 SN)))))))))) := hD
  refine lv_iload_n hx hb dX5_talk_0 rfl (lv_at hl 1 rfl) ?_
  refine x_i2l hx hb (by omega) dX5_talk_1 ?_
  refine x_lconst hx hb 1 rfl dX5_talk_2 ?_
  refine x_ldc2 hx hb 20 rfl hown (hts (.constantLong RX5 57 (20)) (by decide +kernel)) dX5_talk_3 ?_
  refine x_callS (As := [.long (lI n), .long (lI 1), .long (lI 20)]) (rest := []) ⟨hx, hb, hml, hown, hts⟩ (kX5_isIn n 1 20 (by omega) (by omega) (by omega)) (va_cwS 3 hts gX5_talk_X5_isIn rfl rfl rfl ykSX5_isIn ⟨Nat.le_of_ble_eq_true rfl, Nat.le_of_ble_eq_true rfl⟩) hP hK hD hS [] rfl (by decide) (fun _ => rfl) (fun _ => wRo r ik tn j ++ (wA cI (r 1) 100 T ++ (wA cI (r 2) 100 K ++ (wA cI (r 3) 100 X ++ (wA cI (r 4) 100 Y ++ (wA cI (r 5) 8 (fR F) ++ (wA cI (r 6) 120 TB ++ (wA cI (r 7) 4 (bR SB) ++ (wA cI (r 8) 4 SS ++ (wA cI (r 9) 160 SN)))))))))) (fun _ => rfl) rfl hl.1 rfl (Nat.le_of_ble_eq_true rfl) dX5_talk_6 ⟨Nat.le_of_ble_eq_true rfl, Nat.le_of_ble_eq_true rfl⟩ (fun _ H locs _ hP hD hS => ?_)
  refine W.eq (g2 := F0 m 9 ls [.int (iI (b2 (decide (1 ≤ n ∧ n ≤ 20))))]) rfl ?_
  refine x_ifb_ne (tgt := 19) hx hb dX5_talk_9 (by decide) (fun c_9 => ?_) (fun c_9 => ?_)
  · refine lv_aload_n hx hb dX5_talk_19 rfl (lv_at hl 0 rfl) ?_
    refine va_get (D := D) (ci := 4) (v := .ref (r 1)) (C := RX5) (T := TX5) (N := 18) hx hb hts (iT_X5_talk_X5) hown hK hP 0 rfl rfl 0 (by decide) (hts (.fieldLink RX5 7 "WordSupperModel" "s" "[I") (by decide +kernel)) (fun _ h9 => h9) rfl dX5_talk_20 ?_
    refine x_iconst hx hb dX5_talk_23 ?_
    refine x_iald hx hb hK hP 1 0 rfl rfl 1 rfl (by omega) (by decide) (T 1) (gd_at _ (by omega)) dX5_talk_24 ?_
    refine lv_iload_n hx hb dX5_talk_25 rfl (lv_at hl 1 rfl) ?_
    refine x_iadd hx hb dX5_talk_26 ?_
    refine x_ldc hx hb 99999 rfl hown (hts (.constant RX5 117 (99999)) (by decide +kernel)) dX5_talk_27 ?_
    refine x_icmp_le (tgt := 39) hx hb (by omega) (by decide) dX5_talk_29 (by decide) (fun c_29 => ?_) (fun c_29 => ?_)
    · obtain ⟨n0, rfl⟩ : ∃ n0 : Nat, n = (n0 : Int) := ⟨n.toNat, by omega⟩
      refine x_iconst hx hb dX5_talk_39 ?_
      refine lv_istore_n (lv' := [(2, .int (iI 0)), (0, .ref (r 0)), (1, .int (iI ((n0 : Nat) : Int)))]) hx hb dX5_talk_40 rfl hl (by decide) rfl (fun ls hl => ?_)
      have L41 : ∀ (k t : Nat) (Tt : Tb) (jt : Nat → Int) (H : Heap) (locs : List Loc) (ls : Array Slot), t + k = n0 → (run tlS k t Tt = run tlS n0 0 T) → (Inv (B + (t : Int)) Tt) → va_P D vwCl (wRo r ik tn jt ++ (wA cI (r 1) 100 Tt ++ (wA cI (r 2) 100 K ++ (wA cI (r 3) 100 X ++ (wA cI (r 4) 100 Y ++ (wA cI (r 5) 8 (fR F) ++ (wA cI (r 6) 120 TB ++ (wA cI (r 7) 4 (bR SB) ++ (wA cI (r 8) 4 SS ++ (wA cI (r 9) 160 SN)))))))))) H → va_D A (wRo r ik tn jt ++ (wA cI (r 1) 100 Tt ++ (wA cI (r 2) 100 K ++ (wA cI (r 3) 100 X ++ (wA cI (r 4) 100 Y ++ (wA cI (r 5) 8 (fR F) ++ (wA cI (r 6) 120 TB ++ (wA cI (r 7) 4 (bR SB) ++ (wA cI (r 8) 4 SS ++ (wA cI (r 9) 160 SN)))))))))) → va_S A s.heap H locs → lv_has ls 4 [(0, .ref (r 0)), (1, .int (iI ((n0 : Nat) : Int))), (2, .int (iI ((t : Nat) : Int)))] → W pg l e { frames := 5, cells := 0, slots := 0, locals := 111 } s m args below meth c H locs 0 0 Q (F0 m 41 ls []) := by
        intro k
        induction k with
        | zero =>
          intro t Tt jt H locs ls hkt hr hi0 hP hD hS hl
          refine lv_iload_n hx hb dX5_talk_41 rfl (lv_at hl 2 rfl) ?_
          refine lv_iload_n hx hb dX5_talk_42 rfl (lv_at hl 1 rfl) ?_
          refine x_icmp_ge (tgt := 80) hx hb (by omega) (by omega) dX5_talk_43 (by decide) (fun c_43 => ?_) (fun c_43 => ?_)
          · have hn9 := Inv_n hi0
            refine lv_aload_n hx hb dX5_talk_80 rfl (lv_at hl 0 rfl) ?_
            refine x_callV (As := []) (rest := []) ⟨hx, hb, hml, hown, hts⟩ (kX5_leftAll r ik tn jt Tt hn9) (cwV 0 hts gX5_talk_X5_leftAll rfl rfl rfl ykVX5_leftAll ⟨Nat.le_of_ble_eq_true rfl, Nat.le_of_ble_eq_true rfl⟩) hP hK hD hS 0 4 rfl rfl rfl [0, 1] rfl (by decide) (fun _ => rfl) (fun _ => wRo r ik tn jt ++ (wA cI (r 1) 100 Tt ++ (wA cI (r 2) 100 K ++ (wA cI (r 3) 100 X ++ (wA cI (r 4) 100 Y ++ (wA cI (r 5) 8 (fR F) ++ (wA cI (r 6) 120 TB ++ (wA cI (r 7) 4 (bR SB) ++ (wA cI (r 8) 4 SS ++ (wA cI (r 9) 160 SN)))))))))) (fun _ => rfl) rfl hl.1 rfl (Nat.le_of_ble_eq_true rfl) dX5_talk_81 ⟨Nat.le_of_ble_eq_true rfl, Nat.le_of_ble_eq_true rfl⟩ (fun _ H locs _ hP hD hS => ?_)
            refine W.eq (g2 := F0 m 84 ls [.int (iI (alF Tt))]) rfl ?_
            exact kend ((alF Tt, Tt, K, ik, SB, SS, SN, tn, TB, F), X, Y, jt) hP hS rfl (by unfold m_talk; rw [if_pos (by omega)]; simp only [Int.toNat_natCast]; rw [← hr] <;> rfl) dX5_talk_84
          · exfalso; omega
        | succ k ih =>
          intro t Tt jt H locs ls hkt hr hi0 hP hD hS hl
          refine lv_iload_n hx hb dX5_talk_41 rfl (lv_at hl 2 rfl) ?_
          refine lv_iload_n hx hb dX5_talk_42 rfl (lv_at hl 1 rfl) ?_
          refine x_icmp_ge (tgt := 80) hx hb (by omega) (by omega) dX5_talk_43 (by decide) (fun c_43 => ?_) (fun c_43 => ?_)
          · exfalso; omega
          · refine lv_aload_n hx hb dX5_talk_46 rfl (lv_at hl 0 rfl) ?_
            refine x_callV (As := []) (rest := []) ⟨hx, hb, hml, hown, hts⟩ (kX5_draw r ik tn jt Tt ) (cwV 0 hts gX5_talk_X5_draw rfl rfl rfl ykVX5_draw ⟨Nat.le_of_ble_eq_true rfl, Nat.le_of_ble_eq_true rfl⟩) hP hK hD hS 0 4 rfl rfl rfl [0, 1] rfl (by decide) (fun _ => rfl) (fun _ => wRo r ik tn jt ++ (wA cI (r 1) 100 (drF Tt) ++ (wA cI (r 2) 100 K ++ (wA cI (r 3) 100 X ++ (wA cI (r 4) 100 Y ++ (wA cI (r 5) 8 (fR F) ++ (wA cI (r 6) 120 TB ++ (wA cI (r 7) 4 (bR SB) ++ (wA cI (r 8) 4 SS ++ (wA cI (r 9) 160 SN)))))))))) (fun _ => rfl) rfl hl.1 rfl (Nat.le_of_ble_eq_true rfl) dX5_talk_47 ⟨Nat.le_of_ble_eq_true rfl, Nat.le_of_ble_eq_true rfl⟩ (fun _ H locs _ hP hD hS => ?_)
            refine W.eq (g2 := F0 m 50 ls [.int (iI (ushrI (drF Tt 2) 8))]) rfl ?_
            have hu1 := ushr8_b (drF Tt 2)
            refine x_bipush hx hb dX5_talk_50 (by decide) ?_
            refine x_irem hx hb (by omega) (by omega) (by decide) (by decide) dX5_talk_52 ?_
            refine x_topi ((((ushrI (drF Tt 2) 8) % 6).toNat : Nat) : Int) (by omega) ?_
            refine lv_istore_n (lv' := [(3, .int (iI ((((ushrI (drF Tt 2) 8) % 6).toNat : Nat) : Int))), (0, .ref (r 0)), (1, .int (iI ((n0 : Nat) : Int))), (2, .int (iI ((t : Nat) : Int)))]) hx hb dX5_talk_53 rfl hl (by decide) rfl (fun ls hl => ?_)
            refine lv_aload_n hx hb dX5_talk_54 rfl (lv_at hl 1 rfl) ?_
            refine va_get (D := D) (ci := 4) (v := .ref (r 1)) (C := RX5) (T := TX5) (N := 18) hx hb hts (iT_X5_talk_X5) hown hK hP 0 rfl rfl 0 (by decide) (hts (.fieldLink RX5 7 "WordSupperModel" "s" "[I") (by decide +kernel)) (fun _ h9 => h9) rfl dX5_talk_55 ?_
            refine x_iconst hx hb dX5_talk_58 ?_
            refine lv_iload_n hx hb dX5_talk_59 rfl (lv_at hl 0 rfl) ?_
            refine x_iadd hx hb dX5_talk_60 ?_
            refine x_topi ((4 + (((ushrI (drF Tt 2) 8) % 6).toNat) : Nat) : Int) (by omega) ?_
            refine lv_aload_n hx hb dX5_talk_61 rfl (lv_at hl 1 rfl) ?_
            refine x_callV (As := []) (rest := [.int (iI ((4 + (((ushrI (drF Tt 2) 8) % 6).toNat) : Nat) : Int)), .ref (r 1)]) ⟨hx, hb, hml, hown, hts⟩ (kX5_draw r ik tn jt (drF Tt) ) (cwV 0 hts gX5_talk_X5_draw rfl rfl rfl ykVX5_draw ⟨Nat.le_of_ble_eq_true rfl, Nat.le_of_ble_eq_true rfl⟩) hP hK hD hS 0 4 rfl rfl rfl [0, 1] rfl (by decide) (fun _ => rfl) (fun _ => wRo r ik tn jt ++ (wA cI (r 1) 100 (drF (drF Tt)) ++ (wA cI (r 2) 100 K ++ (wA cI (r 3) 100 X ++ (wA cI (r 4) 100 Y ++ (wA cI (r 5) 8 (fR F) ++ (wA cI (r 6) 120 TB ++ (wA cI (r 7) 4 (bR SB) ++ (wA cI (r 8) 4 SS ++ (wA cI (r 9) 160 SN)))))))))) (fun _ => rfl) rfl hl.1 rfl (Nat.le_of_ble_eq_true rfl) dX5_talk_62 ⟨Nat.le_of_ble_eq_true rfl, Nat.le_of_ble_eq_true rfl⟩ (fun _ H locs _ hP hD hS => ?_)
            refine W.eq (g2 := F0 m 65 ls [.int (iI (ushrI (drF (drF Tt) 2) 8)), .int (iI ((4 + (((ushrI (drF Tt 2) 8) % 6).toNat) : Nat) : Int)), .ref (r 1)]) rfl ?_
            have hu2 := ushr8_b (drF (drF Tt) 2)
            refine x_bipush hx hb dX5_talk_65 (by decide) ?_
            refine x_irem hx hb (by omega) (by omega) (by decide) (by decide) dX5_talk_67 ?_
            refine x_iast hx hb hK hP hD hS 1 0 rfl rfl (4 + (((ushrI (drF Tt 2) 8) % 6).toNat)) rfl (by omega) (by decide) (wRo r ik tn jt ++ (wA cI (r 1) 100 (va_up (drF (drF Tt)) (4 + (((ushrI (drF Tt 2) 8) % 6).toNat)) ((ushrI (drF (drF Tt) 2) 8) % 21)) ++ (wA cI (r 2) 100 K ++ (wA cI (r 3) 100 X ++ (wA cI (r 4) 100 Y ++ (wA cI (r 5) 8 (fR F) ++ (wA cI (r 6) 120 TB ++ (wA cI (r 7) 4 (bR SB) ++ (wA cI (r 8) 4 SS ++ (wA cI (r 9) 160 SN)))))))))) (by rw [← wA_up cI (r 1) 100 (drF (drF Tt)) ((ushrI (drF (drF Tt) 2) 8) % 21) (4 + (((ushrI (drF Tt 2) 8) % 6).toNat)) (by omega)]; rfl) dX5_talk_68 (fun H locs hP hD hS => ?_)
            have hi9 := Inv_li (t := ((ushrI (drF Tt 2) 8) % 6).toNat) (v := (ushrI (drF (drF Tt) 2) 8) % 21) (Inv_dr (Inv_dr hi0)) (by omega) (by omega)
            refine lv_aload_n hx hb dX5_talk_69 rfl (lv_at hl 1 rfl) ?_
            refine x_iconst hx hb dX5_talk_70 ?_
            refine x_callV (As := [.int (iI 0)]) (rest := []) ⟨hx, hb, hml, hown, hts⟩ (kX5_dayBut r ik tn jt (va_up (drF (drF Tt)) (4 + (((ushrI (drF Tt 2) 8) % 6).toNat)) ((ushrI (drF (drF Tt) 2) 8) % 21)) 0 (B + (t : Int)) hi9 (by omega) (by decide)) (cwV 1 hts gX5_talk_X5_dayBut rfl rfl rfl ykVX5_dayBut ⟨Nat.le_of_ble_eq_true rfl, Nat.le_of_ble_eq_true rfl⟩) hP hK hD hS 0 4 rfl rfl rfl [0, 1] rfl (by decide) (fun _ => rfl) (fun u => wRo r ik tn u.2 ++ (wA cI (r 1) 100 u.1 ++ (wA cI (r 2) 100 K ++ (wA cI (r 3) 100 X ++ (wA cI (r 4) 100 Y ++ (wA cI (r 5) 8 (fR F) ++ (wA cI (r 6) 120 TB ++ (wA cI (r 7) 4 (bR SB) ++ (wA cI (r 8) 4 SS ++ (wA cI (r 9) 160 SN)))))))))) (fun _ => rfl) rfl hl.1 rfl (Nat.le_of_ble_eq_true rfl) dX5_talk_71 ⟨Nat.le_of_ble_eq_true rfl, Nat.le_of_ble_eq_true rfl⟩ (fun u3 H locs hp4 hP hD hS => ?_)
            obtain ⟨T11, j12⟩ := u3
            replace hp4 : T11 = dyF 0 (va_up (drF (drF Tt)) (4 + (((ushrI (drF Tt 2) 8) % 6).toNat)) ((ushrI (drF (drF Tt) 2) 8) % 21)) := hp4
            have hP : va_P D vwCl (wRo r ik tn j12 ++ (wA cI (r 1) 100 T11 ++ (wA cI (r 2) 100 K ++ (wA cI (r 3) 100 X ++ (wA cI (r 4) 100 Y ++ (wA cI (r 5) 8 (fR F) ++ (wA cI (r 6) 120 TB ++ (wA cI (r 7) 4 (bR SB) ++ (wA cI (r 8) 4 SS ++ (wA cI (r 9) 160 SN)))))))))) H := hP
            have hD : va_D A (wRo r ik tn j12 ++ (wA cI (r 1) 100 T11 ++ (wA cI (r 2) 100 K ++ (wA cI (r 3) 100 X ++ (wA cI (r 4) 100 Y ++ (wA cI (r 5) 8 (fR F) ++ (wA cI (r 6) 120 TB ++ (wA cI (r 7) 4 (bR SB) ++ (wA cI (r 8) 4 SS ++ (wA cI (r 9) 160 SN)))))))))) := hD
            refine W.eq (g2 := F0 m 74 ls []) rfl ?_
            refine x_iinc hx hb 3 ((t + 1 : Nat) : Int) (by omega) [(2, .int (iI ((t + 1 : Nat) : Int))), (3, .int (iI ((((ushrI (drF Tt 2) 8) % 6).toNat : Nat) : Int))), (0, .ref (r 0)), (1, .int (iI ((n0 : Nat) : Int)))] dX5_talk_74 hl rfl (by decide) rfl (fun ls hl => ?_)
            refine lv_goto (tgt := 41) hx hb dX5_talk_77 (by decide) ?_
            exact ih (t + 1) T11 j12 _ _ _ (by omega) (run_step hr hp4.symm) (by rw [hp4, show B + ((t + 1 : Nat) : Int) = B + (t : Int) + 1 by omega]; exact (dyF_I hi9).1) hP hD hS (lv_sub hl [2, 3, 0] rfl)
      exact L41 n0 0 T j _ _ _ (by omega) rfl (by simpa using hI) hP hD hS (lv_sub hl [1, 2, 0] rfl)
    · exfalso; omega
  · refine lv_aload_n hx hb dX5_talk_12 rfl (lv_at hl 0 rfl) ?_
    refine x_ldc hx hb (-1000001) rfl hown (hts (.constant RX5 37 (-1000001)) (by decide +kernel)) dX5_talk_13 ?_
    refine x_callV (As := [.int (iI (-1000001))]) (rest := []) ⟨hx, hb, hml, hown, hts⟩ (kX5_finds r ik tn j F (-1000001) 0 (by omega) (by omega)) (cwV 1 hts gX5_talk_X5_finds rfl rfl rfl ykVX5_finds ⟨Nat.le_of_ble_eq_true rfl, Nat.le_of_ble_eq_true rfl⟩) hP hK hD hS 0 4 rfl rfl rfl [0, 5] rfl (by decide) (fun _ => rfl) (fun _ => wRo r ik tn j ++ (wA cI (r 1) 100 T ++ (wA cI (r 2) 100 K ++ (wA cI (r 3) 100 X ++ (wA cI (r 4) 100 Y ++ (wA cI (r 5) 8 (fR (bmp 0 F)) ++ (wA cI (r 6) 120 TB ++ (wA cI (r 7) 4 (bR SB) ++ (wA cI (r 8) 4 SS ++ (wA cI (r 9) 160 SN)))))))))) (fun _ => rfl) rfl hl.1 rfl (Nat.le_of_ble_eq_true rfl) dX5_talk_15 ⟨Nat.le_of_ble_eq_true rfl, Nat.le_of_ble_eq_true rfl⟩ (fun _ H locs _ hP hD hS => ?_)
    refine W.eq (g2 := F0 m 18 ls [.int (iI (-1000001))]) rfl ?_
    exact kend (((-1000001), T, K, ik, SB, SS, SN, tn, TB, (bmp 0 F)), X, Y, j) hP hS rfl (if_neg (by omega)).symm dX5_talk_18
theorem ykSX5_odds : yX5_odds.cls ≠ "java/lang/invoke/MethodHandle" ∧ yX5_odds.cls ≠ "java/lang/invoke/VarHandle" ∧ (parseMethodDescriptor yX5_odds.desc).map (fun d => d.parameters.length) = some 3 := by decide +kernel
theorem ykVX5_odds : yX5_odds.cls = RX5 ∧ yX5_odds.cls ≠ "java/lang/invoke/MethodHandle" ∧ yX5_odds.cls ≠ "java/lang/invoke/VarHandle" ∧ (parseMethodDescriptor yX5_odds.desc).map (fun d => d.parameters.length) = some 3 := ⟨rfl, ykSX5_odds⟩
set_option maxHeartbeats 4000000 in
set_option maxRecDepth 100000 in
theorem kX5_odds {l : Launch} {D : va_G} {cI cB : ClassId} (r : Nat → Nat) (T K : Tb) (ik : Int) (SB SS SN : Nat → Int) (tn : Int) (TB F : Nat → Int) (X Y : Tb) (j : Nat → Int) (sp n wh : Int) (B : Int) (hG : GI B T K ik SB SS SN tn TB F) (hB : B ≤ 40000) (h_sp : rI sp) (h_n : rI n) (h_wh : rI wh) : Ct l yX5_odds wsX5_odds 1 25 D [(cI, .int), (cB, .byte)] [.ref (r 0), .int (iI sp), .int (iI n), .int (iI wh)] (wM cI r (T, K, ik, SB, SS, SN, tn, TB, F) X Y j) (S := (Int × Gs) × Tb × Tb × (Nat → Int)) (fun u => some (.long (lI u.1.1))) (fun u => u.1 = m_odds sp n wh T K ik SB SS SN tn TB F) (fun u => wM cI r u.1.2 u.2.1 u.2.2.1 u.2.2.2) := by
  refine CtL.of (cc := cX5_odds) (maxL := 15) (by decide +kernel) rfl (Nat.le_of_ble_eq_true rfl) ?_
  intro pg e s m args below meth c Q A hx hb hml hts hown hP hK hD hS ls hl kend
  have hown : s.vm.findClass RX5 = some m.cls := hown
  have hl : lv_has ls 15 [(0, .ref (r 0)), (1, .int (iI sp)), (2, .int (iI n)), (3, .int (iI wh))] := hl
  obtain ⟨hI, hIK, hik, hSB, hSS, hSN, htn, hTB, hF⟩ := id hG
  have hn := Inv_n hI
  have hdy := Inv_d hI
  have hP : va_P D vwCl (wRo r ik tn j ++ (wA cI (r 1) 100 T ++ (wA cI (r 2) 100 K ++ (wA cI (r 3) 100 X ++ (wA cI (r 4) 100 Y ++ (wA cI (r 5) 8 (fR F) ++ (wA cI (r 6) 120 TB ++ (wA cI (r 7) 4 (bR SB) ++ (wA cI (r 8) 4 SS ++ (wA cI (r 9) 160 SN)))))))))) s.heap := hP
  have hD : va_D A (wRo r ik tn j ++ (wA cI (r 1) 100 T ++ (wA cI (r 2) 100 K ++ (wA cI (r 3) 100 X ++ (wA cI (r 4) 100 Y ++ (wA cI (r 5) 8 (fR F) ++ (wA cI (r 6) 120 TB ++ (wA cI (r 7) 4 (bR SB) ++ (wA cI (r 8) 4 SS ++ (wA cI (r 9) 160 SN)))))))))) := hD
  refine lv_aload_n hx hb dX5_odds_0 rfl (lv_at hl 0 rfl) ?_
  refine lv_iload_n hx hb dX5_odds_1 rfl (lv_at hl 1 rfl) ?_
  refine x_callV (As := [.int (iI sp)]) (rest := []) ⟨hx, hb, hml, hown, hts⟩ (kX5_isOne r ik tn j T sp (by omega) (by omega)) (cwV 1 hts gX5_odds_X5_isOne rfl rfl rfl ykVX5_isOne ⟨Nat.le_of_ble_eq_true rfl, Nat.le_of_ble_eq_true rfl⟩) hP hK hD hS 0 4 rfl rfl rfl [0, 1] rfl (by decide) (fun _ => rfl) (fun _ => wRo r ik tn j ++ (wA cI (r 1) 100 T ++ (wA cI (r 2) 100 K ++ (wA cI (r 3) 100 X ++ (wA cI (r 4) 100 Y ++ (wA cI (r 5) 8 (fR F) ++ (wA cI (r 6) 120 TB ++ (wA cI (r 7) 4 (bR SB) ++ (wA cI (r 8) 4 SS ++ (wA cI (r 9) 160 SN)))))))))) (fun _ => rfl) rfl hl.1 rfl (Nat.le_of_ble_eq_true rfl) dX5_odds_2 ⟨Nat.le_of_ble_eq_true rfl, Nat.le_of_ble_eq_true rfl⟩ (fun _ H locs _ hP hD hS => ?_)
  refine W.eq (g2 := F0 m 5 ls [.int (iI (b2 (decide (0 ≤ sp ∧ sp < T 0))))]) rfl ?_
  refine x_ifb_eq (tgt := 30) hx hb dX5_odds_5 (by decide) (fun c_5 => ?_) (fun c_5 => ?_)
  · refine lv_aload_n hx hb dX5_odds_30 rfl (lv_at hl 0 rfl) ?_
    refine x_ldc hx hb (-1000001) rfl hown (hts (.constant RX5 37 (-1000001)) (by decide +kernel)) dX5_odds_31 ?_
    refine x_callV (As := [.int (iI (-1000001))]) (rest := []) ⟨hx, hb, hml, hown, hts⟩ (kX5_finds r ik tn j F (-1000001) 0 (by omega) (by omega)) (cwV 1 hts gX5_odds_X5_finds rfl rfl rfl ykVX5_finds ⟨Nat.le_of_ble_eq_true rfl, Nat.le_of_ble_eq_true rfl⟩) hP hK hD hS 0 4 rfl rfl rfl [0, 5] rfl (by decide) (fun _ => rfl) (fun _ => wRo r ik tn j ++ (wA cI (r 1) 100 T ++ (wA cI (r 2) 100 K ++ (wA cI (r 3) 100 X ++ (wA cI (r 4) 100 Y ++ (wA cI (r 5) 8 (fR (bmp 0 F)) ++ (wA cI (r 6) 120 TB ++ (wA cI (r 7) 4 (bR SB) ++ (wA cI (r 8) 4 SS ++ (wA cI (r 9) 160 SN)))))))))) (fun _ => rfl) rfl hl.1 rfl (Nat.le_of_ble_eq_true rfl) dX5_odds_33 ⟨Nat.le_of_ble_eq_true rfl, Nat.le_of_ble_eq_true rfl⟩ (fun _ H locs _ hP hD hS => ?_)
    refine W.eq (g2 := F0 m 36 ls [.int (iI (-1000001))]) rfl ?_
    refine x_i2l hx hb (by omega) dX5_odds_36 ?_
    exact kend (((-1000001), T, K, ik, SB, SS, SN, tn, TB, (bmp 0 F)), X, Y, j) hP hS rfl (if_neg (by omega)).symm dX5_odds_37
  · refine lv_iload_n hx hb dX5_odds_8 rfl (lv_at hl 2 rfl) ?_
    refine x_i2l hx hb (by omega) dX5_odds_9 ?_
    refine x_lconst hx hb 0 rfl dX5_odds_10 ?_
    refine x_ldc2 hx hb 23 rfl hown (hts (.constantLong RX5 195 (23)) (by decide +kernel)) dX5_odds_11 ?_
    refine x_callS (As := [.long (lI n), .long (lI 0), .long (lI 23)]) (rest := []) ⟨hx, hb, hml, hown, hts⟩ (kX5_isIn n 0 23 hvn (by omega) (by omega)) (va_cwS 3 hts gX5_odds_X5_isIn rfl rfl rfl ykSX5_isIn ⟨Nat.le_of_ble_eq_true rfl, Nat.le_of_ble_eq_true rfl⟩) hP hK hD hS [] rfl (by decide) (fun _ => rfl) (fun _ => wRo r ik tn j ++ (wA cI (r 1) 100 T ++ (wA cI (r 2) 100 K ++ (wA cI (r 3) 100 X ++ (wA cI (r 4) 100 Y ++ (wA cI (r 5) 8 (fR F) ++ (wA cI (r 6) 120 TB ++ (wA cI (r 7) 4 (bR SB) ++ (wA cI (r 8) 4 SS ++ (wA cI (r 9) 160 SN)))))))))) (fun _ => rfl) rfl hl.1 rfl (Nat.le_of_ble_eq_true rfl) dX5_odds_14 ⟨Nat.le_of_ble_eq_true rfl, Nat.le_of_ble_eq_true rfl⟩ (fun _ H locs _ hP hD hS => ?_)
    refine W.eq (g2 := F0 m 17 ls [.int (iI (b2 (decide (0 ≤ n ∧ n ≤ 23))))]) rfl ?_
    refine x_ifb_eq (tgt := 30) hx hb dX5_odds_17 (by decide) (fun c_17 => ?_) (fun c_17 => ?_)
    · refine lv_aload_n hx hb dX5_odds_30 rfl (lv_at hl 0 rfl) ?_
      refine x_ldc hx hb (-1000001) rfl hown (hts (.constant RX5 37 (-1000001)) (by decide +kernel)) dX5_odds_31 ?_
      refine x_callV (As := [.int (iI (-1000001))]) (rest := []) ⟨hx, hb, hml, hown, hts⟩ (kX5_finds r ik tn j F (-1000001) 0 (by omega) (by omega)) (cwV 1 hts gX5_odds_X5_finds rfl rfl rfl ykVX5_finds ⟨Nat.le_of_ble_eq_true rfl, Nat.le_of_ble_eq_true rfl⟩) hP hK hD hS 0 4 rfl rfl rfl [0, 5] rfl (by decide) (fun _ => rfl) (fun _ => wRo r ik tn j ++ (wA cI (r 1) 100 T ++ (wA cI (r 2) 100 K ++ (wA cI (r 3) 100 X ++ (wA cI (r 4) 100 Y ++ (wA cI (r 5) 8 (fR (bmp 0 F)) ++ (wA cI (r 6) 120 TB ++ (wA cI (r 7) 4 (bR SB) ++ (wA cI (r 8) 4 SS ++ (wA cI (r 9) 160 SN)))))))))) (fun _ => rfl) rfl hl.1 rfl (Nat.le_of_ble_eq_true rfl) dX5_odds_33 ⟨Nat.le_of_ble_eq_true rfl, Nat.le_of_ble_eq_true rfl⟩ (fun _ H locs _ hP hD hS => ?_)
      refine W.eq (g2 := F0 m 36 ls [.int (iI (-1000001))]) rfl ?_
      refine x_i2l hx hb (by omega) dX5_odds_36 ?_
      exact kend (((-1000001), T, K, ik, SB, SS, SN, tn, TB, (bmp 0 F)), X, Y, j) hP hS rfl (if_neg (by omega)).symm dX5_odds_37
    · refine lv_iload_n hx hb dX5_odds_20 rfl (lv_at hl 3 rfl) ?_
      refine x_i2l hx hb (by omega) dX5_odds_21 ?_
      refine x_lconst hx hb 0 rfl dX5_odds_22 ?_
      refine x_lconst hx hb 1 rfl dX5_odds_23 ?_
      refine x_callS (As := [.long (lI wh), .long (lI 0), .long (lI 1)]) (rest := []) ⟨hx, hb, hml, hown, hts⟩ (kX5_isIn wh 0 1 hvn (by omega) (by omega)) (va_cwS 3 hts gX5_odds_X5_isIn rfl rfl rfl ykSX5_isIn ⟨Nat.le_of_ble_eq_true rfl, Nat.le_of_ble_eq_true rfl⟩) hP hK hD hS [] rfl (by decide) (fun _ => rfl) (fun _ => wRo r ik tn j ++ (wA cI (r 1) 100 T ++ (wA cI (r 2) 100 K ++ (wA cI (r 3) 100 X ++ (wA cI (r 4) 100 Y ++ (wA cI (r 5) 8 (fR F) ++ (wA cI (r 6) 120 TB ++ (wA cI (r 7) 4 (bR SB) ++ (wA cI (r 8) 4 SS ++ (wA cI (r 9) 160 SN)))))))))) (fun _ => rfl) rfl hl.1 rfl (Nat.le_of_ble_eq_true rfl) dX5_odds_24 ⟨Nat.le_of_ble_eq_true rfl, Nat.le_of_ble_eq_true rfl⟩ (fun _ H locs _ hP hD hS => ?_)
      refine W.eq (g2 := F0 m 27 ls [.int (iI (b2 (decide (0 ≤ wh ∧ wh ≤ 1))))]) rfl ?_
      refine x_ifb_ne (tgt := 38) hx hb dX5_odds_27 (by decide) (fun c_27 => ?_) (fun c_27 => ?_)
      · obtain ⟨p0, rfl⟩ : ∃ p0 : Nat, sp = (p0 : Int) := ⟨sp.toNat, by omega⟩
        obtain ⟨n0, rfl⟩ : ∃ n0 : Nat, n = (n0 : Int) := ⟨n.toNat, by omega⟩
        have hkd := Inv_k (p := p0) hI (by omega)
        have hvn := Inv_v hI
        refine x_lconst hx hb 1 rfl dX5_odds_38 ?_
        refine lv_lstore (lv' := [(4, .long (lI 1)), (0, .ref (r 0)), (1, .int (iI ((p0 : Nat) : Int))), (2, .int (iI ((n0 : Nat) : Int))), (3, .int (iI wh))]) hx hb dX5_odds_39 hl (by decide) rfl (fun ls hl => ?_)
        refine x_lconst hx hb 1 rfl dX5_odds_41 ?_
        refine lv_lstore (lv' := [(6, .long (lI 1)), (4, .long (lI 1)), (0, .ref (r 0)), (1, .int (iI ((p0 : Nat) : Int))), (2, .int (iI ((n0 : Nat) : Int))), (3, .int (iI wh))]) hx hb dX5_odds_42 hl (by decide) rfl (fun ls hl => ?_)
        refine x_iconst hx hb dX5_odds_44 ?_
        refine lv_istore (lv' := [(8, .int (iI 0)), (6, .long (lI 1)), (4, .long (lI 1)), (0, .ref (r 0)), (1, .int (iI ((p0 : Nat) : Int))), (2, .int (iI ((n0 : Nat) : Int))), (3, .int (iI wh))]) hx hb dX5_odds_45 hl (by decide) rfl (fun ls hl => ?_)
        refine x_iconst hx hb dX5_odds_47 ?_
        refine lv_istore (lv' := [(9, .int (iI 0)), (8, .int (iI 0)), (6, .long (lI 1)), (4, .long (lI 1)), (0, .ref (r 0)), (1, .int (iI ((p0 : Nat) : Int))), (2, .int (iI ((n0 : Nat) : Int))), (3, .int (iI wh))]) hx hb dX5_odds_48 hl (by decide) rfl (fun ls hl => ?_)
        have L50 : ∀ (k t : Nat) (cv : Nat) (H : Heap) (locs : List Loc) (ls : Array Slot), t + k = 6 → (run (fun (t : Nat) (z : Nat) => if 0 ≤ chF (T (cx p0 0)) (t : Int) (T 3) then z + 1 else z) k t cv = caF T p0) → (cv ≤ t) → va_P D vwCl (wRo r ik tn j ++ (wA cI (r 1) 100 T ++ (wA cI (r 2) 100 K ++ (wA cI (r 3) 100 X ++ (wA cI (r 4) 100 Y ++ (wA cI (r 5) 8 (fR F) ++ (wA cI (r 6) 120 TB ++ (wA cI (r 7) 4 (bR SB) ++ (wA cI (r 8) 4 SS ++ (wA cI (r 9) 160 SN)))))))))) H → va_D A (wRo r ik tn j ++ (wA cI (r 1) 100 T ++ (wA cI (r 2) 100 K ++ (wA cI (r 3) 100 X ++ (wA cI (r 4) 100 Y ++ (wA cI (r 5) 8 (fR F) ++ (wA cI (r 6) 120 TB ++ (wA cI (r 7) 4 (bR SB) ++ (wA cI (r 8) 4 SS ++ (wA cI (r 9) 160 SN)))))))))) → va_S A s.heap H locs → lv_has ls 15 [(0, .ref (r 0)), (1, .int (iI ((p0 : Nat) : Int))), (2, .int (iI ((n0 : Nat) : Int))), (3, .int (iI wh)), (4, .long (lI 1)), (6, .long (lI 1)), (8, .int (iI ((cv : Nat) : Int))), (9, .int (iI ((t : Nat) : Int)))] → W pg l e { frames := 1, cells := 0, slots := 0, locals := 25 } s m args below meth c H locs 0 0 Q (F0 m 50 ls []) := by
          intro k
          induction k with
          | zero =>
            intro t cv H locs ls hkt hr hc hP hD hS hl
            refine lv_iload hx hb dX5_odds_50 (lv_at hl 7 rfl) ?_
            refine x_bipush hx hb dX5_odds_52 (by decide) ?_
            refine x_icmp_ge (tgt := 88) hx hb (by omega) (by decide) dX5_odds_54 (by decide) (fun c_54 => ?_) (fun c_54 => ?_)
            · refine x_iconst hx hb dX5_odds_88 ?_
              refine lv_istore (lv' := [(9, .int (iI 0)), (0, .ref (r 0)), (1, .int (iI ((p0 : Nat) : Int))), (2, .int (iI ((n0 : Nat) : Int))), (3, .int (iI wh)), (4, .long (lI 1)), (6, .long (lI 1)), (8, .int (iI ((cv : Nat) : Int)))]) hx hb dX5_odds_89 hl (by decide) rfl (fun ls hl => ?_)
              have L91 : ∀ (k3 i : Nat) (H : Heap) (locs : List Loc) (ls : Array Slot), i + k3 = n0 → va_P D vwCl (wRo r ik tn j ++ (wA cI (r 1) 100 T ++ (wA cI (r 2) 100 K ++ (wA cI (r 3) 100 X ++ (wA cI (r 4) 100 Y ++ (wA cI (r 5) 8 (fR F) ++ (wA cI (r 6) 120 TB ++ (wA cI (r 7) 4 (bR SB) ++ (wA cI (r 8) 4 SS ++ (wA cI (r 9) 160 SN)))))))))) H → va_D A (wRo r ik tn j ++ (wA cI (r 1) 100 T ++ (wA cI (r 2) 100 K ++ (wA cI (r 3) 100 X ++ (wA cI (r 4) 100 Y ++ (wA cI (r 5) 8 (fR F) ++ (wA cI (r 6) 120 TB ++ (wA cI (r 7) 4 (bR SB) ++ (wA cI (r 8) 4 SS ++ (wA cI (r 9) 160 SN)))))))))) → va_S A s.heap H locs → lv_has ls 15 [(0, .ref (r 0)), (1, .int (iI ((p0 : Nat) : Int))), (2, .int (iI ((n0 : Nat) : Int))), (3, .int (iI wh)), (4, .long (lI ((cv ^ i : Nat) : Int))), (6, .long (lI ((6 ^ i : Nat) : Int))), (8, .int (iI ((cv : Nat) : Int))), (9, .int (iI ((i : Nat) : Int)))] → W pg l e { frames := 1, cells := 0, slots := 0, locals := 25 } s m args below meth c H locs 0 0 Q (F0 m 91 ls []) := by
                intro k3
                induction k3 with
                | zero =>
                  intro i H locs ls hki hP hD hS hl
                  refine lv_iload hx hb dX5_odds_91 (lv_at hl 7 rfl) ?_
                  refine lv_iload_n hx hb dX5_odds_93 rfl (lv_at hl 2 rfl) ?_
                  refine x_icmp_ge (tgt := 119) hx hb (by omega) (by omega) dX5_odds_94 (by decide) (fun c_94 => ?_) (fun c_94 => ?_)
                  · have e_i : n0 = i := by omega
                    subst e_i
                    refine lv_lload hx hb dX5_odds_119 (lv_at hl 5 rfl) ?_
                    have hpw := pw_b (c := cv) (n := n0) (by omega) (by omega)
                    refine lv_lstore (lv' := [(9, .long (lI ((6 ^ n0 : Nat) : Int))), (0, .ref (r 0)), (1, .int (iI ((p0 : Nat) : Int))), (2, .int (iI ((n0 : Nat) : Int))), (3, .int (iI wh)), (4, .long (lI ((cv ^ n0 : Nat) : Int))), (6, .long (lI ((6 ^ n0 : Nat) : Int))), (8, .int (iI ((cv : Nat) : Int)))]) hx hb dX5_odds_121 hl (by decide) rfl (fun ls hl => ?_)
                    refine lv_lload hx hb dX5_odds_123 (lv_at hl 5 rfl) ?_
                    refine lv_lstore (lv' := [(11, .long (lI ((cv ^ n0 : Nat) : Int))), (9, .long (lI ((6 ^ n0 : Nat) : Int))), (0, .ref (r 0)), (1, .int (iI ((p0 : Nat) : Int))), (2, .int (iI ((n0 : Nat) : Int))), (3, .int (iI wh)), (4, .long (lI ((cv ^ n0 : Nat) : Int))), (6, .long (lI ((6 ^ n0 : Nat) : Int))), (8, .int (iI ((cv : Nat) : Int)))]) hx hb dX5_odds_125 hl (by decide) rfl (fun ls hl => ?_)
                    have L127 : ∀ (k4 f : Nat) (av : Nat) (bv : Nat) (H : Heap) (locs : List Loc) (ls : Array Slot), f + k4 = 1000000000000000000 → (Nat.gcd av bv = Nat.gcd (6 ^ n0) (cv ^ n0)) → (0 < av ∧ av ≤ 1000000000000000000) → (bv + f ≤ 1000000000000000000) → va_P D vwCl (wRo r ik tn j ++ (wA cI (r 1) 100 T ++ (wA cI (r 2) 100 K ++ (wA cI (r 3) 100 X ++ (wA cI (r 4) 100 Y ++ (wA cI (r 5) 8 (fR F) ++ (wA cI (r 6) 120 TB ++ (wA cI (r 7) 4 (bR SB) ++ (wA cI (r 8) 4 SS ++ (wA cI (r 9) 160 SN)))))))))) H → va_D A (wRo r ik tn j ++ (wA cI (r 1) 100 T ++ (wA cI (r 2) 100 K ++ (wA cI (r 3) 100 X ++ (wA cI (r 4) 100 Y ++ (wA cI (r 5) 8 (fR F) ++ (wA cI (r 6) 120 TB ++ (wA cI (r 7) 4 (bR SB) ++ (wA cI (r 8) 4 SS ++ (wA cI (r 9) 160 SN)))))))))) → va_S A s.heap H locs → lv_has ls 15 [(0, .ref (r 0)), (1, .int (iI ((p0 : Nat) : Int))), (2, .int (iI ((n0 : Nat) : Int))), (3, .int (iI wh)), (4, .long (lI ((cv ^ n0 : Nat) : Int))), (6, .long (lI ((6 ^ n0 : Nat) : Int))), (8, .int (iI ((cv : Nat) : Int))), (9, .long (lI ((av : Nat) : Int))), (11, .long (lI ((bv : Nat) : Int)))] → W pg l e { frames := 1, cells := 0, slots := 0, locals := 25 } s m args below meth c H locs 0 0 Q (F0 m 127 ls []) := by
                      intro k4
                      induction k4 with
                      | zero =>
                        intro f av bv H locs ls hkf hg ha hb hP hD hS hl
                        refine lv_lload hx hb dX5_odds_127 (lv_at hl 8 rfl) ?_
                        refine x_lconst hx hb 0 rfl dX5_odds_129 ?_
                        refine x_lcmp_eq (tgt := 152) hx hb (by omega) (by decide) dX5_odds_130 dX5_odds_131 (by decide) (fun c_130 => ?_) (fun c_130 => ?_)
                        · have e_g : av = Nat.gcd (6 ^ n0) (cv ^ n0) := by rw [← hg]; obtain rfl : bv = 0 := (by omega); exact (Nat.gcd_zero_right av).symm
                          refine lv_iload_n hx hb dX5_odds_152 rfl (lv_at hl 3 rfl) ?_
                          refine x_if_ne (tgt := 164) hx hb (by omega) dX5_odds_153 (by decide) (fun c_153 => ?_) (fun c_153 => ?_)
                          · refine lv_lload hx hb dX5_odds_164 (lv_at hl 5 rfl) ?_
                            refine lv_lload hx hb dX5_odds_166 (lv_at hl 7 rfl) ?_
                            refine x_ldiv hx hb (by omega) (by omega) (by omega) (by omega) dX5_odds_168 ?_
                            exact kend ((((6 ^ n0 : Nat) : Int) / ((av : Nat) : Int), T, K, ik, SB, SS, SN, tn, TB, F), X, Y, j) hP hS rfl (by unfold m_odds; rw [if_pos (by omega)]; simp only [Int.toNat_natCast]; rw [← hr, if_neg (by omega), e_g, od_b (by omega)] <;> rfl) dX5_odds_169
                          · refine lv_lload hx hb dX5_odds_156 (lv_at hl 4 rfl) ?_
                            refine lv_lload hx hb dX5_odds_158 (lv_at hl 7 rfl) ?_
                            refine x_ldiv hx hb (by omega) (by omega) (by omega) (by omega) dX5_odds_160 ?_
                            refine lv_goto (tgt := 169) hx hb dX5_odds_161 (by decide) ?_
                            exact kend ((((cv ^ n0 : Nat) : Int) / ((av : Nat) : Int), T, K, ik, SB, SS, SN, tn, TB, F), X, Y, j) hP hS rfl (by unfold m_odds; rw [if_pos (by omega)]; simp only [Int.toNat_natCast]; rw [← hr, if_pos (by omega), e_g, od_a (by omega)] <;> rfl) dX5_odds_169
                        · exfalso; omega
                      | succ k4 ih4 =>
                        intro f av bv H locs ls hkf hg ha hb hP hD hS hl
                        refine lv_lload hx hb dX5_odds_127 (lv_at hl 8 rfl) ?_
                        refine x_lconst hx hb 0 rfl dX5_odds_129 ?_
                        refine x_lcmp_eq (tgt := 152) hx hb (by omega) (by decide) dX5_odds_130 dX5_odds_131 (by decide) (fun c_130 => ?_) (fun c_130 => ?_)
                        · have e_g : av = Nat.gcd (6 ^ n0) (cv ^ n0) := by rw [← hg]; obtain rfl : bv = 0 := (by omega); exact (Nat.gcd_zero_right av).symm
                          refine lv_iload_n hx hb dX5_odds_152 rfl (lv_at hl 3 rfl) ?_
                          refine x_if_ne (tgt := 164) hx hb (by omega) dX5_odds_153 (by decide) (fun c_153 => ?_) (fun c_153 => ?_)
                          · refine lv_lload hx hb dX5_odds_164 (lv_at hl 5 rfl) ?_
                            refine lv_lload hx hb dX5_odds_166 (lv_at hl 7 rfl) ?_
                            refine x_ldiv hx hb (by omega) (by omega) (by omega) (by omega) dX5_odds_168 ?_
                            exact kend ((((6 ^ n0 : Nat) : Int) / ((av : Nat) : Int), T, K, ik, SB, SS, SN, tn, TB, F), X, Y, j) hP hS rfl (by unfold m_odds; rw [if_pos (by omega)]; simp only [Int.toNat_natCast]; rw [← hr, if_neg (by omega), e_g, od_b (by omega)] <;> rfl) dX5_odds_169
                          · refine lv_lload hx hb dX5_odds_156 (lv_at hl 4 rfl) ?_
                            refine lv_lload hx hb dX5_odds_158 (lv_at hl 7 rfl) ?_
                            refine x_ldiv hx hb (by omega) (by omega) (by omega) (by omega) dX5_odds_160 ?_
                            refine lv_goto (tgt := 169) hx hb dX5_odds_161 (by decide) ?_
                            exact kend ((((cv ^ n0 : Nat) : Int) / ((av : Nat) : Int), T, K, ik, SB, SS, SN, tn, TB, F), X, Y, j) hP hS rfl (by unfold m_odds; rw [if_pos (by omega)]; simp only [Int.toNat_natCast]; rw [← hr, if_pos (by omega), e_g, od_a (by omega)] <;> rfl) dX5_odds_169
                        · refine lv_lload hx hb dX5_odds_134 (lv_at hl 7 rfl) ?_
                          refine lv_lload hx hb dX5_odds_136 (lv_at hl 8 rfl) ?_
                          refine x_lrem hx hb (by omega) (by omega) (by omega) (by omega) dX5_odds_138 ?_
                          refine x_topl ((av % bv : Nat) : Int) rfl ?_
                          refine lv_lstore (lv' := [(13, .long (lI ((av % bv : Nat) : Int))), (0, .ref (r 0)), (1, .int (iI ((p0 : Nat) : Int))), (2, .int (iI ((n0 : Nat) : Int))), (3, .int (iI wh)), (4, .long (lI ((cv ^ n0 : Nat) : Int))), (6, .long (lI ((6 ^ n0 : Nat) : Int))), (8, .int (iI ((cv : Nat) : Int))), (9, .long (lI ((av : Nat) : Int))), (11, .long (lI ((bv : Nat) : Int)))]) hx hb dX5_odds_139 hl (by decide) rfl (fun ls hl => ?_)
                          have hmod := Nat.mod_lt av (show bv > 0 by omega)
                          refine lv_lload hx hb dX5_odds_141 (lv_at hl 9 rfl) ?_
                          refine lv_lstore (lv' := [(9, .long (lI ((bv : Nat) : Int))), (13, .long (lI ((av % bv : Nat) : Int))), (0, .ref (r 0)), (1, .int (iI ((p0 : Nat) : Int))), (2, .int (iI ((n0 : Nat) : Int))), (3, .int (iI wh)), (4, .long (lI ((cv ^ n0 : Nat) : Int))), (6, .long (lI ((6 ^ n0 : Nat) : Int))), (8, .int (iI ((cv : Nat) : Int))), (11, .long (lI ((bv : Nat) : Int)))]) hx hb dX5_odds_143 hl (by decide) rfl (fun ls hl => ?_)
                          refine lv_lload hx hb dX5_odds_145 (lv_at hl 1 rfl) ?_
                          refine lv_lstore (lv' := [(11, .long (lI ((av % bv : Nat) : Int))), (9, .long (lI ((bv : Nat) : Int))), (13, .long (lI ((av % bv : Nat) : Int))), (0, .ref (r 0)), (1, .int (iI ((p0 : Nat) : Int))), (2, .int (iI ((n0 : Nat) : Int))), (3, .int (iI wh)), (4, .long (lI ((cv ^ n0 : Nat) : Int))), (6, .long (lI ((6 ^ n0 : Nat) : Int))), (8, .int (iI ((cv : Nat) : Int)))]) hx hb dX5_odds_147 hl (by decide) rfl (fun ls hl => ?_)
                          refine lv_goto (tgt := 127) hx hb dX5_odds_149 (by decide) ?_
                          exact ih4 (f + 1) bv (av % bv) _ _ _ (by omega) (by rw [← hg]; exact (gcd_st av bv).symm) (by omega) (by omega) hP hD hS (lv_sub hl [3, 4, 5, 6, 7, 8, 9, 1, 0] rfl)
                    exact L127 1000000000000000000 0 (6 ^ n0) (cv ^ n0) _ _ _ (by omega) rfl (by omega) (by omega) hP hD hS (lv_sub hl [2, 3, 4, 5, 6, 7, 8, 1, 0] rfl)
                  · exfalso; omega
                | succ k3 ih3 =>
                  intro i H locs ls hki hP hD hS hl
                  refine lv_iload hx hb dX5_odds_91 (lv_at hl 7 rfl) ?_
                  refine lv_iload_n hx hb dX5_odds_93 rfl (lv_at hl 2 rfl) ?_
                  refine x_icmp_ge (tgt := 119) hx hb (by omega) (by omega) dX5_odds_94 (by decide) (fun c_94 => ?_) (fun c_94 => ?_)
                  · exfalso; omega
                  · refine lv_lload hx hb dX5_odds_97 (lv_at hl 4 rfl) ?_
                    refine lv_iload hx hb dX5_odds_99 (lv_at hl 6 rfl) ?_
                    refine x_i2l hx hb (by omega) dX5_odds_101 ?_
                    refine x_lmul hx hb dX5_odds_102 ?_
                    refine x_topl ((cv ^ (i + 1) : Nat) : Int) (by rw [Nat.pow_succ]; push_cast; rfl) ?_
                    refine lv_lstore (lv' := [(4, .long (lI ((cv ^ (i + 1) : Nat) : Int))), (0, .ref (r 0)), (1, .int (iI ((p0 : Nat) : Int))), (2, .int (iI ((n0 : Nat) : Int))), (3, .int (iI wh)), (6, .long (lI ((6 ^ i : Nat) : Int))), (8, .int (iI ((cv : Nat) : Int))), (9, .int (iI ((i : Nat) : Int)))]) hx hb dX5_odds_103 hl (by decide) rfl (fun ls hl => ?_)
                    refine lv_lload hx hb dX5_odds_105 (lv_at hl 5 rfl) ?_
                    refine x_ldc2 hx hb 6 rfl hown (hts (.constantLong RX5 62 (6)) (by decide +kernel)) dX5_odds_107 ?_
                    refine x_lmul hx hb dX5_odds_110 ?_
                    refine x_topl ((6 ^ (i + 1) : Nat) : Int) (by rw [Nat.pow_succ]; push_cast; rfl) ?_
                    refine lv_lstore (lv' := [(6, .long (lI ((6 ^ (i + 1) : Nat) : Int))), (4, .long (lI ((cv ^ (i + 1) : Nat) : Int))), (0, .ref (r 0)), (1, .int (iI ((p0 : Nat) : Int))), (2, .int (iI ((n0 : Nat) : Int))), (3, .int (iI wh)), (8, .int (iI ((cv : Nat) : Int))), (9, .int (iI ((i : Nat) : Int)))]) hx hb dX5_odds_111 hl (by decide) rfl (fun ls hl => ?_)
                    refine x_iinc hx hb 7 ((i + 1 : Nat) : Int) (by omega) [(9, .int (iI ((i + 1 : Nat) : Int))), (6, .long (lI ((6 ^ (i + 1) : Nat) : Int))), (4, .long (lI ((cv ^ (i + 1) : Nat) : Int))), (0, .ref (r 0)), (1, .int (iI ((p0 : Nat) : Int))), (2, .int (iI ((n0 : Nat) : Int))), (3, .int (iI wh)), (8, .int (iI ((cv : Nat) : Int)))] dX5_odds_113 hl rfl (by decide) rfl (fun ls hl => ?_)
                    refine lv_goto (tgt := 91) hx hb dX5_odds_116 (by decide) ?_
                    exact ih3 (i + 1) _ _ _ (by omega) hP hD hS (lv_sub hl [3, 4, 5, 6, 2, 1, 7, 0] rfl)
              exact L91 n0 0 _ _ _ (by omega) hP hD hS (lv_sub hl [1, 2, 3, 4, 5, 6, 7, 0] rfl)
            · exfalso; omega
          | succ k ih =>
            intro t cv H locs ls hkt hr hc hP hD hS hl
            refine lv_iload hx hb dX5_odds_50 (lv_at hl 7 rfl) ?_
            refine x_bipush hx hb dX5_odds_52 (by decide) ?_
            refine x_icmp_ge (tgt := 88) hx hb (by omega) (by decide) dX5_odds_54 (by decide) (fun c_54 => ?_) (fun c_54 => ?_)
            · exfalso; omega
            · refine lv_iload hx hb dX5_odds_57 (lv_at hl 6 rfl) ?_
              refine lv_aload_n hx hb dX5_odds_59 rfl (lv_at hl 0 rfl) ?_
              refine lv_aload_n hx hb dX5_odds_60 rfl (lv_at hl 0 rfl) ?_
              refine lv_iload_n hx hb dX5_odds_61 rfl (lv_at hl 1 rfl) ?_
              refine x_iconst hx hb dX5_odds_62 ?_
              refine x_callV (As := [.int (iI ((p0 : Nat) : Int)), .int (iI 0)]) (rest := [.ref (r 0), .int (iI ((cv : Nat) : Int))]) ⟨hx, hb, hml, hown, hts⟩ (kX5_its r ik tn j T p0 0 (by omega) (by omega)) (cwV 2 hts gX5_odds_X5_its rfl rfl rfl ykVX5_its ⟨Nat.le_of_ble_eq_true rfl, Nat.le_of_ble_eq_true rfl⟩) hP hK hD hS 0 4 rfl rfl rfl [0, 1] rfl (by decide) (fun _ => rfl) (fun _ => wRo r ik tn j ++ (wA cI (r 1) 100 T ++ (wA cI (r 2) 100 K ++ (wA cI (r 3) 100 X ++ (wA cI (r 4) 100 Y ++ (wA cI (r 5) 8 (fR F) ++ (wA cI (r 6) 120 TB ++ (wA cI (r 7) 4 (bR SB) ++ (wA cI (r 8) 4 SS ++ (wA cI (r 9) 160 SN)))))))))) (fun _ => rfl) rfl hl.1 rfl (Nat.le_of_ble_eq_true rfl) dX5_odds_63 ⟨Nat.le_of_ble_eq_true rfl, Nat.le_of_ble_eq_true rfl⟩ (fun _ H locs _ hP hD hS => ?_)
              refine W.eq (g2 := F0 m 66 ls [.int (iI (T (cx p0 0))), .ref (r 0), .int (iI ((cv : Nat) : Int))]) rfl ?_
              refine lv_iload hx hb dX5_odds_66 (lv_at hl 7 rfl) ?_
              have hcb := chF_b (t := (t : Int)) hkd hvn
              refine x_callV (As := [.int (iI (T (cx p0 0))), .int (iI ((t : Nat) : Int))]) (rest := [.int (iI ((cv : Nat) : Int))]) ⟨hx, hb, hml, hown, hts⟩ (kX5_chewsOf r ik tn j T (T (cx p0 0)) t (by omega) (by omega) hvn) (cwV 2 hts gX5_odds_X5_chewsOf rfl rfl rfl ykVX5_chewsOf ⟨Nat.le_of_ble_eq_true rfl, Nat.le_of_ble_eq_true rfl⟩) hP hK hD hS 0 4 rfl rfl rfl [0, 1] rfl (by decide) (fun _ => rfl) (fun _ => wRo r ik tn j ++ (wA cI (r 1) 100 T ++ (wA cI (r 2) 100 K ++ (wA cI (r 3) 100 X ++ (wA cI (r 4) 100 Y ++ (wA cI (r 5) 8 (fR F) ++ (wA cI (r 6) 120 TB ++ (wA cI (r 7) 4 (bR SB) ++ (wA cI (r 8) 4 SS ++ (wA cI (r 9) 160 SN)))))))))) (fun _ => rfl) rfl hl.1 rfl (Nat.le_of_ble_eq_true rfl) dX5_odds_68 ⟨Nat.le_of_ble_eq_true rfl, Nat.le_of_ble_eq_true rfl⟩ (fun _ H locs _ hP hD hS => ?_)
              refine W.eq (g2 := F0 m 71 ls [.int (iI (chF (T (cx p0 0)) ((t : Nat) : Int) (T 3))), .int (iI ((cv : Nat) : Int))]) rfl ?_
              refine x_if_lt (tgt := 78) hx hb (by omega) dX5_odds_71 (by decide) (fun c_71 => ?_) (fun c_71 => ?_)
              · refine x_iconst hx hb dX5_odds_78 ?_
                refine x_iadd hx hb dX5_odds_79 ?_
                refine x_topi ((cv + 0 : Nat) : Int) (by omega) ?_
                refine lv_istore (lv' := [(8, .int (iI ((cv + 0 : Nat) : Int))), (0, .ref (r 0)), (1, .int (iI ((p0 : Nat) : Int))), (2, .int (iI ((n0 : Nat) : Int))), (3, .int (iI wh)), (4, .long (lI 1)), (6, .long (lI 1)), (9, .int (iI ((t : Nat) : Int)))]) hx hb dX5_odds_80 hl (by decide) rfl (fun ls hl => ?_)
                refine x_iinc hx hb 7 ((t + 1 : Nat) : Int) (by omega) [(9, .int (iI ((t + 1 : Nat) : Int))), (8, .int (iI ((cv + 0 : Nat) : Int))), (0, .ref (r 0)), (1, .int (iI ((p0 : Nat) : Int))), (2, .int (iI ((n0 : Nat) : Int))), (3, .int (iI wh)), (4, .long (lI 1)), (6, .long (lI 1))] dX5_odds_82 hl rfl (by decide) rfl (fun ls hl => ?_)
                refine lv_goto (tgt := 50) hx hb dX5_odds_85 (by decide) ?_
                exact ih (t + 1) (cv + 0) _ _ _ (by omega) (run_step hr (if_neg (by omega))) (by omega) hP hD hS (lv_sub hl [2, 3, 4, 5, 6, 7, 1, 0] rfl)
              · refine x_iconst hx hb dX5_odds_74 ?_
                refine lv_goto (tgt := 79) hx hb dX5_odds_75 (by decide) ?_
                refine x_iadd hx hb dX5_odds_79 ?_
                refine x_topi ((cv + 1 : Nat) : Int) (by omega) ?_
                refine lv_istore (lv' := [(8, .int (iI ((cv + 1 : Nat) : Int))), (0, .ref (r 0)), (1, .int (iI ((p0 : Nat) : Int))), (2, .int (iI ((n0 : Nat) : Int))), (3, .int (iI wh)), (4, .long (lI 1)), (6, .long (lI 1)), (9, .int (iI ((t : Nat) : Int)))]) hx hb dX5_odds_80 hl (by decide) rfl (fun ls hl => ?_)
                refine x_iinc hx hb 7 ((t + 1 : Nat) : Int) (by omega) [(9, .int (iI ((t + 1 : Nat) : Int))), (8, .int (iI ((cv + 1 : Nat) : Int))), (0, .ref (r 0)), (1, .int (iI ((p0 : Nat) : Int))), (2, .int (iI ((n0 : Nat) : Int))), (3, .int (iI wh)), (4, .long (lI 1)), (6, .long (lI 1))] dX5_odds_82 hl rfl (by decide) rfl (fun ls hl => ?_)
                refine lv_goto (tgt := 50) hx hb dX5_odds_85 (by decide) ?_
                exact ih (t + 1) (cv + 1) _ _ _ (by omega) (run_step hr (if_pos (by omega))) (by omega) hP hD hS (lv_sub hl [2, 3, 4, 5, 6, 7, 1, 0] rfl)
        exact L50 6 0 0 _ _ _ (by omega) rfl (Nat.le_refl 0) hP hD hS (lv_sub hl [4, 5, 6, 7, 3, 2, 1, 0] rfl)
      · refine lv_aload_n hx hb dX5_odds_30 rfl (lv_at hl 0 rfl) ?_
        refine x_ldc hx hb (-1000001) rfl hown (hts (.constant RX5 37 (-1000001)) (by decide +kernel)) dX5_odds_31 ?_
        refine x_callV (As := [.int (iI (-1000001))]) (rest := []) ⟨hx, hb, hml, hown, hts⟩ (kX5_finds r ik tn j F (-1000001) 0 (by omega) (by omega)) (cwV 1 hts gX5_odds_X5_finds rfl rfl rfl ykVX5_finds ⟨Nat.le_of_ble_eq_true rfl, Nat.le_of_ble_eq_true rfl⟩) hP hK hD hS 0 4 rfl rfl rfl [0, 5] rfl (by decide) (fun _ => rfl) (fun _ => wRo r ik tn j ++ (wA cI (r 1) 100 T ++ (wA cI (r 2) 100 K ++ (wA cI (r 3) 100 X ++ (wA cI (r 4) 100 Y ++ (wA cI (r 5) 8 (fR (bmp 0 F)) ++ (wA cI (r 6) 120 TB ++ (wA cI (r 7) 4 (bR SB) ++ (wA cI (r 8) 4 SS ++ (wA cI (r 9) 160 SN)))))))))) (fun _ => rfl) rfl hl.1 rfl (Nat.le_of_ble_eq_true rfl) dX5_odds_33 ⟨Nat.le_of_ble_eq_true rfl, Nat.le_of_ble_eq_true rfl⟩ (fun _ H locs _ hP hD hS => ?_)
        refine W.eq (g2 := F0 m 36 ls [.int (iI (-1000001))]) rfl ?_
        refine x_i2l hx hb (by omega) dX5_odds_36 ?_
        exact kend (((-1000001), T, K, ik, SB, SS, SN, tn, TB, (bmp 0 F)), X, Y, j) hP hS rfl (if_neg (by omega)).symm dX5_odds_37
