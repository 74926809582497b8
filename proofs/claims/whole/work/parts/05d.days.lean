theorem ykSX2_passDay : yX2_passDay.cls ≠ "java/lang/invoke/MethodHandle" ∧ yX2_passDay.cls ≠ "java/lang/invoke/VarHandle" ∧ (parseMethodDescriptor yX2_passDay.desc).map (fun d => d.parameters.length) = some 1 := by decide +kernel
theorem ykVX2_passDay : yX2_passDay.cls = RX2 ∧ yX2_passDay.cls ≠ "java/lang/invoke/MethodHandle" ∧ yX2_passDay.cls ≠ "java/lang/invoke/VarHandle" ∧ (parseMethodDescriptor yX2_passDay.desc).map (fun d => d.parameters.length) = some 1 := ⟨rfl, ykSX2_passDay⟩
set_option maxRecDepth 20000 in
theorem iT_X2_passDay_X2 : ∀ w ∈ u_ws RX2 TX2 12, w ∈ wsX2_passDay := by decide +kernel
set_option maxHeartbeats 4000000 in
set_option maxRecDepth 100000 in
theorem kX2_passDay {l : Launch} {D : va_G} {cI cB : ClassId} (q : Nat → Nat) (T : Tb) (b : Int) (md : Int) (B : Int) (hI : Inv B T) (hB : B ≤ 99998) (hm : rI md) : Ct l yX2_passDay wsX2_passDay 4 92 D [(cI, .int), (cB, .byte)] [.ref (q 0), .int (iI md)] (wTab cI q T b) (S := Tb × Int) (fun u => none) (fun u => u.1 = dyF md T) (fun u => wTab cI q u.1 u.2) := by
  refine CtV.of (cc := cX2_passDay) (maxL := 3) (by decide +kernel) rfl (Nat.le_of_ble_eq_true rfl) ?_
  intro pg e s m args below meth c Q A hx hb hml hts hown hP hK hD hS ls hl kend
  have hown : s.vm.findClass RX2 = some m.cls := hown
  have hl : lv_has ls 3 [(0, .ref (q 0)), (1, .int (iI md))] := hl
  have hn := Inv_n hI
  refine x_iconst hx hb dX2_passDay_0 ?_
  refine lv_istore_n (lv' := [(2, .int (iI 0)), (0, .ref (q 0)), (1, .int (iI md))]) hx hb dX2_passDay_1 rfl hl (by decide) rfl (fun ls hl => ?_)
  have L2 : ∀ (k t : Nat) (Tt : Tb) (H : Heap) (locs : List Loc) (ls : Array Slot), t + k = (T 0).toNat → (run (dyA md) k t Tt = run (dyA md) (T 0).toNat 0 T) → (Inv B Tt) → (Tt 0 = T 0) → va_P D vwCl (wTab cI q Tt b) H → va_D A (wTab cI q Tt b) → va_S A s.heap H locs → lv_has ls 3 [(0, .ref (q 0)), (1, .int (iI md)), (2, .int (iI ((t : Nat) : Int)))] → W pg l e { frames := 4, cells := 0, slots := 0, locals := 92 } s m args below meth c H locs 0 0 Q (F0 m 2 ls []) := by
    intro k
    induction k with
    | zero =>
      intro t Tt H locs ls hkt hr hi h0 hP hD hS hl
      refine lv_iload_n hx hb dX2_passDay_2 rfl (lv_at hl 2 rfl) ?_
      refine lv_aload_n hx hb dX2_passDay_3 rfl (lv_at hl 0 rfl) ?_
      refine va_get (D := D) (ci := 1) (v := .int (iI (Tt 0))) (C := RX2) (T := TX2) (N := 12) hx hb hts (iT_X2_passDay_X2) hown hK hP 0 rfl rfl 3 (by decide) (hts (.fieldLink RX2 43 "WordSupper$Table" "seats" "I") (by decide +kernel)) (fun _ h9 => h9) rfl dX2_passDay_4 ?_
      refine x_icmp_ge (tgt := 29) hx hb (by omega) (by omega) dX2_passDay_7 (by decide) (fun c_7 => ?_) (fun c_7 => ?_)
      · refine x_iconst hx hb dX2_passDay_29 ?_
        refine lv_istore_n (lv' := [(2, .int (iI 0)), (0, .ref (q 0)), (1, .int (iI md))]) hx hb dX2_passDay_30 rfl hl (by decide) rfl (fun ls hl => ?_)
        have L31 : ∀ (k t : Nat) (Tu : Tb) (bu : Int) (H : Heap) (locs : List Loc) (ls : Array Slot), t + k = (T 0).toNat → (run spF k t Tu = run spF (T 0).toNat 0 (run (dyA md) (T 0).toNat 0 T)) → (Inv B Tu) → (Tu 0 = T 0) → va_P D vwCl (wTab cI q Tu bu) H → va_D A (wTab cI q Tu bu) → va_S A s.heap H locs → lv_has ls 3 [(0, .ref (q 0)), (1, .int (iI md)), (2, .int (iI ((t : Nat) : Int)))] → W pg l e { frames := 4, cells := 0, slots := 0, locals := 92 } s m args below meth c H locs 0 0 Q (F0 m 31 ls []) := by
          intro k
          induction k with
          | zero =>
            intro t Tu bu H locs ls hkt hs hj h2 hP hD hS hl
            refine lv_iload_n hx hb dX2_passDay_31 rfl (lv_at hl 2 rfl) ?_
            refine lv_aload_n hx hb dX2_passDay_32 rfl (lv_at hl 0 rfl) ?_
            refine va_get (D := D) (ci := 1) (v := .int (iI (Tu 0))) (C := RX2) (T := TX2) (N := 12) hx hb hts (iT_X2_passDay_X2) hown hK hP 0 rfl rfl 3 (by decide) (hts (.fieldLink RX2 43 "WordSupper$Table" "seats" "I") (by decide +kernel)) (fun _ h9 => h9) rfl dX2_passDay_33 ?_
            refine x_icmp_ge (tgt := 50) hx hb (by omega) (by omega) dX2_passDay_36 (by decide) (fun c_36 => ?_) (fun c_36 => ?_)
            · have hd := Inv_d hj
              refine lv_aload_n hx hb dX2_passDay_50 rfl (lv_at hl 0 rfl) ?_
              refine x_ldc hx hb 99999 rfl hown (hts (.constant RX2 87 (99999)) (by decide +kernel)) dX2_passDay_51 ?_
              refine lv_aload_n hx hb dX2_passDay_53 rfl (lv_at hl 0 rfl) ?_
              refine va_get (D := D) (ci := 1) (v := .int (iI (Tu 1))) (C := RX2) (T := TX2) (N := 12) hx hb hts (iT_X2_passDay_X2) hown hK hP 0 rfl rfl 0 (by decide) (hts (.fieldLink RX2 40 "WordSupper$Table" "day" "I") (by decide +kernel)) (fun _ h9 => h9) rfl dX2_passDay_54 ?_
              refine x_iconst hx hb dX2_passDay_57 ?_
              refine x_iadd hx hb dX2_passDay_58 ?_
              refine x_mmin hx hb (hml.trans hl.1.symm) hown (hts (.methodLink RX2 88 Lib.Math.min.name) (by decide +kernel)) (hts (.static Lib.Math.min.name) (by decide +kernel)) (hts (.initialized "java/lang/Math") (by decide +kernel)) (hts (.code Lib.Math.min.name Lib.Math.min.code 2 (some .int)) (by decide +kernel)) (Nat.le_of_ble_eq_true rfl) (Nat.le_of_ble_eq_true rfl) (Nat.le_of_ble_eq_true rfl) (Nat.le_of_ble_eq_true rfl) (by decide) (by omega) dX2_passDay_59 ?_
              refine x_topi (Tu 1 + 1) (by omega) ?_
              refine x_putI (D := D) (ty := .int) (C := RX2) (T := TX2) (N := 12) hx hb 1 hts (iT_X2_passDay_X2) tyX2 tyX2_ok nmX2 hown hK hP hD hS 0 rfl rfl 0 (by decide) (hts (.fieldLink RX2 40 "WordSupper$Table" "day" "I") (by decide +kernel)) (fun _ h9 => h9) rfl (by decide +kernel) rfl rfl (Nat.le_of_ble_eq_true rfl) (wTab cI q (va_up Tu 1 (Tu 1 + 1)) bu) (wT_day cI q Tu bu (Tu 1 + 1)) dX2_passDay_62 (fun H locs hP hD hS => ?_)
              exact kend (va_up Tu 1 (Tu 1 + 1), bu) hP hS rfl (by unfold dyF; dsimp only; rw [← hs]; rfl) dX2_passDay_65
            · exfalso; omega
          | succ k ih =>
            intro t Tu bu H locs ls hkt hs hj h2 hP hD hS hl
            refine lv_iload_n hx hb dX2_passDay_31 rfl (lv_at hl 2 rfl) ?_
            refine lv_aload_n hx hb dX2_passDay_32 rfl (lv_at hl 0 rfl) ?_
            refine va_get (D := D) (ci := 1) (v := .int (iI (Tu 0))) (C := RX2) (T := TX2) (N := 12) hx hb hts (iT_X2_passDay_X2) hown hK hP 0 rfl rfl 3 (by decide) (hts (.fieldLink RX2 43 "WordSupper$Table" "seats" "I") (by decide +kernel)) (fun _ h9 => h9) rfl dX2_passDay_33 ?_
            refine x_icmp_ge (tgt := 50) hx hb (by omega) (by omega) dX2_passDay_36 (by decide) (fun c_36 => ?_) (fun c_36 => ?_)
            · exfalso; omega
            · refine lv_aload_n hx hb dX2_passDay_39 rfl (lv_at hl 0 rfl) ?_
              refine lv_iload_n hx hb dX2_passDay_40 rfl (lv_at hl 2 rfl) ?_
              refine x_callV (As := [.int (iI ((t : Nat) : Int))]) (rest := []) ⟨hx, hb, hml, hown, hts⟩ (kX2_sup q Tu bu t B hj (by omega)) (cwV 1 hts gX2_passDay_X2_sup rfl rfl rfl ykVX2_sup ⟨Nat.le_of_ble_eq_true rfl, Nat.le_of_ble_eq_true rfl⟩) hP hK hD hS 0 1 rfl rfl rfl [0, 1, 2, 3, 4, 5, 6, 7] rfl (by decide) (fun _ => rfl) (fun u => wTab cI q u.1 u.2) (fun _ => rfl) rfl hl.1 rfl (Nat.le_of_ble_eq_true rfl) dX2_passDay_41 ⟨Nat.le_of_ble_eq_true rfl, Nat.le_of_ble_eq_true rfl⟩ (fun u3 H locs hp4 hP hD hS => ?_)
              obtain ⟨T11, b12⟩ := u3
              replace hp4 : T11 = spF t Tu := hp4
              have hP : va_P D vwCl (wTab cI q T11 b12) H := hP
              have hD : va_D A (wTab cI q T11 b12) := hD
              refine W.eq (g2 := F0 m 44 ls []) rfl ?_
              refine x_iinc hx hb 2 ((t + 1 : Nat) : Int) (by omega) [(2, .int (iI ((t + 1 : Nat) : Int))), (0, .ref (q 0)), (1, .int (iI md))] dX2_passDay_44 hl rfl (by decide) rfl (fun ls hl => ?_)
              refine lv_goto (tgt := 31) hx hb dX2_passDay_47 (by decide) ?_
              exact ih (t + 1) T11 b12 _ _ _ (by omega) (run_step hs hp4.symm) (by rw [hp4]; exact (spF_I hj (by omega)).1) (by rw [hp4, (spF_I hj (by omega)).2 0 (by omega)]; exact h2) hP hD hS (lv_sub hl [1, 2, 0] rfl)
        exact L31 ((T 0).toNat) 0 Tt b _ _ _ (by omega) (by rw [← hr]; rfl) hi h0 hP hD hS (lv_sub hl [1, 2, 0] rfl)
      · exfalso; omega
    | succ k ih =>
      intro t Tt H locs ls hkt hr hi h0 hP hD hS hl
      refine lv_iload_n hx hb dX2_passDay_2 rfl (lv_at hl 2 rfl) ?_
      refine lv_aload_n hx hb dX2_passDay_3 rfl (lv_at hl 0 rfl) ?_
      refine va_get (D := D) (ci := 1) (v := .int (iI (Tt 0))) (C := RX2) (T := TX2) (N := 12) hx hb hts (iT_X2_passDay_X2) hown hK hP 0 rfl rfl 3 (by decide) (hts (.fieldLink RX2 43 "WordSupper$Table" "seats" "I") (by decide +kernel)) (fun _ h9 => h9) rfl dX2_passDay_4 ?_
      refine x_icmp_ge (tgt := 29) hx hb (by omega) (by omega) dX2_passDay_7 (by decide) (fun c_7 => ?_) (fun c_7 => ?_)
      · exfalso; omega
      · refine lv_iload_n hx hb dX2_passDay_10 rfl (lv_at hl 1 rfl) ?_
        refine lv_iload_n hx hb dX2_passDay_11 rfl (lv_at hl 2 rfl) ?_
        refine x_ishr hx hb dX2_passDay_12 ?_
        refine x_iconst hx hb dX2_passDay_13 ?_
        refine x_iand hx hb dX2_passDay_14 ?_
        refine x_if_ne (tgt := 23) hx hb (andI_r _ _) dX2_passDay_15 (by decide) (fun c_15 => ?_) (fun c_15 => ?_)
        · refine x_iinc hx hb 2 ((t + 1 : Nat) : Int) (by omega) [(2, .int (iI ((t + 1 : Nat) : Int))), (0, .ref (q 0)), (1, .int (iI md))] dX2_passDay_23 hl rfl (by decide) rfl (fun ls hl => ?_)
          refine lv_goto (tgt := 2) hx hb dX2_passDay_26 (by decide) ?_
          exact ih (t + 1) Tt _ _ _ (by omega) (run_step hr (show dyA md t Tt = Tt by unfold dyA; rw [if_neg c_15])) hi h0 hP hD hS (lv_sub hl [1, 2, 0] rfl)
        · refine lv_aload_n hx hb dX2_passDay_18 rfl (lv_at hl 0 rfl) ?_
          refine lv_iload_n hx hb dX2_passDay_19 rfl (lv_at hl 2 rfl) ?_
          refine x_callV (As := [.int (iI ((t : Nat) : Int))]) (rest := []) ⟨hx, hb, hml, hown, hts⟩ (kX2_sayAll q Tt b t B hi (by omega) (by omega)) (cwV 1 hts gX2_passDay_X2_sayAll rfl rfl rfl ykVX2_sayAll ⟨Nat.le_of_ble_eq_true rfl, Nat.le_of_ble_eq_true rfl⟩) hP hK hD hS 0 1 rfl rfl rfl [0, 1, 2, 3, 4, 5, 6, 7] rfl (by decide) (fun _ => rfl) (fun u => wTab cI q u b) (fun _ => rfl) rfl hl.1 rfl (Nat.le_of_ble_eq_true rfl) dX2_passDay_20 ⟨Nat.le_of_ble_eq_true rfl, Nat.le_of_ble_eq_true rfl⟩ (fun u6 H locs hp7 hP hD hS => ?_)
          obtain ⟨T15, rfl⟩ : ∃ z, z = u6 := ⟨_, rfl⟩
          replace hp7 : T15 = syF (decide (Tt 1 % 8 = ((t : Nat) : Int))) t Tt := hp7
          have hP : va_P D vwCl (wTab cI q T15 b) H := hP
          have hD : va_D A (wTab cI q T15 b) := hD
          refine W.eq (g2 := F0 m 23 ls []) rfl ?_
          refine x_iinc hx hb 2 ((t + 1 : Nat) : Int) (by omega) [(2, .int (iI ((t + 1 : Nat) : Int))), (0, .ref (q 0)), (1, .int (iI md))] dX2_passDay_23 hl rfl (by decide) rfl (fun ls hl => ?_)
          refine lv_goto (tgt := 2) hx hb dX2_passDay_26 (by decide) ?_
          exact ih (t + 1) T15 _ _ _ (by omega) (run_step hr (by unfold dyA; rw [if_pos c_15, hp7])) (by rw [hp7]; exact (syF_inv hi (by omega)).1) (by rw [hp7, (syF_inv hi (by omega)).2.1]; exact h0) hP hD hS (lv_sub hl [1, 2, 0] rfl)
  exact L2 ((T 0).toNat) 0 T _ _ _ (by omega) rfl hI rfl hP hD hS (lv_sub hl [1, 2, 0] rfl)
theorem ykSX2_passDays : yX2_passDays.cls ≠ "java/lang/invoke/MethodHandle" ∧ yX2_passDays.cls ≠ "java/lang/invoke/VarHandle" ∧ (parseMethodDescriptor yX2_passDays.desc).map (fun d => d.parameters.length) = some 2 := by decide +kernel
theorem ykVX2_passDays : yX2_passDays.cls = RX2 ∧ yX2_passDays.cls ≠ "java/lang/invoke/MethodHandle" ∧ yX2_passDays.cls ≠ "java/lang/invoke/VarHandle" ∧ (parseMethodDescriptor yX2_passDays.desc).map (fun d => d.parameters.length) = some 2 := ⟨rfl, ykSX2_passDays⟩
set_option maxHeartbeats 4000000 in
set_option maxRecDepth 100000 in
theorem kX2_passDays {l : Launch} {D : va_G} {cI cB : ClassId} (q : Nat → Nat) (T : Tb) (b : Int) (n : Nat) (md : Int) (B : Int) (hI : Inv B T) (hnn : n ≤ 1000) (hB : B + n ≤ 99999) (hm : rI md) : Ct l yX2_passDays wsX2_passDays 5 114 D [(cI, .int), (cB, .byte)] [.ref (q 0), .int (iI ((n : Nat) : Int)), .int (iI md)] (wTab cI q T b) (S := Tb × Int) (fun u => none) (fun u => u.1 = dsF md n T) (fun u => wTab cI q u.1 u.2) := by
  refine CtV.of (cc := cX2_passDays) (maxL := 4) (by decide +kernel) rfl (Nat.le_of_ble_eq_true rfl) ?_
  intro pg e s m args below meth c Q A hx hb hml hts hown hP hK hD hS ls hl kend
  have hown : s.vm.findClass RX2 = some m.cls := hown
  have hl : lv_has ls 4 [(0, .ref (q 0)), (1, .int (iI ((n : Nat) : Int))), (2, .int (iI md))] := hl
  refine x_iconst hx hb dX2_passDays_0 ?_
  refine lv_istore_n (lv' := [(3, .int (iI 0)), (0, .ref (q 0)), (1, .int (iI ((n : Nat) : Int))), (2, .int (iI md))]) hx hb dX2_passDays_1 rfl hl (by decide) rfl (fun ls hl => ?_)
  have L2 : ∀ (k t : Nat) (Tt : Tb) (bt : Int) (H : Heap) (locs : List Loc) (ls : Array Slot), t + k = n → (run (fun _ => dyF md) k t Tt = dsF md n T) → (Inv (B + (t : Int)) Tt) → va_P D vwCl (wTab cI q Tt bt) H → va_D A (wTab cI q Tt bt) → va_S A s.heap H locs → lv_has ls 4 [(0, .ref (q 0)), (1, .int (iI ((n : Nat) : Int))), (2, .int (iI md)), (3, .int (iI ((t : Nat) : Int)))] → W pg l e { frames := 5, cells := 0, slots := 0, locals := 114 } s m args below meth c H locs 0 0 Q (F0 m 2 ls []) := by
    intro k
    induction k with
    | zero =>
      intro t Tt bt H locs ls hkt hr hi hP hD hS hl
      refine lv_iload_n hx hb dX2_passDays_2 rfl (lv_at hl 3 rfl) ?_
      refine lv_iload_n hx hb dX2_passDays_3 rfl (lv_at hl 1 rfl) ?_
      refine x_icmp_ge (tgt := 18) hx hb (by omega) (by omega) dX2_passDays_4 (by decide) (fun c_4 => ?_) (fun c_4 => ?_)
      · exact kend (Tt, bt) hP hS rfl hr dX2_passDays_18
      · exfalso; omega
    | succ k ih =>
      intro t Tt bt H locs ls hkt hr hi hP hD hS hl
      refine lv_iload_n hx hb dX2_passDays_2 rfl (lv_at hl 3 rfl) ?_
      refine lv_iload_n hx hb dX2_passDays_3 rfl (lv_at hl 1 rfl) ?_
      refine x_icmp_ge (tgt := 18) hx hb (by omega) (by omega) dX2_passDays_4 (by decide) (fun c_4 => ?_) (fun c_4 => ?_)
      · exfalso; omega
      · refine lv_aload_n hx hb dX2_passDays_7 rfl (lv_at hl 0 rfl) ?_
        refine lv_iload_n hx hb dX2_passDays_8 rfl (lv_at hl 2 rfl) ?_
        refine x_callV (As := [.int (iI md)]) (rest := []) ⟨hx, hb, hml, hown, hts⟩ (kX2_passDay q Tt bt md (B + (t : Int)) hi (by omega) (by omega)) (cwV 1 hts gX2_passDays_X2_passDay rfl rfl rfl ykVX2_passDay ⟨Nat.le_of_ble_eq_true rfl, Nat.le_of_ble_eq_true rfl⟩) hP hK hD hS 0 1 rfl rfl rfl [0, 1, 2, 3, 4, 5, 6, 7] rfl (by decide) (fun _ => rfl) (fun u => wTab cI q u.1 u.2) (fun _ => rfl) rfl hl.1 rfl (Nat.le_of_ble_eq_true rfl) dX2_passDays_9 ⟨Nat.le_of_ble_eq_true rfl, Nat.le_of_ble_eq_true rfl⟩ (fun u3 H locs hp4 hP hD hS => ?_)
        obtain ⟨T11, b12⟩ := u3
        replace hp4 : T11 = dyF md Tt := hp4
        have hP : va_P D vwCl (wTab cI q T11 b12) H := hP
        have hD : va_D A (wTab cI q T11 b12) := hD
        refine W.eq (g2 := F0 m 12 ls []) rfl ?_
        refine x_iinc hx hb 3 ((t + 1 : Nat) : Int) (by omega) [(3, .int (iI ((t + 1 : Nat) : Int))), (0, .ref (q 0)), (1, .int (iI ((n : Nat) : Int))), (2, .int (iI md))] dX2_passDays_12 hl rfl (by decide) rfl (fun ls hl => ?_)
        refine lv_goto (tgt := 2) hx hb dX2_passDays_15 (by decide) ?_
        exact ih (t + 1) T11 b12 _ _ _ (by omega) (run_step hr hp4.symm) (by rw [hp4, show B + ((t + 1 : Nat) : Int) = B + (t : Int) + 1 by omega]; exact (dyF_I hi).1) hP hD hS (lv_sub hl [1, 2, 3, 0] rfl)
  exact L2 n 0 T b _ _ _ (by omega) rfl (by simpa using hI) hP hD hS (lv_sub hl [1, 2, 3, 0] rfl)
theorem ykSX2_swapPlates : yX2_swapPlates.cls ≠ "java/lang/invoke/MethodHandle" ∧ yX2_swapPlates.cls ≠ "java/lang/invoke/VarHandle" ∧ (parseMethodDescriptor yX2_swapPlates.desc).map (fun d => d.parameters.length) = some 2 := by decide +kernel
theorem ykVX2_swapPlates : yX2_swapPlates.cls = RX2 ∧ yX2_swapPlates.cls ≠ "java/lang/invoke/MethodHandle" ∧ yX2_swapPlates.cls ≠ "java/lang/invoke/VarHandle" ∧ (parseMethodDescriptor yX2_swapPlates.desc).map (fun d => d.parameters.length) = some 2 := ⟨rfl, ykSX2_swapPlates⟩
set_option maxRecDepth 20000 in
theorem iT_X2_swapPlates_X2 : ∀ w ∈ u_ws RX2 TX2 12, w ∈ wsX2_swapPlates := by decide +kernel
set_option maxHeartbeats 4000000 in
set_option maxRecDepth 100000 in
theorem kX2_swapPlates {l : Launch} {D : va_G} {cI cB : ClassId} (q : Nat → Nat) (T : Tb) (b : Int) (a0 : Nat) (c0 : Nat) (ha : a0 < 8) (hc : c0 < 8) : Ct l yX2_swapPlates wsX2_swapPlates 1 21 D [(cI, .int), (cB, .byte)] [.ref (q 0), .int (iI ((a0 : Nat) : Int)), .int (iI ((c0 : Nat) : Int))] (wTab cI q T b) (S := Tb) (fun u => none) (fun u => u = exF a0 c0 T) (fun u => wTab cI q u b) := by
  refine CtV.of (cc := cX2_swapPlates) (maxL := 5) (by decide +kernel) rfl (Nat.le_of_ble_eq_true rfl) ?_
  intro pg e s m args below meth c Q A hx hb hml hts hown hP hK hD hS ls hl kend
  have hown : s.vm.findClass RX2 = some m.cls := hown
  have hl : lv_has ls 5 [(0, .ref (q 0)), (1, .int (iI ((a0 : Nat) : Int))), (2, .int (iI ((c0 : Nat) : Int)))] := hl
  refine x_iconst hx hb dX2_swapPlates_0 ?_
  refine lv_istore_n (lv' := [(3, .int (iI 0)), (0, .ref (q 0)), (1, .int (iI ((a0 : Nat) : Int))), (2, .int (iI ((c0 : Nat) : Int)))]) hx hb dX2_swapPlates_1 rfl hl (by decide) rfl (fun ls hl => ?_)
  have L2 : ∀ (k t : Nat) (Tt : Tb) (H : Heap) (locs : List Loc) (ls : Array Slot), t + k = 6 → (run (fun (t : Nat) (S : Tb) => va_up (va_up S (cx a0 (4 + t)) (S (cx c0 (4 + t)))) (cx c0 (4 + t)) (S (cx a0 (4 + t)))) k t Tt = exF a0 c0 T) → va_P D vwCl (wTab cI q Tt b) H → va_D A (wTab cI q Tt b) → va_S A s.heap H locs → lv_has ls 5 [(0, .ref (q 0)), (1, .int (iI ((a0 : Nat) : Int))), (2, .int (iI ((c0 : Nat) : Int))), (3, .int (iI ((t : Nat) : Int)))] → W pg l e { frames := 1, cells := 0, slots := 0, locals := 21 } s m args below meth c H locs 0 0 Q (F0 m 2 ls []) := by
    intro k
    induction k with
    | zero =>
      intro t Tt H locs ls hkt hr hP hD hS hl
      refine lv_iload_n hx hb dX2_swapPlates_2 rfl (lv_at hl 3 rfl) ?_
      refine x_bipush hx hb dX2_swapPlates_3 (by decide) ?_
      refine x_icmp_ge (tgt := 58) hx hb (by omega) (by decide) dX2_swapPlates_5 (by decide) (fun c_5 => ?_) (fun c_5 => ?_)
      · exact kend Tt hP hS rfl hr dX2_swapPlates_58
      · exfalso; omega
    | succ k ih =>
      intro t Tt H locs ls hkt hr hP hD hS hl
      refine lv_iload_n hx hb dX2_swapPlates_2 rfl (lv_at hl 3 rfl) ?_
      refine x_bipush hx hb dX2_swapPlates_3 (by decide) ?_
      refine x_icmp_ge (tgt := 58) hx hb (by omega) (by decide) dX2_swapPlates_5 (by decide) (fun c_5 => ?_) (fun c_5 => ?_)
      · exfalso; omega
      · refine lv_aload_n hx hb dX2_swapPlates_8 rfl (lv_at hl 0 rfl) ?_
        refine va_get (D := D) (ci := 1) (v := .ref (q 6)) (C := RX2) (T := TX2) (N := 12) hx hb hts (iT_X2_swapPlates_X2) hown hK hP 0 rfl rfl 10 (by decide) (hts (.fieldLink RX2 34 "WordSupper$Table" "plates" "[I") (by decide +kernel)) (fun _ h9 => h9) rfl dX2_swapPlates_9 ?_
        refine lv_iload_n hx hb dX2_swapPlates_12 rfl (lv_at hl 1 rfl) ?_
        refine lv_iload_n hx hb dX2_swapPlates_13 rfl (lv_at hl 3 rfl) ?_
        refine x_callS (As := [.int (iI ((a0 : Nat) : Int)), .int (iI ((t : Nat) : Int))]) (rest := [.ref (q 6)]) ⟨hx, hb, hml, hown, hts⟩ (kX2_at a0 t (by omega) (by omega)) (va_cwS 2 hts gX2_swapPlates_X2_at rfl rfl rfl ykSX2_at ⟨Nat.le_of_ble_eq_true rfl, Nat.le_of_ble_eq_true rfl⟩) hP hK hD hS [] rfl (by decide) (fun _ => rfl) (fun _ => wTab cI q Tt b) (fun _ => rfl) rfl hl.1 rfl (Nat.le_of_ble_eq_true rfl) dX2_swapPlates_14 ⟨Nat.le_of_ble_eq_true rfl, Nat.le_of_ble_eq_true rfl⟩ (fun _ H locs _ hP hD hS => ?_)
        refine W.eq (g2 := F0 m 17 ls [.int (iI ((6 * a0 + t : Nat) : Int)), .ref (q 6)]) rfl ?_
        refine x_iald hx hb hK hP 6 0 rfl rfl (6 * a0 + t) rfl (by omega) (by decide) (Tt (cx a0 (4 + t))) (plG_gd _ (by omega) (by omega)) dX2_swapPlates_17 ?_
        refine lv_istore (lv' := [(4, .int (iI (Tt (cx a0 (4 + t))))), (0, .ref (q 0)), (1, .int (iI ((a0 : Nat) : Int))), (2, .int (iI ((c0 : Nat) : Int))), (3, .int (iI ((t : Nat) : Int)))]) hx hb dX2_swapPlates_18 hl (by decide) rfl (fun ls hl => ?_)
        refine lv_aload_n hx hb dX2_swapPlates_20 rfl (lv_at hl 1 rfl) ?_
        refine va_get (D := D) (ci := 1) (v := .ref (q 6)) (C := RX2) (T := TX2) (N := 12) hx hb hts (iT_X2_swapPlates_X2) hown hK hP 0 rfl rfl 10 (by decide) (hts (.fieldLink RX2 34 "WordSupper$Table" "plates" "[I") (by decide +kernel)) (fun _ h9 => h9) rfl dX2_swapPlates_21 ?_
        refine lv_iload_n hx hb dX2_swapPlates_24 rfl (lv_at hl 2 rfl) ?_
        refine lv_iload_n hx hb dX2_swapPlates_25 rfl (lv_at hl 4 rfl) ?_
        refine x_callS (As := [.int (iI ((a0 : Nat) : Int)), .int (iI ((t : Nat) : Int))]) (rest := [.ref (q 6)]) ⟨hx, hb, hml, hown, hts⟩ (kX2_at a0 t (by omega) (by omega)) (va_cwS 2 hts gX2_swapPlates_X2_at rfl rfl rfl ykSX2_at ⟨Nat.le_of_ble_eq_true rfl, Nat.le_of_ble_eq_true rfl⟩) hP hK hD hS [] rfl (by decide) (fun _ => rfl) (fun _ => wTab cI q Tt b) (fun _ => rfl) rfl hl.1 rfl (Nat.le_of_ble_eq_true rfl) dX2_swapPlates_26 ⟨Nat.le_of_ble_eq_true rfl, Nat.le_of_ble_eq_true rfl⟩ (fun _ H locs _ hP hD hS => ?_)
        refine W.eq (g2 := F0 m 29 ls [.int (iI ((6 * a0 + t : Nat) : Int)), .ref (q 6)]) rfl ?_
        refine lv_aload_n hx hb dX2_swapPlates_29 rfl (lv_at hl 1 rfl) ?_
        refine va_get (D := D) (ci := 1) (v := .ref (q 6)) (C := RX2) (T := TX2) (N := 12) hx hb hts (iT_X2_swapPlates_X2) hown hK hP 0 rfl rfl 10 (by decide) (hts (.fieldLink RX2 34 "WordSupper$Table" "plates" "[I") (by decide +kernel)) (fun _ h9 => h9) rfl dX2_swapPlates_30 ?_
        refine lv_iload_n hx hb dX2_swapPlates_33 rfl (lv_at hl 3 rfl) ?_
        refine lv_iload_n hx hb dX2_swapPlates_34 rfl (lv_at hl 4 rfl) ?_
        refine x_callS (As := [.int (iI ((c0 : Nat) : Int)), .int (iI ((t : Nat) : Int))]) (rest := [.ref (q 6), .int (iI ((6 * a0 + t : Nat) : Int)), .ref (q 6)]) ⟨hx, hb, hml, hown, hts⟩ (kX2_at c0 t (by omega) (by omega)) (va_cwS 2 hts gX2_swapPlates_X2_at rfl rfl rfl ykSX2_at ⟨Nat.le_of_ble_eq_true rfl, Nat.le_of_ble_eq_true rfl⟩) hP hK hD hS [] rfl (by decide) (fun _ => rfl) (fun _ => wTab cI q Tt b) (fun _ => rfl) rfl hl.1 rfl (Nat.le_of_ble_eq_true rfl) dX2_swapPlates_35 ⟨Nat.le_of_ble_eq_true rfl, Nat.le_of_ble_eq_true rfl⟩ (fun _ H locs _ hP hD hS => ?_)
        refine W.eq (g2 := F0 m 38 ls [.int (iI ((6 * c0 + t : Nat) : Int)), .ref (q 6), .int (iI ((6 * a0 + t : Nat) : Int)), .ref (q 6)]) rfl ?_
        refine x_iald hx hb hK hP 6 0 rfl rfl (6 * c0 + t) rfl (by omega) (by decide) (Tt (cx c0 (4 + t))) (plG_gd _ (by omega) (by omega)) dX2_swapPlates_38 ?_
        refine x_iast hx hb hK hP hD hS 6 0 rfl rfl (6 * a0 + t) rfl (by omega) (by decide) (wTab cI q (va_up Tt (cx a0 (4 + t)) (Tt (cx c0 (4 + t)))) b) (wT_plates cI q Tt b (Tt (cx c0 (4 + t))) a0 t (by omega) (by omega)) dX2_swapPlates_39 (fun H locs hP hD hS => ?_)
        refine lv_aload_n hx hb dX2_swapPlates_40 rfl (lv_at hl 1 rfl) ?_
        refine va_get (D := D) (ci := 1) (v := .ref (q 6)) (C := RX2) (T := TX2) (N := 12) hx hb hts (iT_X2_swapPlates_X2) hown hK hP 0 rfl rfl 10 (by decide) (hts (.fieldLink RX2 34 "WordSupper$Table" "plates" "[I") (by decide +kernel)) (fun _ h9 => h9) rfl dX2_swapPlates_41 ?_
        refine lv_iload_n hx hb dX2_swapPlates_44 rfl (lv_at hl 3 rfl) ?_
        refine lv_iload_n hx hb dX2_swapPlates_45 rfl (lv_at hl 4 rfl) ?_
        refine x_callS (As := [.int (iI ((c0 : Nat) : Int)), .int (iI ((t : Nat) : Int))]) (rest := [.ref (q 6)]) ⟨hx, hb, hml, hown, hts⟩ (kX2_at c0 t (by omega) (by omega)) (va_cwS 2 hts gX2_swapPlates_X2_at rfl rfl rfl ykSX2_at ⟨Nat.le_of_ble_eq_true rfl, Nat.le_of_ble_eq_true rfl⟩) hP hK hD hS [] rfl (by decide) (fun _ => rfl) (fun _ => wTab cI q (va_up Tt (cx a0 (4 + t)) (Tt (cx c0 (4 + t)))) b) (fun _ => rfl) rfl hl.1 rfl (Nat.le_of_ble_eq_true rfl) dX2_swapPlates_46 ⟨Nat.le_of_ble_eq_true rfl, Nat.le_of_ble_eq_true rfl⟩ (fun _ H locs _ hP hD hS => ?_)
        refine W.eq (g2 := F0 m 49 ls [.int (iI ((6 * c0 + t : Nat) : Int)), .ref (q 6)]) rfl ?_
        refine lv_iload hx hb dX2_swapPlates_49 (lv_at hl 0 rfl) ?_
        refine x_iast hx hb hK hP hD hS 6 0 rfl rfl (6 * c0 + t) rfl (by omega) (by decide) (wTab cI q (va_up (va_up Tt (cx a0 (4 + t)) (Tt (cx c0 (4 + t)))) (cx c0 (4 + t)) (Tt (cx a0 (4 + t)))) b) (wT_plates cI q (va_up Tt (cx a0 (4 + t)) (Tt (cx c0 (4 + t)))) b (Tt (cx a0 (4 + t))) c0 t (by omega) (by omega)) dX2_swapPlates_51 (fun H locs hP hD hS => ?_)
        refine x_iinc hx hb 4 ((t + 1 : Nat) : Int) (by omega) [(3, .int (iI ((t + 1 : Nat) : Int))), (4, .int (iI (Tt (cx a0 (4 + t))))), (0, .ref (q 0)), (1, .int (iI ((a0 : Nat) : Int))), (2, .int (iI ((c0 : Nat) : Int)))] dX2_swapPlates_52 hl rfl (by decide) rfl (fun ls hl => ?_)
        refine lv_goto (tgt := 2) hx hb dX2_swapPlates_55 (by decide) ?_
        exact ih (t + 1) (va_up (va_up Tt (cx a0 (4 + t)) (Tt (cx c0 (4 + t)))) (cx c0 (4 + t)) (Tt (cx a0 (4 + t)))) _ _ _ (by omega) hr hP hD hS (lv_sub hl [2, 3, 4, 0] rfl)
  exact L2 6 0 T _ _ _ (by omega) rfl hP hD hS (lv_sub hl [1, 2, 3, 0] rfl)
theorem ykSX2_become : yX2_become.cls ≠ "java/lang/invoke/MethodHandle" ∧ yX2_become.cls ≠ "java/lang/invoke/VarHandle" ∧ (parseMethodDescriptor yX2_become.desc).map (fun d => d.parameters.length) = some 1 := by decide +kernel
theorem ykVX2_become : yX2_become.cls = RX2 ∧ yX2_become.cls ≠ "java/lang/invoke/MethodHandle" ∧ yX2_become.cls ≠ "java/lang/invoke/VarHandle" ∧ (parseMethodDescriptor yX2_become.desc).map (fun d => d.parameters.length) = some 1 := ⟨rfl, ykSX2_become⟩
set_option maxRecDepth 20000 in
theorem iT_X2_become_X2 : ∀ w ∈ u_ws RX2 TX2 12, w ∈ wsX2_become := by decide +kernel
set_option maxHeartbeats 4000000 in
set_option maxRecDepth 100000 in
theorem kX2_become {l : Launch} {D : va_G} {cI cB : ClassId} (q : Nat → Nat) (T : Tb) (b : Int) (o : Nat → Nat) (To : Tb) (bo : Int) : Ct l yX2_become wsX2_become 1 60 D [(cI, .int), (cB, .byte)] [.ref (q 0), .ref (o 0)] (wTab cI q T b ++ (wTab cI o To bo)) (S := Unit) (fun _ => none) (fun _ => True) (fun _ => wTab cI q To b ++ (wTab cI o To bo)) := by
  refine CtV.of (cc := cX2_become) (maxL := 2) (by decide +kernel) rfl (Nat.le_of_ble_eq_true rfl) ?_
  intro pg e s m args below meth c Q A hx hb hml hts hown hP hK hD hS ls hl kend
  have hown : s.vm.findClass RX2 = some m.cls := hown
  have hl : lv_has ls 2 [(0, .ref (q 0)), (1, .ref (o 0))] := hl
  have hP : va_P D vwCl (([((q 0), .inr (1, [.int (iI (T 1)), .int (iI (T 3)), .int (iI (T 2)), .int (iI (T 0)), .int (iI b), .ref (q 1), .ref (q 2), .ref (q 3), .ref (q 4), .ref (q 5), .ref (q 6), .ref (q 7)])), ((q 1), .inl (cI, 6, .inl (aI (gd 6 (fun i => T (4 + i)))))), ((q 2), .inl (cI, 8, .inl (aI (gd 8 (fun i => T (cx i 0)))))), ((q 3), .inl (cI, 8, .inl (aI (gd 8 (fun i => T (cx i 1)))))), ((q 4), .inl (cI, 8, .inl (aI (gd 8 (fun i => T (cx i 2)))))), ((q 5), .inl (cI, 8, .inl (aI (gd 8 (fun i => T (cx i 3)))))), ((q 6), .inl (cI, 48, .inl (aI (gd 48 (plG T))))), ((q 7), .inl (cI, 10, .inl (aI (gd 10 (fun i => T (90 + i)))))), ((o 0), .inr (1, [.int (iI (To 1)), .int (iI (To 3)), .int (iI (To 2)), .int (iI (To 0)), .int (iI bo), .ref (o 1), .ref (o 2), .ref (o 3), .ref (o 4), .ref (o 5), .ref (o 6), .ref (o 7)])), ((o 1), .inl (cI, 6, .inl (aI (gd 6 (fun i => To (4 + i)))))), ((o 2), .inl (cI, 8, .inl (aI (gd 8 (fun i => To (cx i 0)))))), ((o 3), .inl (cI, 8, .inl (aI (gd 8 (fun i => To (cx i 1)))))), ((o 4), .inl (cI, 8, .inl (aI (gd 8 (fun i => To (cx i 2)))))), ((o 5), .inl (cI, 8, .inl (aI (gd 8 (fun i => To (cx i 3)))))), ((o 6), .inl (cI, 48, .inl (aI (gd 48 (plG To))))), ((o 7), .inl (cI, 10, .inl (aI (gd 10 (fun i => To (90 + i))))))] : va_W)) s.heap := hP
  have hD : va_D A (([((q 0), .inr (1, [.int (iI (T 1)), .int (iI (T 3)), .int (iI (T 2)), .int (iI (T 0)), .int (iI b), .ref (q 1), .ref (q 2), .ref (q 3), .ref (q 4), .ref (q 5), .ref (q 6), .ref (q 7)])), ((q 1), .inl (cI, 6, .inl (aI (gd 6 (fun i => T (4 + i)))))), ((q 2), .inl (cI, 8, .inl (aI (gd 8 (fun i => T (cx i 0)))))), ((q 3), .inl (cI, 8, .inl (aI (gd 8 (fun i => T (cx i 1)))))), ((q 4), .inl (cI, 8, .inl (aI (gd 8 (fun i => T (cx i 2)))))), ((q 5), .inl (cI, 8, .inl (aI (gd 8 (fun i => T (cx i 3)))))), ((q 6), .inl (cI, 48, .inl (aI (gd 48 (plG T))))), ((q 7), .inl (cI, 10, .inl (aI (gd 10 (fun i => T (90 + i)))))), ((o 0), .inr (1, [.int (iI (To 1)), .int (iI (To 3)), .int (iI (To 2)), .int (iI (To 0)), .int (iI bo), .ref (o 1), .ref (o 2), .ref (o 3), .ref (o 4), .ref (o 5), .ref (o 6), .ref (o 7)])), ((o 1), .inl (cI, 6, .inl (aI (gd 6 (fun i => To (4 + i)))))), ((o 2), .inl (cI, 8, .inl (aI (gd 8 (fun i => To (cx i 0)))))), ((o 3), .inl (cI, 8, .inl (aI (gd 8 (fun i => To (cx i 1)))))), ((o 4), .inl (cI, 8, .inl (aI (gd 8 (fun i => To (cx i 2)))))), ((o 5), .inl (cI, 8, .inl (aI (gd 8 (fun i => To (cx i 3)))))), ((o 6), .inl (cI, 48, .inl (aI (gd 48 (plG To))))), ((o 7), .inl (cI, 10, .inl (aI (gd 10 (fun i => To (90 + i))))))] : va_W)) := hD
  refine lv_aload_n hx hb dX2_become_0 rfl (lv_at hl 0 rfl) ?_
  refine lv_aload_n hx hb dX2_become_1 rfl (lv_at hl 1 rfl) ?_
  refine va_get (D := D) (ci := 1) (v := .int (iI (To 1))) (C := RX2) (T := TX2) (N := 12) hx hb hts (iT_X2_become_X2) hown hK hP 8 rfl rfl 0 (by decide) (hts (.fieldLink RX2 40 "WordSupper$Table" "day" "I") (by decide +kernel)) (fun _ h9 => h9) rfl dX2_become_2 ?_
  refine x_putI (D := D) (ty := .int) (C := RX2) (T := TX2) (N := 12) hx hb 1 hts (iT_X2_become_X2) tyX2 tyX2_ok nmX2 hown hK hP hD hS 0 rfl rfl 0 (by decide) (hts (.fieldLink RX2 40 "WordSupper$Table" "day" "I") (by decide +kernel)) (fun _ h9 => h9) rfl (by decide +kernel) rfl rfl (Nat.le_of_ble_eq_true rfl) (([((q 0), .inr (1, [.int (iI (To 1)), .int (iI (T 3)), .int (iI (T 2)), .int (iI (T 0)), .int (iI b), .ref (q 1), .ref (q 2), .ref (q 3), .ref (q 4), .ref (q 5), .ref (q 6), .ref (q 7)])), ((q 1), .inl (cI, 6, .inl (aI (gd 6 (fun i => T (4 + i)))))), ((q 2), .inl (cI, 8, .inl (aI (gd 8 (fun i => T (cx i 0)))))), ((q 3), .inl (cI, 8, .inl (aI (gd 8 (fun i => T (cx i 1)))))), ((q 4), .inl (cI, 8, .inl (aI (gd 8 (fun i => T (cx i 2)))))), ((q 5), .inl (cI, 8, .inl (aI (gd 8 (fun i => T (cx i 3)))))), ((q 6), .inl (cI, 48, .inl (aI (gd 48 (plG T))))), ((q 7), .inl (cI, 10, .inl (aI (gd 10 (fun i => T (90 + i)))))), ((o 0), .inr (1, [.int (iI (To 1)), .int (iI (To 3)), .int (iI (To 2)), .int (iI (To 0)), .int (iI bo), .ref (o 1), .ref (o 2), .ref (o 3), .ref (o 4), .ref (o 5), .ref (o 6), .ref (o 7)])), ((o 1), .inl (cI, 6, .inl (aI (gd 6 (fun i => To (4 + i)))))), ((o 2), .inl (cI, 8, .inl (aI (gd 8 (fun i => To (cx i 0)))))), ((o 3), .inl (cI, 8, .inl (aI (gd 8 (fun i => To (cx i 1)))))), ((o 4), .inl (cI, 8, .inl (aI (gd 8 (fun i => To (cx i 2)))))), ((o 5), .inl (cI, 8, .inl (aI (gd 8 (fun i => To (cx i 3)))))), ((o 6), .inl (cI, 48, .inl (aI (gd 48 (plG To))))), ((o 7), .inl (cI, 10, .inl (aI (gd 10 (fun i => To (90 + i))))))] : va_W)) (rfl) dX2_become_5 (fun H locs hP hD hS => ?_)
  refine lv_aload_n hx hb dX2_become_8 rfl (lv_at hl 0 rfl) ?_
  refine lv_aload_n hx hb dX2_become_9 rfl (lv_at hl 1 rfl) ?_
  refine va_get (D := D) (ci := 1) (v := .int (iI (To 3))) (C := RX2) (T := TX2) (N := 12) hx hb hts (iT_X2_become_X2) hown hK hP 8 rfl rfl 1 (by decide) (hts (.fieldLink RX2 9 "WordSupper$Table" "vinegar" "I") (by decide +kernel)) (fun _ h9 => h9) rfl dX2_become_10 ?_
  refine x_putI (D := D) (ty := .int) (C := RX2) (T := TX2) (N := 12) hx hb 1 hts (iT_X2_become_X2) tyX2 tyX2_ok nmX2 hown hK hP hD hS 0 rfl rfl 1 (by decide) (hts (.fieldLink RX2 9 "WordSupper$Table" "vinegar" "I") (by decide +kernel)) (fun _ h9 => h9) rfl (by decide +kernel) rfl rfl (Nat.le_of_ble_eq_true rfl) (([((q 0), .inr (1, [.int (iI (To 1)), .int (iI (To 3)), .int (iI (T 2)), .int (iI (T 0)), .int (iI b), .ref (q 1), .ref (q 2), .ref (q 3), .ref (q 4), .ref (q 5), .ref (q 6), .ref (q 7)])), ((q 1), .inl (cI, 6, .inl (aI (gd 6 (fun i => T (4 + i)))))), ((q 2), .inl (cI, 8, .inl (aI (gd 8 (fun i => T (cx i 0)))))), ((q 3), .inl (cI, 8, .inl (aI (gd 8 (fun i => T (cx i 1)))))), ((q 4), .inl (cI, 8, .inl (aI (gd 8 (fun i => T (cx i 2)))))), ((q 5), .inl (cI, 8, .inl (aI (gd 8 (fun i => T (cx i 3)))))), ((q 6), .inl (cI, 48, .inl (aI (gd 48 (plG T))))), ((q 7), .inl (cI, 10, .inl (aI (gd 10 (fun i => T (90 + i)))))), ((o 0), .inr (1, [.int (iI (To 1)), .int (iI (To 3)), .int (iI (To 2)), .int (iI (To 0)), .int (iI bo), .ref (o 1), .ref (o 2), .ref (o 3), .ref (o 4), .ref (o 5), .ref (o 6), .ref (o 7)])), ((o 1), .inl (cI, 6, .inl (aI (gd 6 (fun i => To (4 + i)))))), ((o 2), .inl (cI, 8, .inl (aI (gd 8 (fun i => To (cx i 0)))))), ((o 3), .inl (cI, 8, .inl (aI (gd 8 (fun i => To (cx i 1)))))), ((o 4), .inl (cI, 8, .inl (aI (gd 8 (fun i => To (cx i 2)))))), ((o 5), .inl (cI, 8, .inl (aI (gd 8 (fun i => To (cx i 3)))))), ((o 6), .inl (cI, 48, .inl (aI (gd 48 (plG To))))), ((o 7), .inl (cI, 10, .inl (aI (gd 10 (fun i => To (90 + i))))))] : va_W)) (rfl) dX2_become_13 (fun H locs hP hD hS => ?_)
  refine lv_aload_n hx hb dX2_become_16 rfl (lv_at hl 0 rfl) ?_
  refine lv_aload_n hx hb dX2_become_17 rfl (lv_at hl 1 rfl) ?_
  refine va_get (D := D) (ci := 1) (v := .int (iI (To 2))) (C := RX2) (T := TX2) (N := 12) hx hb hts (iT_X2_become_X2) hown hK hP 8 rfl rfl 2 (by decide) (hts (.fieldLink RX2 15 "WordSupper$Table" "z" "I") (by decide +kernel)) (fun _ h9 => h9) rfl dX2_become_18 ?_
  refine x_putI (D := D) (ty := .int) (C := RX2) (T := TX2) (N := 12) hx hb 1 hts (iT_X2_become_X2) tyX2 tyX2_ok nmX2 hown hK hP hD hS 0 rfl rfl 2 (by decide) (hts (.fieldLink RX2 15 "WordSupper$Table" "z" "I") (by decide +kernel)) (fun _ h9 => h9) rfl (by decide +kernel) rfl rfl (Nat.le_of_ble_eq_true rfl) (([((q 0), .inr (1, [.int (iI (To 1)), .int (iI (To 3)), .int (iI (To 2)), .int (iI (T 0)), .int (iI b), .ref (q 1), .ref (q 2), .ref (q 3), .ref (q 4), .ref (q 5), .ref (q 6), .ref (q 7)])), ((q 1), .inl (cI, 6, .inl (aI (gd 6 (fun i => T (4 + i)))))), ((q 2), .inl (cI, 8, .inl (aI (gd 8 (fun i => T (cx i 0)))))), ((q 3), .inl (cI, 8, .inl (aI (gd 8 (fun i => T (cx i 1)))))), ((q 4), .inl (cI, 8, .inl (aI (gd 8 (fun i => T (cx i 2)))))), ((q 5), .inl (cI, 8, .inl (aI (gd 8 (fun i => T (cx i 3)))))), ((q 6), .inl (cI, 48, .inl (aI (gd 48 (plG T))))), ((q 7), .inl (cI, 10, .inl (aI (gd 10 (fun i => T (90 + i)))))), ((o 0), .inr (1, [.int (iI (To 1)), .int (iI (To 3)), .int (iI (To 2)), .int (iI (To 0)), .int (iI bo), .ref (o 1), .ref (o 2), .ref (o 3), .ref (o 4), .ref (o 5), .ref (o 6), .ref (o 7)])), ((o 1), .inl (cI, 6, .inl (aI (gd 6 (fun i => To (4 + i)))))), ((o 2), .inl (cI, 8, .inl (aI (gd 8 (fun i => To (cx i 0)))))), ((o 3), .inl (cI, 8, .inl (aI (gd 8 (fun i => To (cx i 1)))))), ((o 4), .inl (cI, 8, .inl (aI (gd 8 (fun i => To (cx i 2)))))), ((o 5), .inl (cI, 8, .inl (aI (gd 8 (fun i => To (cx i 3)))))), ((o 6), .inl (cI, 48, .inl (aI (gd 48 (plG To))))), ((o 7), .inl (cI, 10, .inl (aI (gd 10 (fun i => To (90 + i))))))] : va_W)) (rfl) dX2_become_21 (fun H locs hP hD hS => ?_)
  refine lv_aload_n hx hb dX2_become_24 rfl (lv_at hl 0 rfl) ?_
  refine lv_aload_n hx hb dX2_become_25 rfl (lv_at hl 1 rfl) ?_
  refine va_get (D := D) (ci := 1) (v := .int (iI (To 0))) (C := RX2) (T := TX2) (N := 12) hx hb hts (iT_X2_become_X2) hown hK hP 8 rfl rfl 3 (by decide) (hts (.fieldLink RX2 43 "WordSupper$Table" "seats" "I") (by decide +kernel)) (fun _ h9 => h9) rfl dX2_become_26 ?_
  refine x_putI (D := D) (ty := .int) (C := RX2) (T := TX2) (N := 12) hx hb 1 hts (iT_X2_become_X2) tyX2 tyX2_ok nmX2 hown hK hP hD hS 0 rfl rfl 3 (by decide) (hts (.fieldLink RX2 43 "WordSupper$Table" "seats" "I") (by decide +kernel)) (fun _ h9 => h9) rfl (by decide +kernel) rfl rfl (Nat.le_of_ble_eq_true rfl) (([((q 0), .inr (1, [.int (iI (To 1)), .int (iI (To 3)), .int (iI (To 2)), .int (iI (To 0)), .int (iI b), .ref (q 1), .ref (q 2), .ref (q 3), .ref (q 4), .ref (q 5), .ref (q 6), .ref (q 7)])), ((q 1), .inl (cI, 6, .inl (aI (gd 6 (fun i => T (4 + i)))))), ((q 2), .inl (cI, 8, .inl (aI (gd 8 (fun i => T (cx i 0)))))), ((q 3), .inl (cI, 8, .inl (aI (gd 8 (fun i => T (cx i 1)))))), ((q 4), .inl (cI, 8, .inl (aI (gd 8 (fun i => T (cx i 2)))))), ((q 5), .inl (cI, 8, .inl (aI (gd 8 (fun i => T (cx i 3)))))), ((q 6), .inl (cI, 48, .inl (aI (gd 48 (plG T))))), ((q 7), .inl (cI, 10, .inl (aI (gd 10 (fun i => T (90 + i)))))), ((o 0), .inr (1, [.int (iI (To 1)), .int (iI (To 3)), .int (iI (To 2)), .int (iI (To 0)), .int (iI bo), .ref (o 1), .ref (o 2), .ref (o 3), .ref (o 4), .ref (o 5), .ref (o 6), .ref (o 7)])), ((o 1), .inl (cI, 6, .inl (aI (gd 6 (fun i => To (4 + i)))))), ((o 2), .inl (cI, 8, .inl (aI (gd 8 (fun i => To (cx i 0)))))), ((o 3), .inl (cI, 8, .inl (aI (gd 8 (fun i => To (cx i 1)))))), ((o 4), .inl (cI, 8, .inl (aI (gd 8 (fun i => To (cx i 2)))))), ((o 5), .inl (cI, 8, .inl (aI (gd 8 (fun i => To (cx i 3)))))), ((o 6), .inl (cI, 48, .inl (aI (gd 48 (plG To))))), ((o 7), .inl (cI, 10, .inl (aI (gd 10 (fun i => To (90 + i))))))] : va_W)) (rfl) dX2_become_29 (fun H locs hP hD hS => ?_)
  refine lv_aload_n hx hb dX2_become_32 rfl (lv_at hl 1 rfl) ?_
  refine va_get (D := D) (ci := 1) (v := .ref (o 1)) (C := RX2) (T := TX2) (N := 12) hx hb hts (iT_X2_become_X2) hown hK hP 8 rfl rfl 5 (by decide) (hts (.fieldLink RX2 18 "WordSupper$Table" "listed" "[I") (by decide +kernel)) (fun _ h9 => h9) rfl dX2_become_33 ?_
  refine x_iconst hx hb dX2_become_36 ?_
  refine lv_aload_n hx hb dX2_become_37 rfl (lv_at hl 0 rfl) ?_
  refine va_get (D := D) (ci := 1) (v := .ref (q 1)) (C := RX2) (T := TX2) (N := 12) hx hb hts (iT_X2_become_X2) hown hK hP 0 rfl rfl 5 (by decide) (hts (.fieldLink RX2 18 "WordSupper$Table" "listed" "[I") (by decide +kernel)) (fun _ h9 => h9) rfl dX2_become_38 ?_
  refine x_iconst hx hb dX2_become_41 ?_
  refine x_bipush hx hb dX2_become_42 (by decide) ?_
  refine x_copy hx hb (hml.trans hl.1.symm) hown (hts (.methodLink RX2 46 arraycopyName) (by decide +kernel)) (hts (.native arraycopyName) (by decide +kernel)) (hts (.static arraycopyName) (by decide +kernel)) (hts (.initialized "java/lang/System") (by decide +kernel)) hK hP hD hS 9 1 0 rfl rfl rfl 0 0 6 rfl rfl rfl (by omega) (by omega) (by decide) (by decide) (Nat.le_of_ble_eq_true rfl) (by decide) (([((q 0), .inr (1, [.int (iI (To 1)), .int (iI (To 3)), .int (iI (To 2)), .int (iI (To 0)), .int (iI b), .ref (q 1), .ref (q 2), .ref (q 3), .ref (q 4), .ref (q 5), .ref (q 6), .ref (q 7)])), ((q 1), .inl (cI, 6, .inl (aI (gd 6 (fun i => To (4 + i)))))), ((q 2), .inl (cI, 8, .inl (aI (gd 8 (fun i => T (cx i 0)))))), ((q 3), .inl (cI, 8, .inl (aI (gd 8 (fun i => T (cx i 1)))))), ((q 4), .inl (cI, 8, .inl (aI (gd 8 (fun i => T (cx i 2)))))), ((q 5), .inl (cI, 8, .inl (aI (gd 8 (fun i => T (cx i 3)))))), ((q 6), .inl (cI, 48, .inl (aI (gd 48 (plG T))))), ((q 7), .inl (cI, 10, .inl (aI (gd 10 (fun i => T (90 + i)))))), ((o 0), .inr (1, [.int (iI (To 1)), .int (iI (To 3)), .int (iI (To 2)), .int (iI (To 0)), .int (iI bo), .ref (o 1), .ref (o 2), .ref (o 3), .ref (o 4), .ref (o 5), .ref (o 6), .ref (o 7)])), ((o 1), .inl (cI, 6, .inl (aI (gd 6 (fun i => To (4 + i)))))), ((o 2), .inl (cI, 8, .inl (aI (gd 8 (fun i => To (cx i 0)))))), ((o 3), .inl (cI, 8, .inl (aI (gd 8 (fun i => To (cx i 1)))))), ((o 4), .inl (cI, 8, .inl (aI (gd 8 (fun i => To (cx i 2)))))), ((o 5), .inl (cI, 8, .inl (aI (gd 8 (fun i => To (cx i 3)))))), ((o 6), .inl (cI, 48, .inl (aI (gd 48 (plG To))))), ((o 7), .inl (cI, 10, .inl (aI (gd 10 (fun i => To (90 + i))))))] : va_W)) (by rw [cpy_all]; rfl) dX2_become_44 (fun H locs hP hD hS => ?_)
  refine lv_aload_n hx hb dX2_become_47 rfl (lv_at hl 1 rfl) ?_
  refine va_get (D := D) (ci := 1) (v := .ref (o 2)) (C := RX2) (T := TX2) (N := 12) hx hb hts (iT_X2_become_X2) hown hK hP 8 rfl rfl 6 (by decide) (hts (.fieldLink RX2 22 "WordSupper$Table" "kind" "[I") (by decide +kernel)) (fun _ h9 => h9) rfl dX2_become_48 ?_
  refine x_iconst hx hb dX2_become_51 ?_
  refine lv_aload_n hx hb dX2_become_52 rfl (lv_at hl 0 rfl) ?_
  refine va_get (D := D) (ci := 1) (v := .ref (q 2)) (C := RX2) (T := TX2) (N := 12) hx hb hts (iT_X2_become_X2) hown hK hP 0 rfl rfl 6 (by decide) (hts (.fieldLink RX2 22 "WordSupper$Table" "kind" "[I") (by decide +kernel)) (fun _ h9 => h9) rfl dX2_become_53 ?_
  refine x_iconst hx hb dX2_become_56 ?_
  refine x_bipush hx hb dX2_become_57 (by decide) ?_
  refine x_copy hx hb (hml.trans hl.1.symm) hown (hts (.methodLink RX2 46 arraycopyName) (by decide +kernel)) (hts (.native arraycopyName) (by decide +kernel)) (hts (.static arraycopyName) (by decide +kernel)) (hts (.initialized "java/lang/System") (by decide +kernel)) hK hP hD hS 10 2 0 rfl rfl rfl 0 0 8 rfl rfl rfl (by omega) (by omega) (by decide) (by decide) (Nat.le_of_ble_eq_true rfl) (by decide) (([((q 0), .inr (1, [.int (iI (To 1)), .int (iI (To 3)), .int (iI (To 2)), .int (iI (To 0)), .int (iI b), .ref (q 1), .ref (q 2), .ref (q 3), .ref (q 4), .ref (q 5), .ref (q 6), .ref (q 7)])), ((q 1), .inl (cI, 6, .inl (aI (gd 6 (fun i => To (4 + i)))))), ((q 2), .inl (cI, 8, .inl (aI (gd 8 (fun i => To (cx i 0)))))), ((q 3), .inl (cI, 8, .inl (aI (gd 8 (fun i => T (cx i 1)))))), ((q 4), .inl (cI, 8, .inl (aI (gd 8 (fun i => T (cx i 2)))))), ((q 5), .inl (cI, 8, .inl (aI (gd 8 (fun i => T (cx i 3)))))), ((q 6), .inl (cI, 48, .inl (aI (gd 48 (plG T))))), ((q 7), .inl (cI, 10, .inl (aI (gd 10 (fun i => T (90 + i)))))), ((o 0), .inr (1, [.int (iI (To 1)), .int (iI (To 3)), .int (iI (To 2)), .int (iI (To 0)), .int (iI bo), .ref (o 1), .ref (o 2), .ref (o 3), .ref (o 4), .ref (o 5), .ref (o 6), .ref (o 7)])), ((o 1), .inl (cI, 6, .inl (aI (gd 6 (fun i => To (4 + i)))))), ((o 2), .inl (cI, 8, .inl (aI (gd 8 (fun i => To (cx i 0)))))), ((o 3), .inl (cI, 8, .inl (aI (gd 8 (fun i => To (cx i 1)))))), ((o 4), .inl (cI, 8, .inl (aI (gd 8 (fun i => To (cx i 2)))))), ((o 5), .inl (cI, 8, .inl (aI (gd 8 (fun i => To (cx i 3)))))), ((o 6), .inl (cI, 48, .inl (aI (gd 48 (plG To))))), ((o 7), .inl (cI, 10, .inl (aI (gd 10 (fun i => To (90 + i))))))] : va_W)) (by rw [cpy_all]; rfl) dX2_become_59 (fun H locs hP hD hS => ?_)
  refine lv_aload_n hx hb dX2_become_62 rfl (lv_at hl 1 rfl) ?_
  refine va_get (D := D) (ci := 1) (v := .ref (o 3)) (C := RX2) (T := TX2) (N := 12) hx hb hts (iT_X2_become_X2) hown hK hP 8 rfl rfl 7 (by decide) (hts (.fieldLink RX2 25 "WordSupper$Table" "loves" "[I") (by decide +kernel)) (fun _ h9 => h9) rfl dX2_become_63 ?_
  refine x_iconst hx hb dX2_become_66 ?_
  refine lv_aload_n hx hb dX2_become_67 rfl (lv_at hl 0 rfl) ?_
  refine va_get (D := D) (ci := 1) (v := .ref (q 3)) (C := RX2) (T := TX2) (N := 12) hx hb hts (iT_X2_become_X2) hown hK hP 0 rfl rfl 7 (by decide) (hts (.fieldLink RX2 25 "WordSupper$Table" "loves" "[I") (by decide +kernel)) (fun _ h9 => h9) rfl dX2_become_68 ?_
  refine x_iconst hx hb dX2_become_71 ?_
  refine x_bipush hx hb dX2_become_72 (by decide) ?_
  refine x_copy hx hb (hml.trans hl.1.symm) hown (hts (.methodLink RX2 46 arraycopyName) (by decide +kernel)) (hts (.native arraycopyName) (by decide +kernel)) (hts (.static arraycopyName) (by decide +kernel)) (hts (.initialized "java/lang/System") (by decide +kernel)) hK hP hD hS 11 3 0 rfl rfl rfl 0 0 8 rfl rfl rfl (by omega) (by omega) (by decide) (by decide) (Nat.le_of_ble_eq_true rfl) (by decide) (([((q 0), .inr (1, [.int (iI (To 1)), .int (iI (To 3)), .int (iI (To 2)), .int (iI (To 0)), .int (iI b), .ref (q 1), .ref (q 2), .ref (q 3), .ref (q 4), .ref (q 5), .ref (q 6), .ref (q 7)])), ((q 1), .inl (cI, 6, .inl (aI (gd 6 (fun i => To (4 + i)))))), ((q 2), .inl (cI, 8, .inl (aI (gd 8 (fun i => To (cx i 0)))))), ((q 3), .inl (cI, 8, .inl (aI (gd 8 (fun i => To (cx i 1)))))), ((q 4), .inl (cI, 8, .inl (aI (gd 8 (fun i => T (cx i 2)))))), ((q 5), .inl (cI, 8, .inl (aI (gd 8 (fun i => T (cx i 3)))))), ((q 6), .inl (cI, 48, .inl (aI (gd 48 (plG T))))), ((q 7), .inl (cI, 10, .inl (aI (gd 10 (fun i => T (90 + i)))))), ((o 0), .inr (1, [.int (iI (To 1)), .int (iI (To 3)), .int (iI (To 2)), .int (iI (To 0)), .int (iI bo), .ref (o 1), .ref (o 2), .ref (o 3), .ref (o 4), .ref (o 5), .ref (o 6), .ref (o 7)])), ((o 1), .inl (cI, 6, .inl (aI (gd 6 (fun i => To (4 + i)))))), ((o 2), .inl (cI, 8, .inl (aI (gd 8 (fun i => To (cx i 0)))))), ((o 3), .inl (cI, 8, .inl (aI (gd 8 (fun i => To (cx i 1)))))), ((o 4), .inl (cI, 8, .inl (aI (gd 8 (fun i => To (cx i 2)))))), ((o 5), .inl (cI, 8, .inl (aI (gd 8 (fun i => To (cx i 3)))))), ((o 6), .inl (cI, 48, .inl (aI (gd 48 (plG To))))), ((o 7), .inl (cI, 10, .inl (aI (gd 10 (fun i => To (90 + i))))))] : va_W)) (by rw [cpy_all]; rfl) dX2_become_74 (fun H locs hP hD hS => ?_)
  refine lv_aload_n hx hb dX2_become_77 rfl (lv_at hl 1 rfl) ?_
  refine va_get (D := D) (ci := 1) (v := .ref (o 4)) (C := RX2) (T := TX2) (N := 12) hx hb hts (iT_X2_become_X2) hown hK hP 8 rfl rfl 8 (by decide) (hts (.fieldLink RX2 28 "WordSupper$Table" "fat" "[I") (by decide +kernel)) (fun _ h9 => h9) rfl dX2_become_78 ?_
  refine x_iconst hx hb dX2_become_81 ?_
  refine lv_aload_n hx hb dX2_become_82 rfl (lv_at hl 0 rfl) ?_
  refine va_get (D := D) (ci := 1) (v := .ref (q 4)) (C := RX2) (T := TX2) (N := 12) hx hb hts (iT_X2_become_X2) hown hK hP 0 rfl rfl 8 (by decide) (hts (.fieldLink RX2 28 "WordSupper$Table" "fat" "[I") (by decide +kernel)) (fun _ h9 => h9) rfl dX2_become_83 ?_
  refine x_iconst hx hb dX2_become_86 ?_
  refine x_bipush hx hb dX2_become_87 (by decide) ?_
  refine x_copy hx hb (hml.trans hl.1.symm) hown (hts (.methodLink RX2 46 arraycopyName) (by decide +kernel)) (hts (.native arraycopyName) (by decide +kernel)) (hts (.static arraycopyName) (by decide +kernel)) (hts (.initialized "java/lang/System") (by decide +kernel)) hK hP hD hS 12 4 0 rfl rfl rfl 0 0 8 rfl rfl rfl (by omega) (by omega) (by decide) (by decide) (Nat.le_of_ble_eq_true rfl) (by decide) (([((q 0), .inr (1, [.int (iI (To 1)), .int (iI (To 3)), .int (iI (To 2)), .int (iI (To 0)), .int (iI b), .ref (q 1), .ref (q 2), .ref (q 3), .ref (q 4), .ref (q 5), .ref (q 6), .ref (q 7)])), ((q 1), .inl (cI, 6, .inl (aI (gd 6 (fun i => To (4 + i)))))), ((q 2), .inl (cI, 8, .inl (aI (gd 8 (fun i => To (cx i 0)))))), ((q 3), .inl (cI, 8, .inl (aI (gd 8 (fun i => To (cx i 1)))))), ((q 4), .inl (cI, 8, .inl (aI (gd 8 (fun i => To (cx i 2)))))), ((q 5), .inl (cI, 8, .inl (aI (gd 8 (fun i => T (cx i 3)))))), ((q 6), .inl (cI, 48, .inl (aI (gd 48 (plG T))))), ((q 7), .inl (cI, 10, .inl (aI (gd 10 (fun i => T (90 + i)))))), ((o 0), .inr (1, [.int (iI (To 1)), .int (iI (To 3)), .int (iI (To 2)), .int (iI (To 0)), .int (iI bo), .ref (o 1), .ref (o 2), .ref (o 3), .ref (o 4), .ref (o 5), .ref (o 6), .ref (o 7)])), ((o 1), .inl (cI, 6, .inl (aI (gd 6 (fun i => To (4 + i)))))), ((o 2), .inl (cI, 8, .inl (aI (gd 8 (fun i => To (cx i 0)))))), ((o 3), .inl (cI, 8, .inl (aI (gd 8 (fun i => To (cx i 1)))))), ((o 4), .inl (cI, 8, .inl (aI (gd 8 (fun i => To (cx i 2)))))), ((o 5), .inl (cI, 8, .inl (aI (gd 8 (fun i => To (cx i 3)))))), ((o 6), .inl (cI, 48, .inl (aI (gd 48 (plG To))))), ((o 7), .inl (cI, 10, .inl (aI (gd 10 (fun i => To (90 + i))))))] : va_W)) (by rw [cpy_all]; rfl) dX2_become_89 (fun H locs hP hD hS => ?_)
  refine lv_aload_n hx hb dX2_become_92 rfl (lv_at hl 1 rfl) ?_
  refine va_get (D := D) (ci := 1) (v := .ref (o 5)) (C := RX2) (T := TX2) (N := 12) hx hb hts (iT_X2_become_X2) hown hK hP 8 rfl rfl 9 (by decide) (hts (.fieldLink RX2 31 "WordSupper$Table" "ate" "[I") (by decide +kernel)) (fun _ h9 => h9) rfl dX2_become_93 ?_
  refine x_iconst hx hb dX2_become_96 ?_
  refine lv_aload_n hx hb dX2_become_97 rfl (lv_at hl 0 rfl) ?_
  refine va_get (D := D) (ci := 1) (v := .ref (q 5)) (C := RX2) (T := TX2) (N := 12) hx hb hts (iT_X2_become_X2) hown hK hP 0 rfl rfl 9 (by decide) (hts (.fieldLink RX2 31 "WordSupper$Table" "ate" "[I") (by decide +kernel)) (fun _ h9 => h9) rfl dX2_become_98 ?_
  refine x_iconst hx hb dX2_become_101 ?_
  refine x_bipush hx hb dX2_become_102 (by decide) ?_
  refine x_copy hx hb (hml.trans hl.1.symm) hown (hts (.methodLink RX2 46 arraycopyName) (by decide +kernel)) (hts (.native arraycopyName) (by decide +kernel)) (hts (.static arraycopyName) (by decide +kernel)) (hts (.initialized "java/lang/System") (by decide +kernel)) hK hP hD hS 13 5 0 rfl rfl rfl 0 0 8 rfl rfl rfl (by omega) (by omega) (by decide) (by decide) (Nat.le_of_ble_eq_true rfl) (by decide) (([((q 0), .inr (1, [.int (iI (To 1)), .int (iI (To 3)), .int (iI (To 2)), .int (iI (To 0)), .int (iI b), .ref (q 1), .ref (q 2), .ref (q 3), .ref (q 4), .ref (q 5), .ref (q 6), .ref (q 7)])), ((q 1), .inl (cI, 6, .inl (aI (gd 6 (fun i => To (4 + i)))))), ((q 2), .inl (cI, 8, .inl (aI (gd 8 (fun i => To (cx i 0)))))), ((q 3), .inl (cI, 8, .inl (aI (gd 8 (fun i => To (cx i 1)))))), ((q 4), .inl (cI, 8, .inl (aI (gd 8 (fun i => To (cx i 2)))))), ((q 5), .inl (cI, 8, .inl (aI (gd 8 (fun i => To (cx i 3)))))), ((q 6), .inl (cI, 48, .inl (aI (gd 48 (plG T))))), ((q 7), .inl (cI, 10, .inl (aI (gd 10 (fun i => T (90 + i)))))), ((o 0), .inr (1, [.int (iI (To 1)), .int (iI (To 3)), .int (iI (To 2)), .int (iI (To 0)), .int (iI bo), .ref (o 1), .ref (o 2), .ref (o 3), .ref (o 4), .ref (o 5), .ref (o 6), .ref (o 7)])), ((o 1), .inl (cI, 6, .inl (aI (gd 6 (fun i => To (4 + i)))))), ((o 2), .inl (cI, 8, .inl (aI (gd 8 (fun i => To (cx i 0)))))), ((o 3), .inl (cI, 8, .inl (aI (gd 8 (fun i => To (cx i 1)))))), ((o 4), .inl (cI, 8, .inl (aI (gd 8 (fun i => To (cx i 2)))))), ((o 5), .inl (cI, 8, .inl (aI (gd 8 (fun i => To (cx i 3)))))), ((o 6), .inl (cI, 48, .inl (aI (gd 48 (plG To))))), ((o 7), .inl (cI, 10, .inl (aI (gd 10 (fun i => To (90 + i))))))] : va_W)) (by rw [cpy_all]; rfl) dX2_become_104 (fun H locs hP hD hS => ?_)
  refine lv_aload_n hx hb dX2_become_107 rfl (lv_at hl 1 rfl) ?_
  refine va_get (D := D) (ci := 1) (v := .ref (o 6)) (C := RX2) (T := TX2) (N := 12) hx hb hts (iT_X2_become_X2) hown hK hP 8 rfl rfl 10 (by decide) (hts (.fieldLink RX2 34 "WordSupper$Table" "plates" "[I") (by decide +kernel)) (fun _ h9 => h9) rfl dX2_become_108 ?_
  refine x_iconst hx hb dX2_become_111 ?_
  refine lv_aload_n hx hb dX2_become_112 rfl (lv_at hl 0 rfl) ?_
  refine va_get (D := D) (ci := 1) (v := .ref (q 6)) (C := RX2) (T := TX2) (N := 12) hx hb hts (iT_X2_become_X2) hown hK hP 0 rfl rfl 10 (by decide) (hts (.fieldLink RX2 34 "WordSupper$Table" "plates" "[I") (by decide +kernel)) (fun _ h9 => h9) rfl dX2_become_113 ?_
  refine x_iconst hx hb dX2_become_116 ?_
  refine x_bipush hx hb dX2_become_117 (by decide) ?_
  refine x_copy hx hb (hml.trans hl.1.symm) hown (hts (.methodLink RX2 46 arraycopyName) (by decide +kernel)) (hts (.native arraycopyName) (by decide +kernel)) (hts (.static arraycopyName) (by decide +kernel)) (hts (.initialized "java/lang/System") (by decide +kernel)) hK hP hD hS 14 6 0 rfl rfl rfl 0 0 48 rfl rfl rfl (by omega) (by omega) (by decide) (by decide) (Nat.le_of_ble_eq_true rfl) (by decide) (([((q 0), .inr (1, [.int (iI (To 1)), .int (iI (To 3)), .int (iI (To 2)), .int (iI (To 0)), .int (iI b), .ref (q 1), .ref (q 2), .ref (q 3), .ref (q 4), .ref (q 5), .ref (q 6), .ref (q 7)])), ((q 1), .inl (cI, 6, .inl (aI (gd 6 (fun i => To (4 + i)))))), ((q 2), .inl (cI, 8, .inl (aI (gd 8 (fun i => To (cx i 0)))))), ((q 3), .inl (cI, 8, .inl (aI (gd 8 (fun i => To (cx i 1)))))), ((q 4), .inl (cI, 8, .inl (aI (gd 8 (fun i => To (cx i 2)))))), ((q 5), .inl (cI, 8, .inl (aI (gd 8 (fun i => To (cx i 3)))))), ((q 6), .inl (cI, 48, .inl (aI (gd 48 (plG To))))), ((q 7), .inl (cI, 10, .inl (aI (gd 10 (fun i => T (90 + i)))))), ((o 0), .inr (1, [.int (iI (To 1)), .int (iI (To 3)), .int (iI (To 2)), .int (iI (To 0)), .int (iI bo), .ref (o 1), .ref (o 2), .ref (o 3), .ref (o 4), .ref (o 5), .ref (o 6), .ref (o 7)])), ((o 1), .inl (cI, 6, .inl (aI (gd 6 (fun i => To (4 + i)))))), ((o 2), .inl (cI, 8, .inl (aI (gd 8 (fun i => To (cx i 0)))))), ((o 3), .inl (cI, 8, .inl (aI (gd 8 (fun i => To (cx i 1)))))), ((o 4), .inl (cI, 8, .inl (aI (gd 8 (fun i => To (cx i 2)))))), ((o 5), .inl (cI, 8, .inl (aI (gd 8 (fun i => To (cx i 3)))))), ((o 6), .inl (cI, 48, .inl (aI (gd 48 (plG To))))), ((o 7), .inl (cI, 10, .inl (aI (gd 10 (fun i => To (90 + i))))))] : va_W)) (by rw [cpy_all]; rfl) dX2_become_119 (fun H locs hP hD hS => ?_)
  refine lv_aload_n hx hb dX2_become_122 rfl (lv_at hl 1 rfl) ?_
  refine va_get (D := D) (ci := 1) (v := .ref (o 7)) (C := RX2) (T := TX2) (N := 12) hx hb hts (iT_X2_become_X2) hown hK hP 8 rfl rfl 11 (by decide) (hts (.fieldLink RX2 37 "WordSupper$Table" "spots" "[I") (by decide +kernel)) (fun _ h9 => h9) rfl dX2_become_123 ?_
  refine x_iconst hx hb dX2_become_126 ?_
  refine lv_aload_n hx hb dX2_become_127 rfl (lv_at hl 0 rfl) ?_
  refine va_get (D := D) (ci := 1) (v := .ref (q 7)) (C := RX2) (T := TX2) (N := 12) hx hb hts (iT_X2_become_X2) hown hK hP 0 rfl rfl 11 (by decide) (hts (.fieldLink RX2 37 "WordSupper$Table" "spots" "[I") (by decide +kernel)) (fun _ h9 => h9) rfl dX2_become_128 ?_
  refine x_iconst hx hb dX2_become_131 ?_
  refine x_bipush hx hb dX2_become_132 (by decide) ?_
  refine x_copy hx hb (hml.trans hl.1.symm) hown (hts (.methodLink RX2 46 arraycopyName) (by decide +kernel)) (hts (.native arraycopyName) (by decide +kernel)) (hts (.static arraycopyName) (by decide +kernel)) (hts (.initialized "java/lang/System") (by decide +kernel)) hK hP hD hS 15 7 0 rfl rfl rfl 0 0 10 rfl rfl rfl (by omega) (by omega) (by decide) (by decide) (Nat.le_of_ble_eq_true rfl) (by decide) (([((q 0), .inr (1, [.int (iI (To 1)), .int (iI (To 3)), .int (iI (To 2)), .int (iI (To 0)), .int (iI b), .ref (q 1), .ref (q 2), .ref (q 3), .ref (q 4), .ref (q 5), .ref (q 6), .ref (q 7)])), ((q 1), .inl (cI, 6, .inl (aI (gd 6 (fun i => To (4 + i)))))), ((q 2), .inl (cI, 8, .inl (aI (gd 8 (fun i => To (cx i 0)))))), ((q 3), .inl (cI, 8, .inl (aI (gd 8 (fun i => To (cx i 1)))))), ((q 4), .inl (cI, 8, .inl (aI (gd 8 (fun i => To (cx i 2)))))), ((q 5), .inl (cI, 8, .inl (aI (gd 8 (fun i => To (cx i 3)))))), ((q 6), .inl (cI, 48, .inl (aI (gd 48 (plG To))))), ((q 7), .inl (cI, 10, .inl (aI (gd 10 (fun i => To (90 + i)))))), ((o 0), .inr (1, [.int (iI (To 1)), .int (iI (To 3)), .int (iI (To 2)), .int (iI (To 0)), .int (iI bo), .ref (o 1), .ref (o 2), .ref (o 3), .ref (o 4), .ref (o 5), .ref (o 6), .ref (o 7)])), ((o 1), .inl (cI, 6, .inl (aI (gd 6 (fun i => To (4 + i)))))), ((o 2), .inl (cI, 8, .inl (aI (gd 8 (fun i => To (cx i 0)))))), ((o 3), .inl (cI, 8, .inl (aI (gd 8 (fun i => To (cx i 1)))))), ((o 4), .inl (cI, 8, .inl (aI (gd 8 (fun i => To (cx i 2)))))), ((o 5), .inl (cI, 8, .inl (aI (gd 8 (fun i => To (cx i 3)))))), ((o 6), .inl (cI, 48, .inl (aI (gd 48 (plG To))))), ((o 7), .inl (cI, 10, .inl (aI (gd 10 (fun i => To (90 + i))))))] : va_W)) (by rw [cpy_all]; rfl) dX2_become_134 (fun H locs hP hD hS => ?_)
  exact kend () hP hS rfl trivial dX2_become_137
