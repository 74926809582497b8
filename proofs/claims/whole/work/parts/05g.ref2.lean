theorem ykSX5_sups : yX5_sups.cls ≠ "java/lang/invoke/MethodHandle" ∧ yX5_sups.cls ≠ "java/lang/invoke/VarHandle" ∧ (parseMethodDescriptor yX5_sups.desc).map (fun d => d.parameters.length) = some 1 := by decide +kernel
theorem ykVX5_sups : yX5_sups.cls = RX5 ∧ yX5_sups.cls ≠ "java/lang/invoke/MethodHandle" ∧ yX5_sups.cls ≠ "java/lang/invoke/VarHandle" ∧ (parseMethodDescriptor yX5_sups.desc).map (fun d => d.parameters.length) = some 1 := ⟨rfl, ykSX5_sups⟩
set_option maxRecDepth 20000 in
theorem iT_X5_sups_X5 : ∀ w ∈ u_ws RX5 TX5 18, w ∈ wsX5_sups := by decide +kernel
set_option maxHeartbeats 4000000 in
set_option maxRecDepth 100000 in
theorem kX5_sups {l : Launch} {D : va_G} {cI cB : ClassId} (r : Nat → Nat) (ik : Int) (tn : Int) (j : Nat → Int) (T : Tb) (p : Nat) (B : Int) (hI : Inv B T) (hp : (p : Int) < T 0) : Ct l yX5_sups wsX5_sups 3 68 D [(cI, .int), (cB, .byte)] [.ref (r 0), .int (iI ((p : Nat) : Int))] (wRo r ik tn j ++ (wA cI (r 1) 100 T)) (S := Tb × (Nat → Int)) (fun u => none) (fun u => u.1 = spF p T) (fun u => wRo r ik tn u.2 ++ (wA cI (r 1) 100 u.1)) := by
  refine CtV.of (cc := cX5_sups) (maxL := 2) (by decide +kernel) rfl (Nat.le_of_ble_eq_true rfl) ?_
  intro pg e s m args below meth c Q A hx hb hml hts hown hP hK hD hS ls hl kend
  have hown : s.vm.findClass RX5 = some m.cls := hown
  have hl : lv_has ls 2 [(0, .ref (r 0)), (1, .int (iI ((p : Nat) : Int)))] := hl
  have hn := Inv_n hI
  have ga := Inv_ap hI hp
  have hk0 := Inv_k hI hp
  have hup0 : (va_up (va_up j 0 (apF T p)) 1 0) 0 = apF T p := by rw [up_n _ _ (by omega), up_s]
  have hup1 : (va_up (va_up j 0 (apF T p)) 1 0) 1 = 0 := up_s _ _ _
  refine lv_aload_n hx hb dX5_sups_0 rfl (lv_at hl 0 rfl) ?_
  refine lv_aload_n hx hb dX5_sups_1 rfl (lv_at hl 0 rfl) ?_
  refine lv_iload_n hx hb dX5_sups_2 rfl (lv_at hl 1 rfl) ?_
  refine x_callV (As := [.int (iI ((p : Nat) : Int))]) (rest := [.ref (r 0)]) ⟨hx, hb, hml, hown, hts⟩ (kX5_appetite r ik tn j T p B (by omega) (by omega)) (cwV 1 hts gX5_sups_X5_appetite rfl rfl rfl ykVX5_appetite ⟨Nat.le_of_ble_eq_true rfl, Nat.le_of_ble_eq_true rfl⟩) hP hK hD hS 0 4 rfl rfl rfl [0, 1] rfl (by decide) (fun _ => rfl) (fun _ => wRo r ik tn j ++ (wA cI (r 1) 100 T)) (fun _ => rfl) rfl hl.1 rfl (Nat.le_of_ble_eq_true rfl) dX5_sups_3 ⟨Nat.le_of_ble_eq_true rfl, Nat.le_of_ble_eq_true rfl⟩ (fun _ H locs _ hP hD hS => ?_)
  refine W.eq (g2 := F0 m 6 ls [.int (iI (apF T p)), .ref (r 0)]) rfl ?_
  refine x_putI (D := D) (ty := .int) (C := RX5) (T := TX5) (N := 18) hx hb 4 hts (iT_X5_sups_X5) tyX5 tyX5_ok nmX5 hown hK hP hD hS 0 rfl rfl 11 (by decide) (hts (.fieldLink RX5 106 "WordSupperModel" "bites" "I") (by decide +kernel)) (fun _ h9 => h9) rfl (by decide +kernel) rfl rfl (Nat.le_of_ble_eq_true rfl) (wRo r ik tn (va_up j 0 (apF T p)) ++ (wA cI (r 1) 100 T)) (by rw [← wRo_j0 r ik tn j (apF T p)]; rfl) dX5_sups_6 (fun H locs hP hD hS => ?_)
  refine lv_aload_n hx hb dX5_sups_9 rfl (lv_at hl 0 rfl) ?_
  refine x_iconst hx hb dX5_sups_10 ?_
  refine x_putI (D := D) (ty := .int) (C := RX5) (T := TX5) (N := 18) hx hb 4 hts (iT_X5_sups_X5) tyX5 tyX5_ok nmX5 hown hK hP hD hS 0 rfl rfl 12 (by decide) (hts (.fieldLink RX5 110 "WordSupperModel" "swallowed" "I") (by decide +kernel)) (fun _ h9 => h9) rfl (by decide +kernel) rfl rfl (Nat.le_of_ble_eq_true rfl) (wRo r ik tn (va_up (va_up j 0 (apF T p)) 1 0) ++ (wA cI (r 1) 100 T)) (by rw [← wRo_j1 r ik tn (va_up j 0 (apF T p)) 0]; rfl) dX5_sups_11 (fun H locs hP hD hS => ?_)
  refine lv_aload_n hx hb dX5_sups_14 rfl (lv_at hl 0 rfl) ?_
  refine lv_aload_n hx hb dX5_sups_15 rfl (lv_at hl 0 rfl) ?_
  refine lv_iload_n hx hb dX5_sups_16 rfl (lv_at hl 1 rfl) ?_
  refine x_iconst hx hb dX5_sups_17 ?_
  refine x_callV (As := [.int (iI ((p : Nat) : Int)), .int (iI 0)]) (rest := [.ref (r 0)]) ⟨hx, hb, hml, hown, hts⟩ (kX5_its r ik tn (va_up (va_up j 0 (apF T p)) 1 0) T p 0 (by omega) (by omega)) (cwV 2 hts gX5_sups_X5_its rfl rfl rfl ykVX5_its ⟨Nat.le_of_ble_eq_true rfl, Nat.le_of_ble_eq_true rfl⟩) hP hK hD hS 0 4 rfl rfl rfl [0, 1] rfl (by decide) (fun _ => rfl) (fun _ => wRo r ik tn (va_up (va_up j 0 (apF T p)) 1 0) ++ (wA cI (r 1) 100 T)) (fun _ => rfl) rfl hl.1 rfl (Nat.le_of_ble_eq_true rfl) dX5_sups_18 ⟨Nat.le_of_ble_eq_true rfl, Nat.le_of_ble_eq_true rfl⟩ (fun _ H locs _ hP hD hS => ?_)
  refine W.eq (g2 := F0 m 21 ls [.int (iI (T (cx p 0))), .ref (r 0)]) rfl ?_
  refine lv_iload_n hx hb dX5_sups_21 rfl (lv_at hl 1 rfl) ?_
  refine x_callV (As := [.int (iI (T (cx p 0))), .int (iI ((p : Nat) : Int))]) (rest := []) ⟨hx, hb, hml, hown, hts⟩ (kX5_swallows r ik tn (va_up (va_up j 0 (apF T p)) 1 0) T (T (cx p 0)) p B hI (by omega) (by omega) (by rw [hup0]; omega) (by rw [hup1]; omega)) (cwV 2 hts gX5_sups_X5_swallows rfl rfl rfl ykVX5_swallows ⟨Nat.le_of_ble_eq_true rfl, Nat.le_of_ble_eq_true rfl⟩) hP hK hD hS 0 4 rfl rfl rfl [0, 1] rfl (by decide) (fun _ => rfl) (fun u => wRo r ik tn u.2 ++ (wA cI (r 1) 100 u.1)) (fun _ => rfl) rfl hl.1 rfl (Nat.le_of_ble_eq_true rfl) dX5_sups_22 ⟨Nat.le_of_ble_eq_true rfl, Nat.le_of_ble_eq_true rfl⟩ (fun u3 H locs hp4 hP hD hS => ?_)
  obtain ⟨T11, j12⟩ := u3
  replace hp4 : (T11, j12 0, j12 1) = swF (T (cx p 0)) p (T, (va_up (va_up j 0 (apF T p)) 1 0) 0, (va_up (va_up j 0 (apF T p)) 1 0) 1) := hp4
  have hP : va_P D vwCl (wRo r ik tn j12 ++ (wA cI (r 1) 100 T11)) H := hP
  have hD : va_D A (wRo r ik tn j12 ++ (wA cI (r 1) 100 T11)) := hD
  refine W.eq (g2 := F0 m 25 ls []) rfl ?_
  rw [show (va_up (va_up j 0 (apF T p)) 1 0) 0 = apF T p by rw [up_n _ _ (by omega), up_s], show (va_up (va_up j 0 (apF T p)) 1 0) 1 = 0 from up_s _ _ _] at hp4
  have g1 : (T11, j12 0, j12 1) = spM p T := hp4
  have g2 := swF_I (k := T (cx p 0)) (h := p) (b := apF T p) (s := 0) hI hp ⟨ga.1, by omega⟩ (Int.le_refl 0)
  rw [← hp4] at g2
  dsimp only at g2
  obtain ⟨i1, i2, i3, i4, i5, i6⟩ := g2
  have i7 := i2 0 (by omega)
  have g3 := i3 p 0 (by omega)
  have g4 := Inv_lv hI hp
  have g5 := i3 p 1 (by omega)
  refine lv_aload_n hx hb dX5_sups_25 rfl (lv_at hl 0 rfl) ?_
  refine lv_iload_n hx hb dX5_sups_26 rfl (lv_at hl 1 rfl) ?_
  refine x_iconst hx hb dX5_sups_27 ?_
  refine x_callV (As := [.int (iI ((p : Nat) : Int)), .int (iI 1)]) (rest := []) ⟨hx, hb, hml, hown, hts⟩ (kX5_its r ik tn j12 T11 p 1 (by omega) (by omega)) (cwV 2 hts gX5_sups_X5_its rfl rfl rfl ykVX5_its ⟨Nat.le_of_ble_eq_true rfl, Nat.le_of_ble_eq_true rfl⟩) hP hK hD hS 0 4 rfl rfl rfl [0, 1] rfl (by decide) (fun _ => rfl) (fun _ => wRo r ik tn j12 ++ (wA cI (r 1) 100 T11)) (fun _ => rfl) rfl hl.1 rfl (Nat.le_of_ble_eq_true rfl) dX5_sups_28 ⟨Nat.le_of_ble_eq_true rfl, Nat.le_of_ble_eq_true rfl⟩ (fun _ H locs _ hP hD hS => ?_)
  refine W.eq (g2 := F0 m 31 ls [.int (iI (T11 (cx p 1)))]) rfl ?_
  refine x_topi (T (cx p 1)) g5 ?_
  refine x_if_lt (tgt := 50) hx hb (by omega) dX5_sups_31 (by decide) (fun c_31 => ?_) (fun c_31 => ?_)
  · have k1 := Inv_f (p := p) i1 (by omega)
    have k2 := Inv_a (p := p) i1 (by omega)
    refine lv_aload_n hx hb dX5_sups_50 rfl (lv_at hl 0 rfl) ?_
    refine va_get (D := D) (ci := 4) (v := .ref (r 1)) (C := RX5) (T := TX5) (N := 18) hx hb hts (iT_X5_sups_X5) hown hK hP 0 rfl rfl 0 (by decide) (hts (.fieldLink RX5 7 "WordSupperModel" "s" "[I") (by decide +kernel)) (fun _ h9 => h9) rfl dX5_sups_51 ?_
    refine lv_iload_n hx hb dX5_sups_54 rfl (lv_at hl 1 rfl) ?_
    refine x_iconst hx hb dX5_sups_55 ?_
    refine x_callS (As := [.int (iI ((p : Nat) : Int)), .int (iI 2)]) (rest := [.ref (r 1)]) ⟨hx, hb, hml, hown, hts⟩ (kX5_at p 2 ) (va_cwS 2 hts gX5_sups_X5_at rfl rfl rfl ykSX5_at ⟨Nat.le_of_ble_eq_true rfl, Nat.le_of_ble_eq_true rfl⟩) hP hK hD hS [] rfl (by decide) (fun _ => rfl) (fun _ => wRo r ik tn j12 ++ (wA cI (r 1) 100 T11)) (fun _ => rfl) rfl hl.1 rfl (Nat.le_of_ble_eq_true rfl) dX5_sups_56 ⟨Nat.le_of_ble_eq_true rfl, Nat.le_of_ble_eq_true rfl⟩ (fun _ H locs _ hP hD hS => ?_)
    refine W.eq (g2 := F0 m 59 ls [.int (iI ((cx p 2 : Nat) : Int)), .ref (r 1)]) rfl ?_
    refine x_iconst hx hb dX5_sups_59 ?_
    refine x_bipush hx hb dX5_sups_60 (by decide) ?_
    refine lv_aload_n hx hb dX5_sups_62 rfl (lv_at hl 0 rfl) ?_
    refine lv_iload_n hx hb dX5_sups_63 rfl (lv_at hl 1 rfl) ?_
    refine x_iconst hx hb dX5_sups_64 ?_
    refine x_callV (As := [.int (iI ((p : Nat) : Int)), .int (iI 2)]) (rest := [.int (iI 99), .int (iI 0), .int (iI ((cx p 2 : Nat) : Int)), .ref (r 1)]) ⟨hx, hb, hml, hown, hts⟩ (kX5_its r ik tn j12 T11 p 2 (by omega) (by omega)) (cwV 2 hts gX5_sups_X5_its rfl rfl rfl ykVX5_its ⟨Nat.le_of_ble_eq_true rfl, Nat.le_of_ble_eq_true rfl⟩) hP hK hD hS 0 4 rfl rfl rfl [0, 1] rfl (by decide) (fun _ => rfl) (fun _ => wRo r ik tn j12 ++ (wA cI (r 1) 100 T11)) (fun _ => rfl) rfl hl.1 rfl (Nat.le_of_ble_eq_true rfl) dX5_sups_65 ⟨Nat.le_of_ble_eq_true rfl, Nat.le_of_ble_eq_true rfl⟩ (fun _ H locs _ hP hD hS => ?_)
    refine W.eq (g2 := F0 m 68 ls [.int (iI (T11 (cx p 2))), .int (iI 99), .int (iI 0), .int (iI ((cx p 2 : Nat) : Int)), .ref (r 1)]) rfl ?_
    refine lv_aload_n hx hb dX5_sups_68 rfl (lv_at hl 0 rfl) ?_
    refine va_get (D := D) (ci := 4) (v := .int (iI (j12 1))) (C := RX5) (T := TX5) (N := 18) hx hb hts (iT_X5_sups_X5) hown hK hP 0 rfl rfl 12 (by decide) (hts (.fieldLink RX5 110 "WordSupperModel" "swallowed" "I") (by decide +kernel)) (fun _ h9 => h9) rfl dX5_sups_69 ?_
    refine x_iconst hx hb dX5_sups_72 ?_
    refine x_idiv hx hb (by omega) (by omega) (by decide) (by decide) dX5_sups_73 ?_
    refine x_iadd hx hb dX5_sups_74 ?_
    refine x_callS (As := [.int (iI 99), .int (iI ((T11 (cx p 2)) + ((j12 1) / 4)))]) (rest := [.int (iI 0), .int (iI ((cx p 2 : Nat) : Int)), .ref (r 1)]) ⟨hx, hb, hml, hown, hts⟩ (kX5_least 99 ((T11 (cx p 2)) + ((j12 1) / 4)) (by omega) (by omega)) (va_cwS 2 hts gX5_sups_X5_least rfl rfl rfl ykSX5_least ⟨Nat.le_of_ble_eq_true rfl, Nat.le_of_ble_eq_true rfl⟩) hP hK hD hS [] rfl (by decide) (fun _ => rfl) (fun _ => wRo r ik tn j12 ++ (wA cI (r 1) 100 T11)) (fun _ => rfl) rfl hl.1 rfl (Nat.le_of_ble_eq_true rfl) dX5_sups_75 ⟨Nat.le_of_ble_eq_true rfl, Nat.le_of_ble_eq_true rfl⟩ (fun _ H locs _ hP hD hS => ?_)
    refine W.eq (g2 := F0 m 78 ls [.int (iI (min 99 ((T11 (cx p 2)) + ((j12 1) / 4)))), .int (iI 0), .int (iI ((cx p 2 : Nat) : Int)), .ref (r 1)]) rfl ?_
    refine x_iconst hx hb dX5_sups_78 ?_
    refine x_isub hx hb dX5_sups_79 ?_
    refine x_callS (As := [.int (iI 0), .int (iI ((min 99 ((T11 (cx p 2)) + ((j12 1) / 4))) - 2))]) (rest := [.int (iI ((cx p 2 : Nat) : Int)), .ref (r 1)]) ⟨hx, hb, hml, hown, hts⟩ (kX5_greatest 0 ((min 99 ((T11 (cx p 2)) + ((j12 1) / 4))) - 2) (by omega) (by omega)) (va_cwS 2 hts gX5_sups_X5_greatest rfl rfl rfl ykSX5_greatest ⟨Nat.le_of_ble_eq_true rfl, Nat.le_of_ble_eq_true rfl⟩) hP hK hD hS [] rfl (by decide) (fun _ => rfl) (fun _ => wRo r ik tn j12 ++ (wA cI (r 1) 100 T11)) (fun _ => rfl) rfl hl.1 rfl (Nat.le_of_ble_eq_true rfl) dX5_sups_80 ⟨Nat.le_of_ble_eq_true rfl, Nat.le_of_ble_eq_true rfl⟩ (fun _ H locs _ hP hD hS => ?_)
    refine W.eq (g2 := F0 m 83 ls [.int (iI (max 0 ((min 99 ((T11 (cx p 2)) + ((j12 1) / 4))) - 2))), .int (iI ((cx p 2 : Nat) : Int)), .ref (r 1)]) rfl ?_
    refine x_iast hx hb hK hP hD hS 1 0 rfl rfl (cx p 2) rfl (cx_lt1 (by omega) (by omega)) (by decide) (wRo r ik tn j12 ++ (wA cI (r 1) 100 (va_up T11 (cx p 2) (max 0 ((min 99 ((T11 (cx p 2)) + ((j12 1) / 4))) - 2))))) (by rw [← wA_up cI (r 1) 100 T11 (max 0 ((min 99 ((T11 (cx p 2)) + ((j12 1) / 4))) - 2)) (cx p 2) (cx_lt1 (by omega) (by omega))]; rfl) dX5_sups_83 (fun H locs hP hD hS => ?_)
    refine lv_aload_n hx hb dX5_sups_84 rfl (lv_at hl 0 rfl) ?_
    refine va_get (D := D) (ci := 4) (v := .ref (r 1)) (C := RX5) (T := TX5) (N := 18) hx hb hts (iT_X5_sups_X5) hown hK hP 0 rfl rfl 0 (by decide) (hts (.fieldLink RX5 7 "WordSupperModel" "s" "[I") (by decide +kernel)) (fun _ h9 => h9) rfl dX5_sups_85 ?_
    refine lv_iload_n hx hb dX5_sups_88 rfl (lv_at hl 1 rfl) ?_
    refine x_iconst hx hb dX5_sups_89 ?_
    refine x_callS (As := [.int (iI ((p : Nat) : Int)), .int (iI 3)]) (rest := [.ref (r 1)]) ⟨hx, hb, hml, hown, hts⟩ (kX5_at p 3 ) (va_cwS 2 hts gX5_sups_X5_at rfl rfl rfl ykSX5_at ⟨Nat.le_of_ble_eq_true rfl, Nat.le_of_ble_eq_true rfl⟩) hP hK hD hS [] rfl (by decide) (fun _ => rfl) (fun _ => wRo r ik tn j12 ++ (wA cI (r 1) 100 (va_up T11 (cx p 2) (max 0 ((min 99 ((T11 (cx p 2)) + ((j12 1) / 4))) - 2))))) (fun _ => rfl) rfl hl.1 rfl (Nat.le_of_ble_eq_true rfl) dX5_sups_90 ⟨Nat.le_of_ble_eq_true rfl, Nat.le_of_ble_eq_true rfl⟩ (fun _ H locs _ hP hD hS => ?_)
    refine W.eq (g2 := F0 m 93 ls [.int (iI ((cx p 3 : Nat) : Int)), .ref (r 1)]) rfl ?_
    refine x_ldc hx hb 99999 rfl hown (hts (.constant RX5 117 (99999)) (by decide +kernel)) dX5_sups_93 ?_
    refine lv_aload_n hx hb dX5_sups_95 rfl (lv_at hl 0 rfl) ?_
    refine lv_iload_n hx hb dX5_sups_96 rfl (lv_at hl 1 rfl) ?_
    refine x_iconst hx hb dX5_sups_97 ?_
    refine x_callV (As := [.int (iI ((p : Nat) : Int)), .int (iI 3)]) (rest := [.int (iI 99999), .int (iI ((cx p 3 : Nat) : Int)), .ref (r 1)]) ⟨hx, hb, hml, hown, hts⟩ (kX5_its r ik tn j12 (va_up T11 (cx p 2) (max 0 ((min 99 ((T11 (cx p 2)) + ((j12 1) / 4))) - 2))) p 3 (by omega) (by omega)) (cwV 2 hts gX5_sups_X5_its rfl rfl rfl ykVX5_its ⟨Nat.le_of_ble_eq_true rfl, Nat.le_of_ble_eq_true rfl⟩) hP hK hD hS 0 4 rfl rfl rfl [0, 1] rfl (by decide) (fun _ => rfl) (fun _ => wRo r ik tn j12 ++ (wA cI (r 1) 100 (va_up T11 (cx p 2) (max 0 ((min 99 ((T11 (cx p 2)) + ((j12 1) / 4))) - 2))))) (fun _ => rfl) rfl hl.1 rfl (Nat.le_of_ble_eq_true rfl) dX5_sups_98 ⟨Nat.le_of_ble_eq_true rfl, Nat.le_of_ble_eq_true rfl⟩ (fun _ H locs _ hP hD hS => ?_)
    refine W.eq (g2 := F0 m 101 ls [.int (iI ((va_up T11 (cx p 2) (max 0 ((min 99 ((T11 (cx p 2)) + ((j12 1) / 4))) - 2))) (cx p 3))), .int (iI 99999), .int (iI ((cx p 3 : Nat) : Int)), .ref (r 1)]) rfl ?_
    refine x_topi (T11 (cx p 3)) (up_cx _ _ (by omega) (by omega) (by omega)) ?_
    refine lv_aload_n hx hb dX5_sups_101 rfl (lv_at hl 0 rfl) ?_
    refine va_get (D := D) (ci := 4) (v := .int (iI (j12 1))) (C := RX5) (T := TX5) (N := 18) hx hb hts (iT_X5_sups_X5) hown hK hP 0 rfl rfl 12 (by decide) (hts (.fieldLink RX5 110 "WordSupperModel" "swallowed" "I") (by decide +kernel)) (fun _ h9 => h9) rfl dX5_sups_102 ?_
    refine x_iadd hx hb dX5_sups_105 ?_
    refine x_callS (As := [.int (iI 99999), .int (iI ((T11 (cx p 3)) + (j12 1)))]) (rest := [.int (iI ((cx p 3 : Nat) : Int)), .ref (r 1)]) ⟨hx, hb, hml, hown, hts⟩ (kX5_least 99999 ((T11 (cx p 3)) + (j12 1)) (by omega) (by omega)) (va_cwS 2 hts gX5_sups_X5_least rfl rfl rfl ykSX5_least ⟨Nat.le_of_ble_eq_true rfl, Nat.le_of_ble_eq_true rfl⟩) hP hK hD hS [] rfl (by decide) (fun _ => rfl) (fun _ => wRo r ik tn j12 ++ (wA cI (r 1) 100 (va_up T11 (cx p 2) (max 0 ((min 99 ((T11 (cx p 2)) + ((j12 1) / 4))) - 2))))) (fun _ => rfl) rfl hl.1 rfl (Nat.le_of_ble_eq_true rfl) dX5_sups_106 ⟨Nat.le_of_ble_eq_true rfl, Nat.le_of_ble_eq_true rfl⟩ (fun _ H locs _ hP hD hS => ?_)
    refine W.eq (g2 := F0 m 109 ls [.int (iI (min 99999 ((T11 (cx p 3)) + (j12 1)))), .int (iI ((cx p 3 : Nat) : Int)), .ref (r 1)]) rfl ?_
    refine x_iast hx hb hK hP hD hS 1 0 rfl rfl (cx p 3) rfl (cx_lt1 (by omega) (by omega)) (by decide) (wRo r ik tn j12 ++ (wA cI (r 1) 100 (va_up (va_up T11 (cx p 2) (max 0 ((min 99 ((T11 (cx p 2)) + ((j12 1) / 4))) - 2))) (cx p 3) (min 99999 ((T11 (cx p 3)) + (j12 1)))))) (by rw [← wA_up cI (r 1) 100 (va_up T11 (cx p 2) (max 0 ((min 99 ((T11 (cx p 2)) + ((j12 1) / 4))) - 2))) (min 99999 ((T11 (cx p 3)) + (j12 1))) (cx p 3) (cx_lt1 (by omega) (by omega))]; rfl) dX5_sups_109 (fun H locs hP hD hS => ?_)
    exact kend ((va_up (va_up T11 (cx p 2) (max 0 ((min 99 ((T11 (cx p 2)) + ((j12 1) / 4))) - 2))) (cx p 3) (min 99999 ((T11 (cx p 3)) + (j12 1)))), j12) hP hS rfl (by unfold spF spZ; rw [if_neg (show ¬ 0 ≤ T (cx p 1) by omega), ← g1]; unfold spE; rfl) dX5_sups_110
  · refine lv_aload_n hx hb dX5_sups_34 rfl (lv_at hl 0 rfl) ?_
    refine lv_aload_n hx hb dX5_sups_35 rfl (lv_at hl 0 rfl) ?_
    refine lv_iload_n hx hb dX5_sups_36 rfl (lv_at hl 1 rfl) ?_
    refine x_iconst hx hb dX5_sups_37 ?_
    refine x_callV (As := [.int (iI ((p : Nat) : Int)), .int (iI 0)]) (rest := [.ref (r 0)]) ⟨hx, hb, hml, hown, hts⟩ (kX5_its r ik tn j12 T11 p 0 (by omega) (by omega)) (cwV 2 hts gX5_sups_X5_its rfl rfl rfl ykVX5_its ⟨Nat.le_of_ble_eq_true rfl, Nat.le_of_ble_eq_true rfl⟩) hP hK hD hS 0 4 rfl rfl rfl [0, 1] rfl (by decide) (fun _ => rfl) (fun _ => wRo r ik tn j12 ++ (wA cI (r 1) 100 T11)) (fun _ => rfl) rfl hl.1 rfl (Nat.le_of_ble_eq_true rfl) dX5_sups_38 ⟨Nat.le_of_ble_eq_true rfl, Nat.le_of_ble_eq_true rfl⟩ (fun _ H locs _ hP hD hS => ?_)
    refine W.eq (g2 := F0 m 41 ls [.int (iI (T11 (cx p 0))), .ref (r 0)]) rfl ?_
    refine x_topi (T (cx p 0)) g3 ?_
    refine lv_aload_n hx hb dX5_sups_41 rfl (lv_at hl 0 rfl) ?_
    refine lv_iload_n hx hb dX5_sups_42 rfl (lv_at hl 1 rfl) ?_
    refine x_iconst hx hb dX5_sups_43 ?_
    refine x_callV (As := [.int (iI ((p : Nat) : Int)), .int (iI 1)]) (rest := [.int (iI (T (cx p 0))), .ref (r 0)]) ⟨hx, hb, hml, hown, hts⟩ (kX5_its r ik tn j12 T11 p 1 (by omega) (by omega)) (cwV 2 hts gX5_sups_X5_its rfl rfl rfl ykVX5_its ⟨Nat.le_of_ble_eq_true rfl, Nat.le_of_ble_eq_true rfl⟩) hP hK hD hS 0 4 rfl rfl rfl [0, 1] rfl (by decide) (fun _ => rfl) (fun _ => wRo r ik tn j12 ++ (wA cI (r 1) 100 T11)) (fun _ => rfl) rfl hl.1 rfl (Nat.le_of_ble_eq_true rfl) dX5_sups_44 ⟨Nat.le_of_ble_eq_true rfl, Nat.le_of_ble_eq_true rfl⟩ (fun _ H locs _ hP hD hS => ?_)
    refine W.eq (g2 := F0 m 47 ls [.int (iI (T11 (cx p 1))), .int (iI (T (cx p 0))), .ref (r 0)]) rfl ?_
    refine x_topi (T (cx p 1)) g5 ?_
    refine x_topi (((T (cx p 1)).toNat : Nat) : Int) (by omega) ?_
    refine x_callV (As := [.int (iI (T (cx p 0))), .int (iI (((T (cx p 1)).toNat : Nat) : Int))]) (rest := []) ⟨hx, hb, hml, hown, hts⟩ (kX5_swallows r ik tn j12 T11 (T (cx p 0)) ((T (cx p 1)).toNat) B i1 (by omega) (by omega) i4 ⟨i5, by omega⟩) (cwV 2 hts gX5_sups_X5_swallows rfl rfl rfl ykVX5_swallows ⟨Nat.le_of_ble_eq_true rfl, Nat.le_of_ble_eq_true rfl⟩) hP hK hD hS 0 4 rfl rfl rfl [0, 1] rfl (by decide) (fun _ => rfl) (fun u => wRo r ik tn u.2 ++ (wA cI (r 1) 100 u.1)) (fun _ => rfl) rfl hl.1 rfl (Nat.le_of_ble_eq_true rfl) dX5_sups_47 ⟨Nat.le_of_ble_eq_true rfl, Nat.le_of_ble_eq_true rfl⟩ (fun u7 H locs hp8 hP hD hS => ?_)
    obtain ⟨T15, j16⟩ := u7
    replace hp8 : (T15, j16 0, j16 1) = swF (T (cx p 0)) ((T (cx p 1)).toNat) (T11, j12 0, j12 1) := hp8
    have hP : va_P D vwCl (wRo r ik tn j16 ++ (wA cI (r 1) 100 T15)) H := hP
    have hD : va_D A (wRo r ik tn j16 ++ (wA cI (r 1) 100 T15)) := hD
    refine W.eq (g2 := F0 m 50 ls []) rfl ?_
    have j0 := swF_I (k := T (cx p 0)) (h := (T (cx p 1)).toNat) (T := T11) (b := j12 0) (s := j12 1) i1 (by omega) i4 i5
    rw [← hp8] at j0
    dsimp only at j0
    obtain ⟨j1, j2, j3, j4, j5, j6⟩ := j0
    have k1 := Inv_f (p := p) j1 (by have := j2 0 (by omega); omega)
    have k2 := Inv_a (p := p) j1 (by have := j2 0 (by omega); omega)
    refine lv_aload_n hx hb dX5_sups_50 rfl (lv_at hl 0 rfl) ?_
    refine va_get (D := D) (ci := 4) (v := .ref (r 1)) (C := RX5) (T := TX5) (N := 18) hx hb hts (iT_X5_sups_X5) hown hK hP 0 rfl rfl 0 (by decide) (hts (.fieldLink RX5 7 "WordSupperModel" "s" "[I") (by decide +kernel)) (fun _ h9 => h9) rfl dX5_sups_51 ?_
    refine lv_iload_n hx hb dX5_sups_54 rfl (lv_at hl 1 rfl) ?_
    refine x_iconst hx hb dX5_sups_55 ?_
    refine x_callS (As := [.int (iI ((p : Nat) : Int)), .int (iI 2)]) (rest := [.ref (r 1)]) ⟨hx, hb, hml, hown, hts⟩ (kX5_at p 2 ) (va_cwS 2 hts gX5_sups_X5_at rfl rfl rfl ykSX5_at ⟨Nat.le_of_ble_eq_true rfl, Nat.le_of_ble_eq_true rfl⟩) hP hK hD hS [] rfl (by decide) (fun _ => rfl) (fun _ => wRo r ik tn j16 ++ (wA cI (r 1) 100 T15)) (fun _ => rfl) rfl hl.1 rfl (Nat.le_of_ble_eq_true rfl) dX5_sups_56 ⟨Nat.le_of_ble_eq_true rfl, Nat.le_of_ble_eq_true rfl⟩ (fun _ H locs _ hP hD hS => ?_)
    refine W.eq (g2 := F0 m 59 ls [.int (iI ((cx p 2 : Nat) : Int)), .ref (r 1)]) rfl ?_
    refine x_iconst hx hb dX5_sups_59 ?_
    refine x_bipush hx hb dX5_sups_60 (by decide) ?_
    refine lv_aload_n hx hb dX5_sups_62 rfl (lv_at hl 0 rfl) ?_
    refine lv_iload_n hx hb dX5_sups_63 rfl (lv_at hl 1 rfl) ?_
    refine x_iconst hx hb dX5_sups_64 ?_
    refine x_callV (As := [.int (iI ((p : Nat) : Int)), .int (iI 2)]) (rest := [.int (iI 99), .int (iI 0), .int (iI ((cx p 2 : Nat) : Int)), .ref (r 1)]) ⟨hx, hb, hml, hown, hts⟩ (kX5_its r ik tn j16 T15 p 2 (by omega) (by omega)) (cwV 2 hts gX5_sups_X5_its rfl rfl rfl ykVX5_its ⟨Nat.le_of_ble_eq_true rfl, Nat.le_of_ble_eq_true rfl⟩) hP hK hD hS 0 4 rfl rfl rfl [0, 1] rfl (by decide) (fun _ => rfl) (fun _ => wRo r ik tn j16 ++ (wA cI (r 1) 100 T15)) (fun _ => rfl) rfl hl.1 rfl (Nat.le_of_ble_eq_true rfl) dX5_sups_65 ⟨Nat.le_of_ble_eq_true rfl, Nat.le_of_ble_eq_true rfl⟩ (fun _ H locs _ hP hD hS => ?_)
    refine W.eq (g2 := F0 m 68 ls [.int (iI (T15 (cx p 2))), .int (iI 99), .int (iI 0), .int (iI ((cx p 2 : Nat) : Int)), .ref (r 1)]) rfl ?_
    refine lv_aload_n hx hb dX5_sups_68 rfl (lv_at hl 0 rfl) ?_
    refine va_get (D := D) (ci := 4) (v := .int (iI (j16 1))) (C := RX5) (T := TX5) (N := 18) hx hb hts (iT_X5_sups_X5) hown hK hP 0 rfl rfl 12 (by decide) (hts (.fieldLink RX5 110 "WordSupperModel" "swallowed" "I") (by decide +kernel)) (fun _ h9 => h9) rfl dX5_sups_69 ?_
    refine x_iconst hx hb dX5_sups_72 ?_
    refine x_idiv hx hb (by omega) (by omega) (by decide) (by decide) dX5_sups_73 ?_
    refine x_iadd hx hb dX5_sups_74 ?_
    refine x_callS (As := [.int (iI 99), .int (iI ((T15 (cx p 2)) + ((j16 1) / 4)))]) (rest := [.int (iI 0), .int (iI ((cx p 2 : Nat) : Int)), .ref (r 1)]) ⟨hx, hb, hml, hown, hts⟩ (kX5_least 99 ((T15 (cx p 2)) + ((j16 1) / 4)) (by omega) (by omega)) (va_cwS 2 hts gX5_sups_X5_least rfl rfl rfl ykSX5_least ⟨Nat.le_of_ble_eq_true rfl, Nat.le_of_ble_eq_true rfl⟩) hP hK hD hS [] rfl (by decide) (fun _ => rfl) (fun _ => wRo r ik tn j16 ++ (wA cI (r 1) 100 T15)) (fun _ => rfl) rfl hl.1 rfl (Nat.le_of_ble_eq_true rfl) dX5_sups_75 ⟨Nat.le_of_ble_eq_true rfl, Nat.le_of_ble_eq_true rfl⟩ (fun _ H locs _ hP hD hS => ?_)
    refine W.eq (g2 := F0 m 78 ls [.int (iI (min 99 ((T15 (cx p 2)) + ((j16 1) / 4)))), .int (iI 0), .int (iI ((cx p 2 : Nat) : Int)), .ref (r 1)]) rfl ?_
    refine x_iconst hx hb dX5_sups_78 ?_
    refine x_isub hx hb dX5_sups_79 ?_
    refine x_callS (As := [.int (iI 0), .int (iI ((min 99 ((T15 (cx p 2)) + ((j16 1) / 4))) - 2))]) (rest := [.int (iI ((cx p 2 : Nat) : Int)), .ref (r 1)]) ⟨hx, hb, hml, hown, hts⟩ (kX5_greatest 0 ((min 99 ((T15 (cx p 2)) + ((j16 1) / 4))) - 2) (by omega) (by omega)) (va_cwS 2 hts gX5_sups_X5_greatest rfl rfl rfl ykSX5_greatest ⟨Nat.le_of_ble_eq_true rfl, Nat.le_of_ble_eq_true rfl⟩) hP hK hD hS [] rfl (by decide) (fun _ => rfl) (fun _ => wRo r ik tn j16 ++ (wA cI (r 1) 100 T15)) (fun _ => rfl) rfl hl.1 rfl (Nat.le_of_ble_eq_true rfl) dX5_sups_80 ⟨Nat.le_of_ble_eq_true rfl, Nat.le_of_ble_eq_true rfl⟩ (fun _ H locs _ hP hD hS => ?_)
    refine W.eq (g2 := F0 m 83 ls [.int (iI (max 0 ((min 99 ((T15 (cx p 2)) + ((j16 1) / 4))) - 2))), .int (iI ((cx p 2 : Nat) : Int)), .ref (r 1)]) rfl ?_
    refine x_iast hx hb hK hP hD hS 1 0 rfl rfl (cx p 2) rfl (cx_lt1 (by omega) (by omega)) (by decide) (wRo r ik tn j16 ++ (wA cI (r 1) 100 (va_up T15 (cx p 2) (max 0 ((min 99 ((T15 (cx p 2)) + ((j16 1) / 4))) - 2))))) (by rw [← wA_up cI (r 1) 100 T15 (max 0 ((min 99 ((T15 (cx p 2)) + ((j16 1) / 4))) - 2)) (cx p 2) (cx_lt1 (by omega) (by omega))]; rfl) dX5_sups_83 (fun H locs hP hD hS => ?_)
    refine lv_aload_n hx hb dX5_sups_84 rfl (lv_at hl 0 rfl) ?_
    refine va_get (D := D) (ci := 4) (v := .ref (r 1)) (C := RX5) (T := TX5) (N := 18) hx hb hts (iT_X5_sups_X5) hown hK hP 0 rfl rfl 0 (by decide) (hts (.fieldLink RX5 7 "WordSupperModel" "s" "[I") (by decide +kernel)) (fun _ h9 => h9) rfl dX5_sups_85 ?_
    refine lv_iload_n hx hb dX5_sups_88 rfl (lv_at hl 1 rfl) ?_
    refine x_iconst hx hb dX5_sups_89 ?_
    refine x_callS (As := [.int (iI ((p : Nat) : Int)), .int (iI 3)]) (rest := [.ref (r 1)]) ⟨hx, hb, hml, hown, hts⟩ (kX5_at p 3 ) (va_cwS 2 hts gX5_sups_X5_at rfl rfl rfl ykSX5_at ⟨Nat.le_of_ble_eq_true rfl, Nat.le_of_ble_eq_true rfl⟩) hP hK hD hS [] rfl (by decide) (fun _ => rfl) (fun _ => wRo r ik tn j16 ++ (wA cI (r 1) 100 (va_up T15 (cx p 2) (max 0 ((min 99 ((T15 (cx p 2)) + ((j16 1) / 4))) - 2))))) (fun _ => rfl) rfl hl.1 rfl (Nat.le_of_ble_eq_true rfl) dX5_sups_90 ⟨Nat.le_of_ble_eq_true rfl, Nat.le_of_ble_eq_true rfl⟩ (fun _ H locs _ hP hD hS => ?_)
    refine W.eq (g2 := F0 m 93 ls [.int (iI ((cx p 3 : Nat) : Int)), .ref (r 1)]) rfl ?_
    refine x_ldc hx hb 99999 rfl hown (hts (.constant RX5 117 (99999)) (by decide +kernel)) dX5_sups_93 ?_
    refine lv_aload_n hx hb dX5_sups_95 rfl (lv_at hl 0 rfl) ?_
    refine lv_iload_n hx hb dX5_sups_96 rfl (lv_at hl 1 rfl) ?_
    refine x_iconst hx hb dX5_sups_97 ?_
    refine x_callV (As := [.int (iI ((p : Nat) : Int)), .int (iI 3)]) (rest := [.int (iI 99999), .int (iI ((cx p 3 : Nat) : Int)), .ref (r 1)]) ⟨hx, hb, hml, hown, hts⟩ (kX5_its r ik tn j16 (va_up T15 (cx p 2) (max 0 ((min 99 ((T15 (cx p 2)) + ((j16 1) / 4))) - 2))) p 3 (by omega) (by omega)) (cwV 2 hts gX5_sups_X5_its rfl rfl rfl ykVX5_its ⟨Nat.le_of_ble_eq_true rfl, Nat.le_of_ble_eq_true rfl⟩) hP hK hD hS 0 4 rfl rfl rfl [0, 1] rfl (by decide) (fun _ => rfl) (fun _ => wRo r ik tn j16 ++ (wA cI (r 1) 100 (va_up T15 (cx p 2) (max 0 ((min 99 ((T15 (cx p 2)) + ((j16 1) / 4))) - 2))))) (fun _ => rfl) rfl hl.1 rfl (Nat.le_of_ble_eq_true rfl) dX5_sups_98 ⟨Nat.le_of_ble_eq_true rfl, Nat.le_of_ble_eq_true rfl⟩ (fun _ H locs _ hP hD hS => ?_)
    refine W.eq (g2 := F0 m 101 ls [.int (iI ((va_up T15 (cx p 2) (max 0 ((min 99 ((T15 (cx p 2)) + ((j16 1) / 4))) - 2))) (cx p 3))), .int (iI 99999), .int (iI ((cx p 3 : Nat) : Int)), .ref (r 1)]) rfl ?_
    refine x_topi (T15 (cx p 3)) (up_cx _ _ (by omega) (by omega) (by omega)) ?_
    refine lv_aload_n hx hb dX5_sups_101 rfl (lv_at hl 0 rfl) ?_
    refine va_get (D := D) (ci := 4) (v := .int (iI (j16 1))) (C := RX5) (T := TX5) (N := 18) hx hb hts (iT_X5_sups_X5) hown hK hP 0 rfl rfl 12 (by decide) (hts (.fieldLink RX5 110 "WordSupperModel" "swallowed" "I") (by decide +kernel)) (fun _ h9 => h9) rfl dX5_sups_102 ?_
    refine x_iadd hx hb dX5_sups_105 ?_
    refine x_callS (As := [.int (iI 99999), .int (iI ((T15 (cx p 3)) + (j16 1)))]) (rest := [.int (iI ((cx p 3 : Nat) : Int)), .ref (r 1)]) ⟨hx, hb, hml, hown, hts⟩ (kX5_least 99999 ((T15 (cx p 3)) + (j16 1)) (by omega) (by omega)) (va_cwS 2 hts gX5_sups_X5_least rfl rfl rfl ykSX5_least ⟨Nat.le_of_ble_eq_true rfl, Nat.le_of_ble_eq_true rfl⟩) hP hK hD hS [] rfl (by decide) (fun _ => rfl) (fun _ => wRo r ik tn j16 ++ (wA cI (r 1) 100 (va_up T15 (cx p 2) (max 0 ((min 99 ((T15 (cx p 2)) + ((j16 1) / 4))) - 2))))) (fun _ => rfl) rfl hl.1 rfl (Nat.le_of_ble_eq_true rfl) dX5_sups_106 ⟨Nat.le_of_ble_eq_true rfl, Nat.le_of_ble_eq_true rfl⟩ (fun _ H locs _ hP hD hS => ?_)
    refine W.eq (g2 := F0 m 109 ls [.int (iI (min 99999 ((T15 (cx p 3)) + (j16 1)))), .int (iI ((cx p 3 : Nat) : Int)), .ref (r 1)]) rfl ?_
    refine x_iast hx hb hK hP hD hS 1 0 rfl rfl (cx p 3) rfl (cx_lt1 (by omega) (by omega)) (by decide) (wRo r ik tn j16 ++ (wA cI (r 1) 100 (va_up (va_up T15 (cx p 2) (max 0 ((min 99 ((T15 (cx p 2)) + ((j16 1) / 4))) - 2))) (cx p 3) (min 99999 ((T15 (cx p 3)) + (j16 1)))))) (by rw [← wA_up cI (r 1) 100 (va_up T15 (cx p 2) (max 0 ((min 99 ((T15 (cx p 2)) + ((j16 1) / 4))) - 2))) (min 99999 ((T15 (cx p 3)) + (j16 1))) (cx p 3) (cx_lt1 (by omega) (by omega))]; rfl) dX5_sups_109 (fun H locs hP hD hS => ?_)
    exact kend ((va_up (va_up T15 (cx p 2) (max 0 ((min 99 ((T15 (cx p 2)) + ((j16 1) / 4))) - 2))) (cx p 3) (min 99999 ((T15 (cx p 3)) + (j16 1)))), j16) hP hS rfl (by unfold spF spZ; rw [if_pos (show 0 ≤ T (cx p 1) by omega), ← g1, ← hp8]; unfold spE; rfl) dX5_sups_110
theorem ykSX5_dayBut : yX5_dayBut.cls ≠ "java/lang/invoke/MethodHandle" ∧ yX5_dayBut.cls ≠ "java/lang/invoke/VarHandle" ∧ (parseMethodDescriptor yX5_dayBut.desc).map (fun d => d.parameters.length) = some 1 := by decide +kernel
theorem ykVX5_dayBut : yX5_dayBut.cls = RX5 ∧ yX5_dayBut.cls ≠ "java/lang/invoke/MethodHandle" ∧ yX5_dayBut.cls ≠ "java/lang/invoke/VarHandle" ∧ (parseMethodDescriptor yX5_dayBut.desc).map (fun d => d.parameters.length) = some 1 := ⟨rfl, ykSX5_dayBut⟩
set_option maxRecDepth 20000 in
theorem iT_X5_dayBut_X5 : ∀ w ∈ u_ws RX5 TX5 18, w ∈ wsX5_dayBut := by decide +kernel
set_option maxHeartbeats 4000000 in
set_option maxRecDepth 100000 in
theorem kX5_dayBut {l : Launch} {D : va_G} {cI cB : ClassId} (r : Nat → Nat) (ik : Int) (tn : Int) (j : Nat → Int) (T : Tb) (md : Int) (B : Int) (hI : Inv B T) (hB : B ≤ 99998) (hm : rI md) : Ct l yX5_dayBut wsX5_dayBut 4 89 D [(cI, .int), (cB, .byte)] [.ref (r 0), .int (iI md)] (wRo r ik tn j ++ (wA cI (r 1) 100 T)) (S := Tb × (Nat → Int)) (fun u => none) (fun u => u.1 = dyF md T) (fun u => wRo r ik tn u.2 ++ (wA cI (r 1) 100 u.1)) := by
  refine CtV.of (cc := cX5_dayBut) (maxL := 3) (by decide +kernel) rfl (Nat.le_of_ble_eq_true rfl) ?_
  intro pg e s m args below meth c Q A hx hb hml hts hown hP hK hD hS ls hl kend
  have hown : s.vm.findClass RX5 = some m.cls := hown
  have hl : lv_has ls 3 [(0, .ref (r 0)), (1, .int (iI md))] := hl
  have hn := Inv_n hI
  refine x_iconst hx hb dX5_dayBut_0 ?_
  refine lv_istore_n (lv' := [(2, .int (iI 0)), (0, .ref (r 0)), (1, .int (iI md))]) hx hb dX5_dayBut_1 rfl hl (by decide) rfl (fun ls hl => ?_)
  have L2 : ∀ (k t : Nat) (Tt : Tb) (H : Heap) (locs : List Loc) (ls : Array Slot), t + k = (T 0).toNat → (run (dyA md) k t Tt = run (dyA md) (T 0).toNat 0 T) → (Inv B Tt) → (Tt 0 = T 0) → va_P D vwCl (wRo r ik tn j ++ (wA cI (r 1) 100 Tt)) H → va_D A (wRo r ik tn j ++ (wA cI (r 1) 100 Tt)) → va_S A s.heap H locs → lv_has ls 3 [(0, .ref (r 0)), (1, .int (iI md)), (2, .int (iI ((t : Nat) : Int)))] → W pg l e { frames := 4, cells := 0, slots := 0, locals := 89 } s m args below meth c H locs 0 0 Q (F0 m 2 ls []) := by
    intro k
    induction k with
    | zero =>
      intro t Tt H locs ls hkt hr hi h0 hP hD hS hl
      refine lv_iload_n hx hb dX5_dayBut_2 rfl (lv_at hl 2 rfl) ?_
      refine lv_aload_n hx hb dX5_dayBut_3 rfl (lv_at hl 0 rfl) ?_
      refine va_get (D := D) (ci := 4) (v := .ref (r 1)) (C := RX5) (T := TX5) (N := 18) hx hb hts (iT_X5_dayBut_X5) hown hK hP 0 rfl rfl 0 (by decide) (hts (.fieldLink RX5 7 "WordSupperModel" "s" "[I") (by decide +kernel)) (fun _ h9 => h9) rfl dX5_dayBut_4 ?_
      refine x_iconst hx hb dX5_dayBut_7 ?_
      refine x_iald hx hb hK hP 1 0 rfl rfl 0 rfl (by omega) (by decide) (Tt 0) (gd_at _ (by omega)) dX5_dayBut_8 ?_
      refine x_icmp_ge (tgt := 49) hx hb (by omega) (by omega) dX5_dayBut_9 (by decide) (fun c_9 => ?_) (fun c_9 => ?_)
      · refine x_iconst hx hb dX5_dayBut_49 ?_
        refine lv_istore_n (lv' := [(2, .int (iI 0)), (0, .ref (r 0)), (1, .int (iI md))]) hx hb dX5_dayBut_50 rfl hl (by decide) rfl (fun ls hl => ?_)
        have L51 : ∀ (k t : Nat) (Tu : Tb) (ju : Nat → Int) (H : Heap) (locs : List Loc) (ls : Array Slot), t + k = (T 0).toNat → (run spF k t Tu = run spF (T 0).toNat 0 (run (dyA md) (T 0).toNat 0 T)) → (Inv B Tu) → (Tu 0 = T 0) → va_P D vwCl (wRo r ik tn ju ++ (wA cI (r 1) 100 Tu)) H → va_D A (wRo r ik tn ju ++ (wA cI (r 1) 100 Tu)) → va_S A s.heap H locs → lv_has ls 3 [(0, .ref (r 0)), (1, .int (iI md)), (2, .int (iI ((t : Nat) : Int)))] → W pg l e { frames := 4, cells := 0, slots := 0, locals := 89 } s m args below meth c H locs 0 0 Q (F0 m 51 ls []) := by
          intro k
          induction k with
          | zero =>
            intro t Tu ju H locs ls hkt hs hj h2 hP hD hS hl
            refine lv_iload_n hx hb dX5_dayBut_51 rfl (lv_at hl 2 rfl) ?_
            refine lv_aload_n hx hb dX5_dayBut_52 rfl (lv_at hl 0 rfl) ?_
            refine va_get (D := D) (ci := 4) (v := .ref (r 1)) (C := RX5) (T := TX5) (N := 18) hx hb hts (iT_X5_dayBut_X5) hown hK hP 0 rfl rfl 0 (by decide) (hts (.fieldLink RX5 7 "WordSupperModel" "s" "[I") (by decide +kernel)) (fun _ h9 => h9) rfl dX5_dayBut_53 ?_
            refine x_iconst hx hb dX5_dayBut_56 ?_
            refine x_iald hx hb hK hP 1 0 rfl rfl 0 rfl (by omega) (by decide) (Tu 0) (gd_at _ (by omega)) dX5_dayBut_57 ?_
            refine x_icmp_ge (tgt := 72) hx hb (by omega) (by omega) dX5_dayBut_58 (by decide) (fun c_58 => ?_) (fun c_58 => ?_)
            · have hd := Inv_d hj
              refine lv_aload_n hx hb dX5_dayBut_72 rfl (lv_at hl 0 rfl) ?_
              refine va_get (D := D) (ci := 4) (v := .ref (r 1)) (C := RX5) (T := TX5) (N := 18) hx hb hts (iT_X5_dayBut_X5) hown hK hP 0 rfl rfl 0 (by decide) (hts (.fieldLink RX5 7 "WordSupperModel" "s" "[I") (by decide +kernel)) (fun _ h9 => h9) rfl dX5_dayBut_73 ?_
              refine x_iconst hx hb dX5_dayBut_76 ?_
              refine lv_dup2_11 hx hb dX5_dayBut_77 rfl rfl ?_
              refine x_iald hx hb hK hP 1 0 rfl rfl 1 rfl (by omega) (by decide) (Tu 1) (gd_at _ (by omega)) dX5_dayBut_78 ?_
              refine x_iconst hx hb dX5_dayBut_79 ?_
              refine x_iadd hx hb dX5_dayBut_80 ?_
              refine x_iast hx hb hK hP hD hS 1 0 rfl rfl 1 rfl (by omega) (by decide) (wRo r ik tn ju ++ (wA cI (r 1) 100 (va_up Tu 1 ((Tu 1) + 1)))) (by rw [← wA_up cI (r 1) 100 Tu ((Tu 1) + 1) 1 (by omega)]; rfl) dX5_dayBut_81 (fun H locs hP hD hS => ?_)
              exact kend ((va_up Tu 1 ((Tu 1) + 1)), ju) hP hS rfl (by unfold dyF; dsimp only; rw [← hs]; rfl) dX5_dayBut_82
            · exfalso; omega
          | succ k ih =>
            intro t Tu ju H locs ls hkt hs hj h2 hP hD hS hl
            refine lv_iload_n hx hb dX5_dayBut_51 rfl (lv_at hl 2 rfl) ?_
            refine lv_aload_n hx hb dX5_dayBut_52 rfl (lv_at hl 0 rfl) ?_
            refine va_get (D := D) (ci := 4) (v := .ref (r 1)) (C := RX5) (T := TX5) (N := 18) hx hb hts (iT_X5_dayBut_X5) hown hK hP 0 rfl rfl 0 (by decide) (hts (.fieldLink RX5 7 "WordSupperModel" "s" "[I") (by decide +kernel)) (fun _ h9 => h9) rfl dX5_dayBut_53 ?_
            refine x_iconst hx hb dX5_dayBut_56 ?_
            refine x_iald hx hb hK hP 1 0 rfl rfl 0 rfl (by omega) (by decide) (Tu 0) (gd_at _ (by omega)) dX5_dayBut_57 ?_
            refine x_icmp_ge (tgt := 72) hx hb (by omega) (by omega) dX5_dayBut_58 (by decide) (fun c_58 => ?_) (fun c_58 => ?_)
            · exfalso; omega
            · refine lv_aload_n hx hb dX5_dayBut_61 rfl (lv_at hl 0 rfl) ?_
              refine lv_iload_n hx hb dX5_dayBut_62 rfl (lv_at hl 2 rfl) ?_
              refine x_callV (As := [.int (iI ((t : Nat) : Int))]) (rest := []) ⟨hx, hb, hml, hown, hts⟩ (kX5_sups r ik tn ju Tu t B hj (by omega)) (cwV 1 hts gX5_dayBut_X5_sups rfl rfl rfl ykVX5_sups ⟨Nat.le_of_ble_eq_true rfl, Nat.le_of_ble_eq_true rfl⟩) hP hK hD hS 0 4 rfl rfl rfl [0, 1] rfl (by decide) (fun _ => rfl) (fun u => wRo r ik tn u.2 ++ (wA cI (r 1) 100 u.1)) (fun _ => rfl) rfl hl.1 rfl (Nat.le_of_ble_eq_true rfl) dX5_dayBut_63 ⟨Nat.le_of_ble_eq_true rfl, Nat.le_of_ble_eq_true rfl⟩ (fun u3 H locs hp4 hP hD hS => ?_)
              obtain ⟨T11, j12⟩ := u3
              replace hp4 : T11 = spF t Tu := hp4
              have hP : va_P D vwCl (wRo r ik tn j12 ++ (wA cI (r 1) 100 T11)) H := hP
              have hD : va_D A (wRo r ik tn j12 ++ (wA cI (r 1) 100 T11)) := hD
              refine W.eq (g2 := F0 m 66 ls []) rfl ?_
              refine x_iinc hx hb 2 ((t + 1 : Nat) : Int) (by omega) [(2, .int (iI ((t + 1 : Nat) : Int))), (0, .ref (r 0)), (1, .int (iI md))] dX5_dayBut_66 hl rfl (by decide) rfl (fun ls hl => ?_)
              refine lv_goto (tgt := 51) hx hb dX5_dayBut_69 (by decide) ?_
              exact ih (t + 1) T11 j12 _ _ _ (by omega) (run_step hs hp4.symm) (by rw [hp4]; exact (spF_I hj (by omega)).1) (by rw [hp4, (spF_I hj (by omega)).2 0 (by omega)]; exact h2) hP hD hS (lv_sub hl [1, 2, 0] rfl)
        exact L51 ((T 0).toNat) 0 Tt j _ _ _ (by omega) (by rw [← hr]; rfl) hi h0 hP hD hS (lv_sub hl [1, 2, 0] rfl)
      · exfalso; omega
    | succ k ih =>
      intro t Tt H locs ls hkt hr hi h0 hP hD hS hl
      refine lv_iload_n hx hb dX5_dayBut_2 rfl (lv_at hl 2 rfl) ?_
      refine lv_aload_n hx hb dX5_dayBut_3 rfl (lv_at hl 0 rfl) ?_
      refine va_get (D := D) (ci := 4) (v := .ref (r 1)) (C := RX5) (T := TX5) (N := 18) hx hb hts (iT_X5_dayBut_X5) hown hK hP 0 rfl rfl 0 (by decide) (hts (.fieldLink RX5 7 "WordSupperModel" "s" "[I") (by decide +kernel)) (fun _ h9 => h9) rfl dX5_dayBut_4 ?_
      refine x_iconst hx hb dX5_dayBut_7 ?_
      refine x_iald hx hb hK hP 1 0 rfl rfl 0 rfl (by omega) (by decide) (Tt 0) (gd_at _ (by omega)) dX5_dayBut_8 ?_
      refine x_icmp_ge (tgt := 49) hx hb (by omega) (by omega) dX5_dayBut_9 (by decide) (fun c_9 => ?_) (fun c_9 => ?_)
      · exfalso; omega
      · refine lv_iload_n hx hb dX5_dayBut_12 rfl (lv_at hl 1 rfl) ?_
        refine lv_iload_n hx hb dX5_dayBut_13 rfl (lv_at hl 2 rfl) ?_
        refine x_ishr hx hb dX5_dayBut_14 ?_
        refine x_iconst hx hb dX5_dayBut_15 ?_
        refine x_iand hx hb dX5_dayBut_16 ?_
        refine x_if_ne (tgt := 43) hx hb (andI_r _ _) dX5_dayBut_17 (by decide) (fun c_17 => ?_) (fun c_17 => ?_)
        · refine x_iinc hx hb 2 ((t + 1 : Nat) : Int) (by omega) [(2, .int (iI ((t + 1 : Nat) : Int))), (0, .ref (r 0)), (1, .int (iI md))] dX5_dayBut_43 hl rfl (by decide) rfl (fun ls hl => ?_)
          refine lv_goto (tgt := 2) hx hb dX5_dayBut_46 (by decide) ?_
          exact ih (t + 1) Tt _ _ _ (by omega) (run_step hr (show dyA md t Tt = Tt by unfold dyA; rw [if_neg c_17])) hi h0 hP hD hS (lv_sub hl [1, 2, 0] rfl)
        · have hd := Inv_d hi
          refine lv_aload_n hx hb dX5_dayBut_20 rfl (lv_at hl 0 rfl) ?_
          refine lv_iload_n hx hb dX5_dayBut_21 rfl (lv_at hl 2 rfl) ?_
          refine lv_iload_n hx hb dX5_dayBut_22 rfl (lv_at hl 2 rfl) ?_
          refine lv_aload_n hx hb dX5_dayBut_23 rfl (lv_at hl 0 rfl) ?_
          refine va_get (D := D) (ci := 4) (v := .ref (r 1)) (C := RX5) (T := TX5) (N := 18) hx hb hts (iT_X5_dayBut_X5) hown hK hP 0 rfl rfl 0 (by decide) (hts (.fieldLink RX5 7 "WordSupperModel" "s" "[I") (by decide +kernel)) (fun _ h9 => h9) rfl dX5_dayBut_24 ?_
          refine x_iconst hx hb dX5_dayBut_27 ?_
          refine x_iald hx hb hK hP 1 0 rfl rfl 1 rfl (by omega) (by decide) (Tt 1) (gd_at _ (by omega)) dX5_dayBut_28 ?_
          refine x_bipush hx hb dX5_dayBut_29 (by decide) ?_
          refine x_irem hx hb (by omega) (by omega) (by decide) (by decide) dX5_dayBut_31 ?_
          refine x_icmp_ne (tgt := 39) hx hb (by omega) (by omega) dX5_dayBut_32 (by decide) (fun c_32 => ?_) (fun c_32 => ?_)
          · refine x_iconst hx hb dX5_dayBut_39 ?_
            refine x_callV (As := [.int (iI ((t : Nat) : Int)), .int (iI 0)]) (rest := []) ⟨hx, hb, hml, hown, hts⟩ (kX5_says r ik tn j Tt t 0 B hi (by omega) (by omega) (by omega)) (cwV 2 hts gX5_dayBut_X5_says rfl rfl rfl ykVX5_says ⟨Nat.le_of_ble_eq_true rfl, Nat.le_of_ble_eq_true rfl⟩) hP hK hD hS 0 4 rfl rfl rfl [0, 1] rfl (by decide) (fun _ => rfl) (fun u => wRo r ik tn j ++ (wA cI (r 1) 100 u)) (fun _ => rfl) rfl hl.1 rfl (Nat.le_of_ble_eq_true rfl) dX5_dayBut_40 ⟨Nat.le_of_ble_eq_true rfl, Nat.le_of_ble_eq_true rfl⟩ (fun u6 H locs hp7 hP hD hS => ?_)
            obtain ⟨T15, rfl⟩ : ∃ z, z = u6 := ⟨_, rfl⟩
            replace hp7 : T15 = syF (decide (0 ≠ 0)) t Tt := hp7
            have hP : va_P D vwCl (wRo r ik tn j ++ (wA cI (r 1) 100 T15)) H := hP
            have hD : va_D A (wRo r ik tn j ++ (wA cI (r 1) 100 T15)) := hD
            refine W.eq (g2 := F0 m 43 ls []) rfl ?_
            have e_sy : T15 = syF (decide (Tt 1 % 8 = ((t : Nat) : Int))) t Tt := by
              rw [hp7]; congr 1; exact (decide_eq_false (by omega)).symm
            refine x_iinc hx hb 2 ((t + 1 : Nat) : Int) (by omega) [(2, .int (iI ((t + 1 : Nat) : Int))), (0, .ref (r 0)), (1, .int (iI md))] dX5_dayBut_43 hl rfl (by decide) rfl (fun ls hl => ?_)
            refine lv_goto (tgt := 2) hx hb dX5_dayBut_46 (by decide) ?_
            exact ih (t + 1) T15 _ _ _ (by omega) (run_step hr (by unfold dyA; rw [if_pos c_17, e_sy])) (by rw [e_sy]; exact (syF_inv hi (by omega)).1) (by rw [e_sy, (syF_inv hi (by omega)).2.1]; exact h0) hP hD hS (lv_sub hl [1, 2, 0] rfl)
          · refine x_iconst hx hb dX5_dayBut_35 ?_
            refine lv_goto (tgt := 40) hx hb dX5_dayBut_36 (by decide) ?_
            refine x_callV (As := [.int (iI ((t : Nat) : Int)), .int (iI 1)]) (rest := []) ⟨hx, hb, hml, hown, hts⟩ (kX5_says r ik tn j Tt t 1 B hi (by omega) (by omega) (by omega)) (cwV 2 hts gX5_dayBut_X5_says rfl rfl rfl ykVX5_says ⟨Nat.le_of_ble_eq_true rfl, Nat.le_of_ble_eq_true rfl⟩) hP hK hD hS 0 4 rfl rfl rfl [0, 1] rfl (by decide) (fun _ => rfl) (fun u => wRo r ik tn j ++ (wA cI (r 1) 100 u)) (fun _ => rfl) rfl hl.1 rfl (Nat.le_of_ble_eq_true rfl) dX5_dayBut_40 ⟨Nat.le_of_ble_eq_true rfl, Nat.le_of_ble_eq_true rfl⟩ (fun u9 H locs hp10 hP hD hS => ?_)
            obtain ⟨T18, rfl⟩ : ∃ z, z = u9 := ⟨_, rfl⟩
            replace hp10 : T18 = syF (decide (1 ≠ 0)) t Tt := hp10
            have hP : va_P D vwCl (wRo r ik tn j ++ (wA cI (r 1) 100 T18)) H := hP
            have hD : va_D A (wRo r ik tn j ++ (wA cI (r 1) 100 T18)) := hD
            refine W.eq (g2 := F0 m 43 ls []) rfl ?_
            have e_sy : T18 = syF (decide (Tt 1 % 8 = ((t : Nat) : Int))) t Tt := by
              rw [hp10]; congr 1; exact (decide_eq_true (by omega)).symm
            refine x_iinc hx hb 2 ((t + 1 : Nat) : Int) (by omega) [(2, .int (iI ((t + 1 : Nat) : Int))), (0, .ref (r 0)), (1, .int (iI md))] dX5_dayBut_43 hl rfl (by decide) rfl (fun ls hl => ?_)
            refine lv_goto (tgt := 2) hx hb dX5_dayBut_46 (by decide) ?_
            exact ih (t + 1) T18 _ _ _ (by omega) (run_step hr (by unfold dyA; rw [if_pos c_17, e_sy])) (by rw [e_sy]; exact (syF_inv hi (by omega)).1) (by rw [e_sy, (syF_inv hi (by omega)).2.1]; exact h0) hP hD hS (lv_sub hl [1, 2, 0] rfl)
  exact L2 ((T 0).toNat) 0 T _ _ _ (by omega) rfl hI rfl hP hD hS (lv_sub hl [1, 2, 0] rfl)
theorem ykSX5_goes : yX5_goes.cls ≠ "java/lang/invoke/MethodHandle" ∧ yX5_goes.cls ≠ "java/lang/invoke/VarHandle" ∧ (parseMethodDescriptor yX5_goes.desc).map (fun d => d.parameters.length) = some 1 := by decide +kernel
theorem ykVX5_goes : yX5_goes.cls = RX5 ∧ yX5_goes.cls ≠ "java/lang/invoke/MethodHandle" ∧ yX5_goes.cls ≠ "java/lang/invoke/VarHandle" ∧ (parseMethodDescriptor yX5_goes.desc).map (fun d => d.parameters.length) = some 1 := ⟨rfl, ykSX5_goes⟩
set_option maxHeartbeats 4000000 in
set_option maxRecDepth 100000 in
theorem kX5_goes {l : Launch} {D : va_G} {cI cB : ClassId} (r : Nat → Nat) (ik : Int) (tn : Int) (j : Nat → Int) (T : Tb) (n : Nat) (B : Int) (hI : Inv B T) (hnn : n ≤ 1000) (hB : B + n ≤ 99999) : Ct l yX5_goes wsX5_goes 5 111 D [(cI, .int), (cB, .byte)] [.ref (r 0), .int (iI ((n : Nat) : Int))] (wRo r ik tn j ++ (wA cI (r 1) 100 T)) (S := Tb × (Nat → Int)) (fun u => none) (fun u => u.1 = dsF 0 n T) (fun u => wRo r ik tn u.2 ++ (wA cI (r 1) 100 u.1)) := by
  refine CtV.of (cc := cX5_goes) (maxL := 3) (by decide +kernel) rfl (Nat.le_of_ble_eq_true rfl) ?_
  intro pg e s m args below meth c Q A hx hb hml hts hown hP hK hD hS ls hl kend
  have hown : s.vm.findClass RX5 = some m.cls := hown
  have hl : lv_has ls 3 [(0, .ref (r 0)), (1, .int (iI ((n : Nat) : Int)))] := hl
  refine x_iconst hx hb dX5_goes_0 ?_
  refine lv_istore_n (lv' := [(2, .int (iI 0)), (0, .ref (r 0)), (1, .int (iI ((n : Nat) : Int)))]) hx hb dX5_goes_1 rfl hl (by decide) rfl (fun ls hl => ?_)
  have L2 : ∀ (k t : Nat) (Tt : Tb) (jt : Nat → Int) (H : Heap) (locs : List Loc) (ls : Array Slot), t + k = n → (run (fun _ => dyF 0) k t Tt = dsF 0 n T) → (Inv (B + (t : Int)) Tt) → va_P D vwCl (wRo r ik tn jt ++ (wA cI (r 1) 100 Tt)) H → va_D A (wRo r ik tn jt ++ (wA cI (r 1) 100 Tt)) → va_S A s.heap H locs → lv_has ls 3 [(0, .ref (r 0)), (1, .int (iI ((n : Nat) : Int))), (2, .int (iI ((t : Nat) : Int)))] → W pg l e { frames := 5, cells := 0, slots := 0, locals := 111 } s m args below meth c H locs 0 0 Q (F0 m 2 ls []) := by
    intro k
    induction k with
    | zero =>
      intro t Tt jt H locs ls hkt hr hi hP hD hS hl
      refine lv_iload_n hx hb dX5_goes_2 rfl (lv_at hl 2 rfl) ?_
      refine lv_iload_n hx hb dX5_goes_3 rfl (lv_at hl 1 rfl) ?_
      refine x_icmp_ge (tgt := 18) hx hb (by omega) (by omega) dX5_goes_4 (by decide) (fun c_4 => ?_) (fun c_4 => ?_)
      · exact kend (Tt, jt) hP hS rfl hr dX5_goes_18
      · exfalso; omega
    | succ k ih =>
      intro t Tt jt H locs ls hkt hr hi hP hD hS hl
      refine lv_iload_n hx hb dX5_goes_2 rfl (lv_at hl 2 rfl) ?_
      refine lv_iload_n hx hb dX5_goes_3 rfl (lv_at hl 1 rfl) ?_
      refine x_icmp_ge (tgt := 18) hx hb (by omega) (by omega) dX5_goes_4 (by decide) (fun c_4 => ?_) (fun c_4 => ?_)
      · exfalso; omega
      · refine lv_aload_n hx hb dX5_goes_7 rfl (lv_at hl 0 rfl) ?_
        refine x_iconst hx hb dX5_goes_8 ?_
        refine x_callV (As := [.int (iI 0)]) (rest := []) ⟨hx, hb, hml, hown, hts⟩ (kX5_dayBut r ik tn jt Tt 0 (B + (t : Int)) hi (by omega) (by decide)) (cwV 1 hts gX5_goes_X5_dayBut rfl rfl rfl ykVX5_dayBut ⟨Nat.le_of_ble_eq_true rfl, Nat.le_of_ble_eq_true rfl⟩) hP hK hD hS 0 4 rfl rfl rfl [0, 1] rfl (by decide) (fun _ => rfl) (fun u => wRo r ik tn u.2 ++ (wA cI (r 1) 100 u.1)) (fun _ => rfl) rfl hl.1 rfl (Nat.le_of_ble_eq_true rfl) dX5_goes_9 ⟨Nat.le_of_ble_eq_true rfl, Nat.le_of_ble_eq_true rfl⟩ (fun u3 H locs hp4 hP hD hS => ?_)
        obtain ⟨T11, j12⟩ := u3
        replace hp4 : T11 = dyF 0 Tt := hp4
        have hP : va_P D vwCl (wRo r ik tn j12 ++ (wA cI (r 1) 100 T11)) H := hP
        have hD : va_D A (wRo r ik tn j12 ++ (wA cI (r 1) 100 T11)) := hD
        refine W.eq (g2 := F0 m 12 ls []) rfl ?_
        refine x_iinc hx hb 2 ((t + 1 : Nat) : Int) (by omega) [(2, .int (iI ((t + 1 : Nat) : Int))), (0, .ref (r 0)), (1, .int (iI ((n : Nat) : Int)))] dX5_goes_12 hl rfl (by decide) rfl (fun ls hl => ?_)
        refine lv_goto (tgt := 2) hx hb dX5_goes_15 (by decide) ?_
        exact ih (t + 1) T11 j12 _ _ _ (by omega) (run_step hr hp4.symm) (by rw [hp4, show B + ((t + 1 : Nat) : Int) = B + (t : Int) + 1 by omega]; exact (dyF_I hi).1) hP hD hS (lv_sub hl [1, 2, 0] rfl)
  exact L2 n 0 T j _ _ _ (by omega) rfl (by simpa using hI) hP hD hS (lv_sub hl [1, 2, 0] rfl)
theorem ykSX5_leftAll : yX5_leftAll.cls ≠ "java/lang/invoke/MethodHandle" ∧ yX5_leftAll.cls ≠ "java/lang/invoke/VarHandle" ∧ (parseMethodDescriptor yX5_leftAll.desc).map (fun d => d.parameters.length) = some 0 := by decide +kernel
theorem ykVX5_leftAll : yX5_leftAll.cls = RX5 ∧ yX5_leftAll.cls ≠ "java/lang/invoke/MethodHandle" ∧ yX5_leftAll.cls ≠ "java/lang/invoke/VarHandle" ∧ (parseMethodDescriptor yX5_leftAll.desc).map (fun d => d.parameters.length) = some 0 := ⟨rfl, ykSX5_leftAll⟩
set_option maxRecDepth 20000 in
theorem iT_X5_leftAll_X5 : ∀ w ∈ u_ws RX5 TX5 18, w ∈ wsX5_leftAll := by decide +kernel
set_option maxHeartbeats 4000000 in
set_option maxRecDepth 100000 in
theorem kX5_leftAll {l : Launch} {D : va_G} {cI cB : ClassId} (r : Nat → Nat) (ik : Int) (tn : Int) (j : Nat → Int) (T : Tb) (hn : 0 ≤ T 0 ∧ T 0 ≤ 8) : Ct l yX5_leftAll wsX5_leftAll 2 45 D [(cI, .int), (cB, .byte)] [.ref (r 0)] (wRo r ik tn j ++ (wA cI (r 1) 100 T)) (S := Unit) (fun _ => some (.int (iI (alF T)))) (fun _ => True) (fun _ => wRo r ik tn j ++ (wA cI (r 1) 100 T)) := by
  refine CtI.of (cc := cX5_leftAll) (maxL := 3) (by decide +kernel) rfl (Nat.le_of_ble_eq_true rfl) ?_
  intro pg e s m args below meth c Q A hx hb hml hts hown hP hK hD hS ls hl kend
  have hown : s.vm.findClass RX5 = some m.cls := hown
  have hl : lv_has ls 3 [(0, .ref (r 0))] := hl
  refine x_iconst hx hb dX5_leftAll_0 ?_
  refine lv_istore_n (lv' := [(1, .int (iI 0)), (0, .ref (r 0))]) hx hb dX5_leftAll_1 rfl hl (by decide) rfl (fun ls hl => ?_)
  refine x_iconst hx hb dX5_leftAll_2 ?_
  refine lv_istore_n (lv' := [(2, .int (iI 0)), (1, .int (iI 0)), (0, .ref (r 0))]) hx hb dX5_leftAll_3 rfl hl (by decide) rfl (fun ls hl => ?_)
  have L4 : ∀ (k t : Nat) (sv : Int) (H : Heap) (locs : List Loc) (ls : Array Slot), t + k = (T 0).toNat → (run (fun (p : Nat) (s : Int) => s + lfF T p) k t sv = alF T) → va_P D vwCl (wRo r ik tn j ++ (wA cI (r 1) 100 T)) H → va_D A (wRo r ik tn j ++ (wA cI (r 1) 100 T)) → va_S A s.heap H locs → lv_has ls 3 [(0, .ref (r 0)), (1, .int (iI sv)), (2, .int (iI ((t : Nat) : Int)))] → W pg l e { frames := 2, cells := 0, slots := 0, locals := 45 } s m args below meth c H locs 0 0 Q (F0 m 4 ls []) := by
    intro k
    induction k with
    | zero =>
      intro t sv H locs ls hkt hr hP hD hS hl
      refine lv_iload_n hx hb dX5_leftAll_4 rfl (lv_at hl 2 rfl) ?_
      refine lv_aload_n hx hb dX5_leftAll_5 rfl (lv_at hl 0 rfl) ?_
      refine va_get (D := D) (ci := 4) (v := .ref (r 1)) (C := RX5) (T := TX5) (N := 18) hx hb hts (iT_X5_leftAll_X5) hown hK hP 0 rfl rfl 0 (by decide) (hts (.fieldLink RX5 7 "WordSupperModel" "s" "[I") (by decide +kernel)) (fun _ h9 => h9) rfl dX5_leftAll_6 ?_
      refine x_iconst hx hb dX5_leftAll_9 ?_
      refine x_iald hx hb hK hP 1 0 rfl rfl 0 rfl (by omega) (by decide) (T 0) (gd_at _ (by omega)) dX5_leftAll_10 ?_
      refine x_icmp_ge (tgt := 28) hx hb (by omega) (by omega) dX5_leftAll_11 (by decide) (fun c_11 => ?_) (fun c_11 => ?_)
      · refine lv_iload_n hx hb dX5_leftAll_28 rfl (lv_at hl 1 rfl) ?_
        exact kend () hP hS (an_i (hr)) trivial dX5_leftAll_29
      · exfalso; omega
    | succ k ih =>
      intro t sv H locs ls hkt hr hP hD hS hl
      refine lv_iload_n hx hb dX5_leftAll_4 rfl (lv_at hl 2 rfl) ?_
      refine lv_aload_n hx hb dX5_leftAll_5 rfl (lv_at hl 0 rfl) ?_
      refine va_get (D := D) (ci := 4) (v := .ref (r 1)) (C := RX5) (T := TX5) (N := 18) hx hb hts (iT_X5_leftAll_X5) hown hK hP 0 rfl rfl 0 (by decide) (hts (.fieldLink RX5 7 "WordSupperModel" "s" "[I") (by decide +kernel)) (fun _ h9 => h9) rfl dX5_leftAll_6 ?_
      refine x_iconst hx hb dX5_leftAll_9 ?_
      refine x_iald hx hb hK hP 1 0 rfl rfl 0 rfl (by omega) (by decide) (T 0) (gd_at _ (by omega)) dX5_leftAll_10 ?_
      refine x_icmp_ge (tgt := 28) hx hb (by omega) (by omega) dX5_leftAll_11 (by decide) (fun c_11 => ?_) (fun c_11 => ?_)
      · exfalso; omega
      · refine lv_iload_n hx hb dX5_leftAll_14 rfl (lv_at hl 1 rfl) ?_
        refine lv_aload_n hx hb dX5_leftAll_15 rfl (lv_at hl 0 rfl) ?_
        refine lv_iload_n hx hb dX5_leftAll_16 rfl (lv_at hl 2 rfl) ?_
        refine x_callV (As := [.int (iI ((t : Nat) : Int))]) (rest := [.int (iI sv)]) ⟨hx, hb, hml, hown, hts⟩ (kX5_left r ik tn j T t (by omega)) (cwV 1 hts gX5_leftAll_X5_left rfl rfl rfl ykVX5_left ⟨Nat.le_of_ble_eq_true rfl, Nat.le_of_ble_eq_true rfl⟩) hP hK hD hS 0 4 rfl rfl rfl [0, 1] rfl (by decide) (fun _ => rfl) (fun _ => wRo r ik tn j ++ (wA cI (r 1) 100 T)) (fun _ => rfl) rfl hl.1 rfl (Nat.le_of_ble_eq_true rfl) dX5_leftAll_17 ⟨Nat.le_of_ble_eq_true rfl, Nat.le_of_ble_eq_true rfl⟩ (fun _ H locs _ hP hD hS => ?_)
        refine W.eq (g2 := F0 m 20 ls [.int (iI (lfF T t)), .int (iI sv)]) rfl ?_
        refine x_iadd hx hb dX5_leftAll_20 ?_
        refine lv_istore_n (lv' := [(1, .int (iI (sv + (lfF T t)))), (0, .ref (r 0)), (2, .int (iI ((t : Nat) : Int)))]) hx hb dX5_leftAll_21 rfl hl (by decide) rfl (fun ls hl => ?_)
        refine x_iinc hx hb 2 ((t + 1 : Nat) : Int) (by omega) [(2, .int (iI ((t + 1 : Nat) : Int))), (1, .int (iI (sv + (lfF T t)))), (0, .ref (r 0))] dX5_leftAll_22 hl rfl (by decide) rfl (fun ls hl => ?_)
        refine lv_goto (tgt := 4) hx hb dX5_leftAll_25 (by decide) ?_
        exact ih (t + 1) (sv + (lfF T t)) _ _ _ (by omega) hr hP hD hS (lv_sub hl [2, 1, 0] rfl)
  exact L4 ((T 0).toNat) 0 0 _ _ _ (by omega) rfl hP hD hS (lv_sub hl [2, 1, 0] rfl)
theorem ykSX5_sumOf : yX5_sumOf.cls ≠ "java/lang/invoke/MethodHandle" ∧ yX5_sumOf.cls ≠ "java/lang/invoke/VarHandle" ∧ (parseMethodDescriptor yX5_sumOf.desc).map (fun d => d.parameters.length) = some 1 := by decide +kernel
theorem ykVX5_sumOf : yX5_sumOf.cls = RX5 ∧ yX5_sumOf.cls ≠ "java/lang/invoke/MethodHandle" ∧ yX5_sumOf.cls ≠ "java/lang/invoke/VarHandle" ∧ (parseMethodDescriptor yX5_sumOf.desc).map (fun d => d.parameters.length) = some 1 := ⟨rfl, ykSX5_sumOf⟩
set_option maxRecDepth 20000 in
theorem iT_X5_sumOf_X5 : ∀ w ∈ u_ws RX5 TX5 18, w ∈ wsX5_sumOf := by decide +kernel
set_option maxHeartbeats 4000000 in
set_option maxRecDepth 100000 in
theorem kX5_sumOf {l : Launch} {D : va_G} {cI cB : ClassId} (r : Nat → Nat) (ik : Int) (tn : Int) (j : Nat → Int) (T : Tb) (wh : Nat) (hw : wh < 10) (hn : 0 ≤ T 0 ∧ T 0 ≤ 8) : Ct l yX5_sumOf wsX5_sumOf 1 22 D [(cI, .int), (cB, .byte)] [.ref (r 0), .int (iI ((wh : Nat) : Int))] (wRo r ik tn j ++ (wA cI (r 1) 100 T)) (S := Unit) (fun _ => some (.int (iI (smF T wh)))) (fun _ => True) (fun _ => wRo r ik tn j ++ (wA cI (r 1) 100 T)) := by
  refine CtI.of (cc := cX5_sumOf) (maxL := 4) (by decide +kernel) rfl (Nat.le_of_ble_eq_true rfl) ?_
  intro pg e s m args below meth c Q A hx hb hml hts hown hP hK hD hS ls hl kend
  have hown : s.vm.findClass RX5 = some m.cls := hown
  have hl : lv_has ls 4 [(0, .ref (r 0)), (1, .int (iI ((wh : Nat) : Int)))] := hl
  refine x_iconst hx hb dX5_sumOf_0 ?_
  refine lv_istore_n (lv' := [(2, .int (iI 0)), (0, .ref (r 0)), (1, .int (iI ((wh : Nat) : Int)))]) hx hb dX5_sumOf_1 rfl hl (by decide) rfl (fun ls hl => ?_)
  refine x_iconst hx hb dX5_sumOf_2 ?_
  refine lv_istore_n (lv' := [(3, .int (iI 0)), (2, .int (iI 0)), (0, .ref (r 0)), (1, .int (iI ((wh : Nat) : Int)))]) hx hb dX5_sumOf_3 rfl hl (by decide) rfl (fun ls hl => ?_)
  have L4 : ∀ (k t : Nat) (sv : Int) (H : Heap) (locs : List Loc) (ls : Array Slot), t + k = (T 0).toNat → (run (fun (p : Nat) (s : Int) => s + T (cx p wh)) k t sv = smF T wh) → va_P D vwCl (wRo r ik tn j ++ (wA cI (r 1) 100 T)) H → va_D A (wRo r ik tn j ++ (wA cI (r 1) 100 T)) → va_S A s.heap H locs → lv_has ls 4 [(0, .ref (r 0)), (1, .int (iI ((wh : Nat) : Int))), (2, .int (iI sv)), (3, .int (iI ((t : Nat) : Int)))] → W pg l e { frames := 1, cells := 0, slots := 0, locals := 22 } s m args below meth c H locs 0 0 Q (F0 m 4 ls []) := by
    intro k
    induction k with
    | zero =>
      intro t sv H locs ls hkt hr hP hD hS hl
      refine lv_iload_n hx hb dX5_sumOf_4 rfl (lv_at hl 3 rfl) ?_
      refine lv_aload_n hx hb dX5_sumOf_5 rfl (lv_at hl 0 rfl) ?_
      refine va_get (D := D) (ci := 4) (v := .ref (r 1)) (C := RX5) (T := TX5) (N := 18) hx hb hts (iT_X5_sumOf_X5) hown hK hP 0 rfl rfl 0 (by decide) (hts (.fieldLink RX5 7 "WordSupperModel" "s" "[I") (by decide +kernel)) (fun _ h9 => h9) rfl dX5_sumOf_6 ?_
      refine x_iconst hx hb dX5_sumOf_9 ?_
      refine x_iald hx hb hK hP 1 0 rfl rfl 0 rfl (by omega) (by decide) (T 0) (gd_at _ (by omega)) dX5_sumOf_10 ?_
      refine x_icmp_ge (tgt := 29) hx hb (by omega) (by omega) dX5_sumOf_11 (by decide) (fun c_11 => ?_) (fun c_11 => ?_)
      · refine lv_iload_n hx hb dX5_sumOf_29 rfl (lv_at hl 2 rfl) ?_
        exact kend () hP hS (an_i (hr)) trivial dX5_sumOf_30
      · exfalso; omega
    | succ k ih =>
      intro t sv H locs ls hkt hr hP hD hS hl
      refine lv_iload_n hx hb dX5_sumOf_4 rfl (lv_at hl 3 rfl) ?_
      refine lv_aload_n hx hb dX5_sumOf_5 rfl (lv_at hl 0 rfl) ?_
      refine va_get (D := D) (ci := 4) (v := .ref (r 1)) (C := RX5) (T := TX5) (N := 18) hx hb hts (iT_X5_sumOf_X5) hown hK hP 0 rfl rfl 0 (by decide) (hts (.fieldLink RX5 7 "WordSupperModel" "s" "[I") (by decide +kernel)) (fun _ h9 => h9) rfl dX5_sumOf_6 ?_
      refine x_iconst hx hb dX5_sumOf_9 ?_
      refine x_iald hx hb hK hP 1 0 rfl rfl 0 rfl (by omega) (by decide) (T 0) (gd_at _ (by omega)) dX5_sumOf_10 ?_
      refine x_icmp_ge (tgt := 29) hx hb (by omega) (by omega) dX5_sumOf_11 (by decide) (fun c_11 => ?_) (fun c_11 => ?_)
      · exfalso; omega
      · refine lv_iload_n hx hb dX5_sumOf_14 rfl (lv_at hl 2 rfl) ?_
        refine lv_aload_n hx hb dX5_sumOf_15 rfl (lv_at hl 0 rfl) ?_
        refine lv_iload_n hx hb dX5_sumOf_16 rfl (lv_at hl 3 rfl) ?_
        refine lv_iload_n hx hb dX5_sumOf_17 rfl (lv_at hl 1 rfl) ?_
        refine x_callV (As := [.int (iI ((t : Nat) : Int)), .int (iI ((wh : Nat) : Int))]) (rest := [.int (iI sv)]) ⟨hx, hb, hml, hown, hts⟩ (kX5_its r ik tn j T t wh (by omega) (by omega)) (cwV 2 hts gX5_sumOf_X5_its rfl rfl rfl ykVX5_its ⟨Nat.le_of_ble_eq_true rfl, Nat.le_of_ble_eq_true rfl⟩) hP hK hD hS 0 4 rfl rfl rfl [0, 1] rfl (by decide) (fun _ => rfl) (fun _ => wRo r ik tn j ++ (wA cI (r 1) 100 T)) (fun _ => rfl) rfl hl.1 rfl (Nat.le_of_ble_eq_true rfl) dX5_sumOf_18 ⟨Nat.le_of_ble_eq_true rfl, Nat.le_of_ble_eq_true rfl⟩ (fun _ H locs _ hP hD hS => ?_)
        refine W.eq (g2 := F0 m 21 ls [.int (iI (T (cx t wh))), .int (iI sv)]) rfl ?_
        refine x_iadd hx hb dX5_sumOf_21 ?_
        refine lv_istore_n (lv' := [(2, .int (iI (sv + (T (cx t wh))))), (0, .ref (r 0)), (1, .int (iI ((wh : Nat) : Int))), (3, .int (iI ((t : Nat) : Int)))]) hx hb dX5_sumOf_22 rfl hl (by decide) rfl (fun ls hl => ?_)
        refine x_iinc hx hb 3 ((t + 1 : Nat) : Int) (by omega) [(3, .int (iI ((t + 1 : Nat) : Int))), (2, .int (iI (sv + (T (cx t wh))))), (0, .ref (r 0)), (1, .int (iI ((wh : Nat) : Int)))] dX5_sumOf_23 hl rfl (by decide) rfl (fun ls hl => ?_)
        refine lv_goto (tgt := 4) hx hb dX5_sumOf_26 (by decide) ?_
        exact ih (t + 1) (sv + (T (cx t wh))) _ _ _ (by omega) hr hP hD hS (lv_sub hl [2, 3, 1, 0] rfl)
  exact L4 ((T 0).toNat) 0 0 _ _ _ (by omega) rfl hP hD hS (lv_sub hl [2, 3, 1, 0] rfl)
theorem ykSX5_cleanOnes : yX5_cleanOnes.cls ≠ "java/lang/invoke/MethodHandle" ∧ yX5_cleanOnes.cls ≠ "java/lang/invoke/VarHandle" ∧ (parseMethodDescriptor yX5_cleanOnes.desc).map (fun d => d.parameters.length) = some 0 := by decide +kernel
theorem ykVX5_cleanOnes : yX5_cleanOnes.cls = RX5 ∧ yX5_cleanOnes.cls ≠ "java/lang/invoke/MethodHandle" ∧ yX5_cleanOnes.cls ≠ "java/lang/invoke/VarHandle" ∧ (parseMethodDescriptor yX5_cleanOnes.desc).map (fun d => d.parameters.length) = some 0 := ⟨rfl, ykSX5_cleanOnes⟩
set_option maxRecDepth 20000 in
theorem iT_X5_cleanOnes_X5 : ∀ w ∈ u_ws RX5 TX5 18, w ∈ wsX5_cleanOnes := by decide +kernel
set_option maxHeartbeats 4000000 in
set_option maxRecDepth 100000 in
theorem kX5_cleanOnes {l : Launch} {D : va_G} {cI cB : ClassId} (r : Nat → Nat) (ik : Int) (tn : Int) (j : Nat → Int) (T : Tb) (B : Int) (hI : Inv B T) : Ct l yX5_cleanOnes wsX5_cleanOnes 2 45 D [(cI, .int), (cB, .byte)] [.ref (r 0)] (wRo r ik tn j ++ (wA cI (r 1) 100 T)) (S := Unit) (fun _ => some (.int (iI (cnF T)))) (fun _ => True) (fun _ => wRo r ik tn j ++ (wA cI (r 1) 100 T)) := by
  refine CtI.of (cc := cX5_cleanOnes) (maxL := 3) (by decide +kernel) rfl (Nat.le_of_ble_eq_true rfl) ?_
  intro pg e s m args below meth c Q A hx hb hml hts hown hP hK hD hS ls hl kend
  have hown : s.vm.findClass RX5 = some m.cls := hown
  have hl : lv_has ls 3 [(0, .ref (r 0))] := hl
  have hn := Inv_n hI
  refine x_iconst hx hb dX5_cleanOnes_0 ?_
  refine lv_istore_n (lv' := [(1, .int (iI 0)), (0, .ref (r 0))]) hx hb dX5_cleanOnes_1 rfl hl (by decide) rfl (fun ls hl => ?_)
  refine x_iconst hx hb dX5_cleanOnes_2 ?_
  refine lv_istore_n (lv' := [(2, .int (iI 0)), (1, .int (iI 0)), (0, .ref (r 0))]) hx hb dX5_cleanOnes_3 rfl hl (by decide) rfl (fun ls hl => ?_)
  have L4 : ∀ (k t : Nat) (sv : Int) (H : Heap) (locs : List Loc) (ls : Array Slot), t + k = (T 0).toNat → (run (fun (p : Nat) (s : Int) => orI s (if lfF T p = 0 then shlI 1 p else 0)) k t sv = cnF T) → va_P D vwCl (wRo r ik tn j ++ (wA cI (r 1) 100 T)) H → va_D A (wRo r ik tn j ++ (wA cI (r 1) 100 T)) → va_S A s.heap H locs → lv_has ls 3 [(0, .ref (r 0)), (1, .int (iI sv)), (2, .int (iI ((t : Nat) : Int)))] → W pg l e { frames := 2, cells := 0, slots := 0, locals := 45 } s m args below meth c H locs 0 0 Q (F0 m 4 ls []) := by
    intro k
    induction k with
    | zero =>
      intro t sv H locs ls hkt hr hP hD hS hl
      refine lv_iload_n hx hb dX5_cleanOnes_4 rfl (lv_at hl 2 rfl) ?_
      refine lv_aload_n hx hb dX5_cleanOnes_5 rfl (lv_at hl 0 rfl) ?_
      refine va_get (D := D) (ci := 4) (v := .ref (r 1)) (C := RX5) (T := TX5) (N := 18) hx hb hts (iT_X5_cleanOnes_X5) hown hK hP 0 rfl rfl 0 (by decide) (hts (.fieldLink RX5 7 "WordSupperModel" "s" "[I") (by decide +kernel)) (fun _ h9 => h9) rfl dX5_cleanOnes_6 ?_
      refine x_iconst hx hb dX5_cleanOnes_9 ?_
      refine x_iald hx hb hK hP 1 0 rfl rfl 0 rfl (by omega) (by decide) (T 0) (gd_at _ (by omega)) dX5_cleanOnes_10 ?_
      refine x_icmp_ge (tgt := 38) hx hb (by omega) (by omega) dX5_cleanOnes_11 (by decide) (fun c_11 => ?_) (fun c_11 => ?_)
      · refine lv_iload_n hx hb dX5_cleanOnes_38 rfl (lv_at hl 1 rfl) ?_
        exact kend () hP hS (an_i (hr)) trivial dX5_cleanOnes_39
      · exfalso; omega
    | succ k ih =>
      intro t sv H locs ls hkt hr hP hD hS hl
      refine lv_iload_n hx hb dX5_cleanOnes_4 rfl (lv_at hl 2 rfl) ?_
      refine lv_aload_n hx hb dX5_cleanOnes_5 rfl (lv_at hl 0 rfl) ?_
      refine va_get (D := D) (ci := 4) (v := .ref (r 1)) (C := RX5) (T := TX5) (N := 18) hx hb hts (iT_X5_cleanOnes_X5) hown hK hP 0 rfl rfl 0 (by decide) (hts (.fieldLink RX5 7 "WordSupperModel" "s" "[I") (by decide +kernel)) (fun _ h9 => h9) rfl dX5_cleanOnes_6 ?_
      refine x_iconst hx hb dX5_cleanOnes_9 ?_
      refine x_iald hx hb hK hP 1 0 rfl rfl 0 rfl (by omega) (by decide) (T 0) (gd_at _ (by omega)) dX5_cleanOnes_10 ?_
      refine x_icmp_ge (tgt := 38) hx hb (by omega) (by omega) dX5_cleanOnes_11 (by decide) (fun c_11 => ?_) (fun c_11 => ?_)
      · exfalso; omega
      · refine lv_iload_n hx hb dX5_cleanOnes_14 rfl (lv_at hl 1 rfl) ?_
        refine lv_aload_n hx hb dX5_cleanOnes_15 rfl (lv_at hl 0 rfl) ?_
        refine lv_iload_n hx hb dX5_cleanOnes_16 rfl (lv_at hl 2 rfl) ?_
        refine x_callV (As := [.int (iI ((t : Nat) : Int))]) (rest := [.int (iI sv)]) ⟨hx, hb, hml, hown, hts⟩ (kX5_left r ik tn j T t (by omega)) (cwV 1 hts gX5_cleanOnes_X5_left rfl rfl rfl ykVX5_left ⟨Nat.le_of_ble_eq_true rfl, Nat.le_of_ble_eq_true rfl⟩) hP hK hD hS 0 4 rfl rfl rfl [0, 1] rfl (by decide) (fun _ => rfl) (fun _ => wRo r ik tn j ++ (wA cI (r 1) 100 T)) (fun _ => rfl) rfl hl.1 rfl (Nat.le_of_ble_eq_true rfl) dX5_cleanOnes_17 ⟨Nat.le_of_ble_eq_true rfl, Nat.le_of_ble_eq_true rfl⟩ (fun _ H locs _ hP hD hS => ?_)
        refine W.eq (g2 := F0 m 20 ls [.int (iI (lfF T t)), .int (iI sv)]) rfl ?_
        have hv := Inv_lf (p := t) hI (by omega)
        refine x_if_ne (tgt := 29) hx hb (by omega) dX5_cleanOnes_20 (by decide) (fun c_20 => ?_) (fun c_20 => ?_)
        · refine x_iconst hx hb dX5_cleanOnes_29 ?_
          refine x_ior hx hb dX5_cleanOnes_30 ?_
          refine lv_istore_n (lv' := [(1, .int (iI (orI sv 0))), (0, .ref (r 0)), (2, .int (iI ((t : Nat) : Int)))]) hx hb dX5_cleanOnes_31 rfl hl (by decide) rfl (fun ls hl => ?_)
          refine x_iinc hx hb 2 ((t + 1 : Nat) : Int) (by omega) [(2, .int (iI ((t + 1 : Nat) : Int))), (1, .int (iI (orI sv 0))), (0, .ref (r 0))] dX5_cleanOnes_32 hl rfl (by decide) rfl (fun ls hl => ?_)
          refine lv_goto (tgt := 4) hx hb dX5_cleanOnes_35 (by decide) ?_
          exact ih (t + 1) (orI sv 0) _ _ _ (by omega) (run_step hr (by rw [if_neg (by omega)])) hP hD hS (lv_sub hl [2, 1, 0] rfl)
        · refine x_iconst hx hb dX5_cleanOnes_23 ?_
          refine lv_iload_n hx hb dX5_cleanOnes_24 rfl (lv_at hl 2 rfl) ?_
          refine x_ishl hx hb dX5_cleanOnes_25 ?_
          refine lv_goto (tgt := 30) hx hb dX5_cleanOnes_26 (by decide) ?_
          refine x_ior hx hb dX5_cleanOnes_30 ?_
          refine lv_istore_n (lv' := [(1, .int (iI (orI sv (shlI 1 ((t : Nat) : Int))))), (0, .ref (r 0)), (2, .int (iI ((t : Nat) : Int)))]) hx hb dX5_cleanOnes_31 rfl hl (by decide) rfl (fun ls hl => ?_)
          refine x_iinc hx hb 2 ((t + 1 : Nat) : Int) (by omega) [(2, .int (iI ((t + 1 : Nat) : Int))), (1, .int (iI (orI sv (shlI 1 ((t : Nat) : Int))))), (0, .ref (r 0))] dX5_cleanOnes_32 hl rfl (by decide) rfl (fun ls hl => ?_)
          refine lv_goto (tgt := 4) hx hb dX5_cleanOnes_35 (by decide) ?_
          exact ih (t + 1) (orI sv (shlI 1 ((t : Nat) : Int))) _ _ _ (by omega) (run_step hr (by rw [if_pos (by omega)])) hP hD hS (lv_sub hl [2, 1, 0] rfl)
  exact L4 ((T 0).toNat) 0 0 _ _ _ (by omega) rfl hP hD hS (lv_sub hl [2, 1, 0] rfl)
theorem ykSX5_loved : yX5_loved.cls ≠ "java/lang/invoke/MethodHandle" ∧ yX5_loved.cls ≠ "java/lang/invoke/VarHandle" ∧ (parseMethodDescriptor yX5_loved.desc).map (fun d => d.parameters.length) = some 0 := by decide +kernel
theorem ykVX5_loved : yX5_loved.cls = RX5 ∧ yX5_loved.cls ≠ "java/lang/invoke/MethodHandle" ∧ yX5_loved.cls ≠ "java/lang/invoke/VarHandle" ∧ (parseMethodDescriptor yX5_loved.desc).map (fun d => d.parameters.length) = some 0 := ⟨rfl, ykSX5_loved⟩
set_option maxRecDepth 20000 in
theorem iT_X5_loved_X5 : ∀ w ∈ u_ws RX5 TX5 18, w ∈ wsX5_loved := by decide +kernel
set_option maxHeartbeats 4000000 in
set_option maxRecDepth 100000 in
theorem kX5_loved {l : Launch} {D : va_G} {cI cB : ClassId} (r : Nat → Nat) (ik : Int) (tn : Int) (j : Nat → Int) (T : Tb) (B : Int) (hI : Inv B T) : Ct l yX5_loved wsX5_loved 1 22 D [(cI, .int), (cB, .byte)] [.ref (r 0)] (wRo r ik tn j ++ (wA cI (r 1) 100 T)) (S := Unit) (fun _ => some (.int (iI (lvF T)))) (fun _ => True) (fun _ => wRo r ik tn j ++ (wA cI (r 1) 100 T)) := by
  refine CtI.of (cc := cX5_loved) (maxL := 3) (by decide +kernel) rfl (Nat.le_of_ble_eq_true rfl) ?_
  intro pg e s m args below meth c Q A hx hb hml hts hown hP hK hD hS ls hl kend
  have hown : s.vm.findClass RX5 = some m.cls := hown
  have hl : lv_has ls 3 [(0, .ref (r 0))] := hl
  have hn := Inv_n hI
  refine x_iconst hx hb dX5_loved_0 ?_
  refine lv_istore_n (lv' := [(1, .int (iI 0)), (0, .ref (r 0))]) hx hb dX5_loved_1 rfl hl (by decide) rfl (fun ls hl => ?_)
  refine x_iconst hx hb dX5_loved_2 ?_
  refine lv_istore_n (lv' := [(2, .int (iI 0)), (1, .int (iI 0)), (0, .ref (r 0))]) hx hb dX5_loved_3 rfl hl (by decide) rfl (fun ls hl => ?_)
  have L4 : ∀ (k t : Nat) (sv : Int) (H : Heap) (locs : List Loc) (ls : Array Slot), t + k = (T 0).toNat → (run (fun (p : Nat) (s : Int) => orI s (if 0 ≤ T (cx p 1) then shlI 1 (T (cx p 1)) else 0)) k t sv = lvF T) → va_P D vwCl (wRo r ik tn j ++ (wA cI (r 1) 100 T)) H → va_D A (wRo r ik tn j ++ (wA cI (r 1) 100 T)) → va_S A s.heap H locs → lv_has ls 3 [(0, .ref (r 0)), (1, .int (iI sv)), (2, .int (iI ((t : Nat) : Int)))] → W pg l e { frames := 1, cells := 0, slots := 0, locals := 22 } s m args below meth c H locs 0 0 Q (F0 m 4 ls []) := by
    intro k
    induction k with
    | zero =>
      intro t sv H locs ls hkt hr hP hD hS hl
      refine lv_iload_n hx hb dX5_loved_4 rfl (lv_at hl 2 rfl) ?_
      refine lv_aload_n hx hb dX5_loved_5 rfl (lv_at hl 0 rfl) ?_
      refine va_get (D := D) (ci := 4) (v := .ref (r 1)) (C := RX5) (T := TX5) (N := 18) hx hb hts (iT_X5_loved_X5) hown hK hP 0 rfl rfl 0 (by decide) (hts (.fieldLink RX5 7 "WordSupperModel" "s" "[I") (by decide +kernel)) (fun _ h9 => h9) rfl dX5_loved_6 ?_
      refine x_iconst hx hb dX5_loved_9 ?_
      refine x_iald hx hb hK hP 1 0 rfl rfl 0 rfl (by omega) (by decide) (T 0) (gd_at _ (by omega)) dX5_loved_10 ?_
      refine x_icmp_ge (tgt := 44) hx hb (by omega) (by omega) dX5_loved_11 (by decide) (fun c_11 => ?_) (fun c_11 => ?_)
      · refine lv_iload_n hx hb dX5_loved_44 rfl (lv_at hl 1 rfl) ?_
        exact kend () hP hS (an_i (hr)) trivial dX5_loved_45
      · exfalso; omega
    | succ k ih =>
      intro t sv H locs ls hkt hr hP hD hS hl
      refine lv_iload_n hx hb dX5_loved_4 rfl (lv_at hl 2 rfl) ?_
      refine lv_aload_n hx hb dX5_loved_5 rfl (lv_at hl 0 rfl) ?_
      refine va_get (D := D) (ci := 4) (v := .ref (r 1)) (C := RX5) (T := TX5) (N := 18) hx hb hts (iT_X5_loved_X5) hown hK hP 0 rfl rfl 0 (by decide) (hts (.fieldLink RX5 7 "WordSupperModel" "s" "[I") (by decide +kernel)) (fun _ h9 => h9) rfl dX5_loved_6 ?_
      refine x_iconst hx hb dX5_loved_9 ?_
      refine x_iald hx hb hK hP 1 0 rfl rfl 0 rfl (by omega) (by decide) (T 0) (gd_at _ (by omega)) dX5_loved_10 ?_
      refine x_icmp_ge (tgt := 44) hx hb (by omega) (by omega) dX5_loved_11 (by decide) (fun c_11 => ?_) (fun c_11 => ?_)
      · exfalso; omega
      · refine lv_iload_n hx hb dX5_loved_14 rfl (lv_at hl 1 rfl) ?_
        refine lv_aload_n hx hb dX5_loved_15 rfl (lv_at hl 0 rfl) ?_
        refine lv_iload_n hx hb dX5_loved_16 rfl (lv_at hl 2 rfl) ?_
        refine x_iconst hx hb dX5_loved_17 ?_
        refine x_callV (As := [.int (iI ((t : Nat) : Int)), .int (iI 1)]) (rest := [.int (iI sv)]) ⟨hx, hb, hml, hown, hts⟩ (kX5_its r ik tn j T t 1 (by omega) (by omega)) (cwV 2 hts gX5_loved_X5_its rfl rfl rfl ykVX5_its ⟨Nat.le_of_ble_eq_true rfl, Nat.le_of_ble_eq_true rfl⟩) hP hK hD hS 0 4 rfl rfl rfl [0, 1] rfl (by decide) (fun _ => rfl) (fun _ => wRo r ik tn j ++ (wA cI (r 1) 100 T)) (fun _ => rfl) rfl hl.1 rfl (Nat.le_of_ble_eq_true rfl) dX5_loved_18 ⟨Nat.le_of_ble_eq_true rfl, Nat.le_of_ble_eq_true rfl⟩ (fun _ H locs _ hP hD hS => ?_)
        refine W.eq (g2 := F0 m 21 ls [.int (iI (T (cx t 1))), .int (iI sv)]) rfl ?_
        have hv := Inv_lv (p := t) hI (by omega)
        refine x_if_lt (tgt := 35) hx hb (by omega) dX5_loved_21 (by decide) (fun c_21 => ?_) (fun c_21 => ?_)
        · refine x_iconst hx hb dX5_loved_35 ?_
          refine x_ior hx hb dX5_loved_36 ?_
          refine lv_istore_n (lv' := [(1, .int (iI (orI sv 0))), (0, .ref (r 0)), (2, .int (iI ((t : Nat) : Int)))]) hx hb dX5_loved_37 rfl hl (by decide) rfl (fun ls hl => ?_)
          refine x_iinc hx hb 2 ((t + 1 : Nat) : Int) (by omega) [(2, .int (iI ((t + 1 : Nat) : Int))), (1, .int (iI (orI sv 0))), (0, .ref (r 0))] dX5_loved_38 hl rfl (by decide) rfl (fun ls hl => ?_)
          refine lv_goto (tgt := 4) hx hb dX5_loved_41 (by decide) ?_
          exact ih (t + 1) (orI sv 0) _ _ _ (by omega) (run_step hr (by rw [if_neg (by omega)])) hP hD hS (lv_sub hl [2, 1, 0] rfl)
        · refine x_iconst hx hb dX5_loved_24 ?_
          refine lv_aload_n hx hb dX5_loved_25 rfl (lv_at hl 0 rfl) ?_
          refine lv_iload_n hx hb dX5_loved_26 rfl (lv_at hl 2 rfl) ?_
          refine x_iconst hx hb dX5_loved_27 ?_
          refine x_callV (As := [.int (iI ((t : Nat) : Int)), .int (iI 1)]) (rest := [.int (iI 1), .int (iI sv)]) ⟨hx, hb, hml, hown, hts⟩ (kX5_its r ik tn j T t 1 (by omega) (by omega)) (cwV 2 hts gX5_loved_X5_its rfl rfl rfl ykVX5_its ⟨Nat.le_of_ble_eq_true rfl, Nat.le_of_ble_eq_true rfl⟩) hP hK hD hS 0 4 rfl rfl rfl [0, 1] rfl (by decide) (fun _ => rfl) (fun _ => wRo r ik tn j ++ (wA cI (r 1) 100 T)) (fun _ => rfl) rfl hl.1 rfl (Nat.le_of_ble_eq_true rfl) dX5_loved_28 ⟨Nat.le_of_ble_eq_true rfl, Nat.le_of_ble_eq_true rfl⟩ (fun _ H locs _ hP hD hS => ?_)
          refine W.eq (g2 := F0 m 31 ls [.int (iI (T (cx t 1))), .int (iI 1), .int (iI sv)]) rfl ?_
          refine x_ishl hx hb dX5_loved_31 ?_
          refine lv_goto (tgt := 36) hx hb dX5_loved_32 (by decide) ?_
          refine x_ior hx hb dX5_loved_36 ?_
          refine lv_istore_n (lv' := [(1, .int (iI (orI sv (shlI 1 (T (cx t 1)))))), (0, .ref (r 0)), (2, .int (iI ((t : Nat) : Int)))]) hx hb dX5_loved_37 rfl hl (by decide) rfl (fun ls hl => ?_)
          refine x_iinc hx hb 2 ((t + 1 : Nat) : Int) (by omega) [(2, .int (iI ((t + 1 : Nat) : Int))), (1, .int (iI (orI sv (shlI 1 (T (cx t 1)))))), (0, .ref (r 0))] dX5_loved_38 hl rfl (by decide) rfl (fun ls hl => ?_)
          refine lv_goto (tgt := 4) hx hb dX5_loved_41 (by decide) ?_
          exact ih (t + 1) (orI sv (shlI 1 (T (cx t 1)))) _ _ _ (by omega) (run_step hr (by rw [if_pos (by omega)])) hP hD hS (lv_sub hl [2, 1, 0] rfl)
  exact L4 ((T 0).toNat) 0 0 _ _ _ (by omega) rfl hP hD hS (lv_sub hl [2, 1, 0] rfl)
theorem ykSX5_fullest : yX5_fullest.cls ≠ "java/lang/invoke/MethodHandle" ∧ yX5_fullest.cls ≠ "java/lang/invoke/VarHandle" ∧ (parseMethodDescriptor yX5_fullest.desc).map (fun d => d.parameters.length) = some 0 := by decide +kernel
theorem ykVX5_fullest : yX5_fullest.cls = RX5 ∧ yX5_fullest.cls ≠ "java/lang/invoke/MethodHandle" ∧ yX5_fullest.cls ≠ "java/lang/invoke/VarHandle" ∧ (parseMethodDescriptor yX5_fullest.desc).map (fun d => d.parameters.length) = some 0 := ⟨rfl, ykSX5_fullest⟩
set_option maxRecDepth 20000 in
theorem iT_X5_fullest_X5 : ∀ w ∈ u_ws RX5 TX5 18, w ∈ wsX5_fullest := by decide +kernel
set_option maxHeartbeats 4000000 in
set_option maxRecDepth 100000 in
theorem kX5_fullest {l : Launch} {D : va_G} {cI cB : ClassId} (r : Nat → Nat) (ik : Int) (tn : Int) (j : Nat → Int) (T : Tb) (B : Int) (hI : Inv B T) : Ct l yX5_fullest wsX5_fullest 2 45 D [(cI, .int), (cB, .byte)] [.ref (r 0)] (wRo r ik tn j ++ (wA cI (r 1) 100 T)) (S := Unit) (fun _ => some (.int (iI (fuF T)))) (fun _ => True) (fun _ => wRo r ik tn j ++ (wA cI (r 1) 100 T)) := by
  refine CtI.of (cc := cX5_fullest) (maxL := 3) (by decide +kernel) rfl (Nat.le_of_ble_eq_true rfl) ?_
  intro pg e s m args below meth c Q A hx hb hml hts hown hP hK hD hS ls hl kend
  have hown : s.vm.findClass RX5 = some m.cls := hown
  have hl : lv_has ls 3 [(0, .ref (r 0))] := hl
  have hn := Inv_n hI
  refine lv_aload_n hx hb dX5_fullest_0 rfl (lv_at hl 0 rfl) ?_
  refine va_get (D := D) (ci := 4) (v := .ref (r 1)) (C := RX5) (T := TX5) (N := 18) hx hb hts (iT_X5_fullest_X5) hown hK hP 0 rfl rfl 0 (by decide) (hts (.fieldLink RX5 7 "WordSupperModel" "s" "[I") (by decide +kernel)) (fun _ h9 => h9) rfl dX5_fullest_1 ?_
  refine x_iconst hx hb dX5_fullest_4 ?_
  refine x_iald hx hb hK hP 1 0 rfl rfl 0 rfl (by omega) (by decide) (T 0) (gd_at _ (by omega)) dX5_fullest_5 ?_
  refine x_if_ne (tgt := 13) hx hb (by omega) dX5_fullest_6 (by decide) (fun c_6 => ?_) (fun c_6 => ?_)
  · refine x_iconst hx hb dX5_fullest_13 ?_
    refine lv_istore_n (lv' := [(1, .int (iI 0)), (0, .ref (r 0))]) hx hb dX5_fullest_14 rfl hl (by decide) rfl (fun ls hl => ?_)
    refine x_iconst hx hb dX5_fullest_15 ?_
    refine lv_istore_n (lv' := [(2, .int (iI 1)), (1, .int (iI 0)), (0, .ref (r 0))]) hx hb dX5_fullest_16 rfl hl (by decide) rfl (fun ls hl => ?_)
    have L17 : ∀ (k t : Nat) (bv : Nat) (H : Heap) (locs : List Loc) (ls : Array Slot), t + k = (T 0).toNat → ((run (fuS T) k t (((bv : Nat) : Int), lfF T bv)).1 = fuF T) → ((bv : Int) < T 0) → va_P D vwCl (wRo r ik tn j ++ (wA cI (r 1) 100 T)) H → va_D A (wRo r ik tn j ++ (wA cI (r 1) 100 T)) → va_S A s.heap H locs → lv_has ls 3 [(0, .ref (r 0)), (1, .int (iI ((bv : Nat) : Int))), (2, .int (iI ((t : Nat) : Int)))] → W pg l e { frames := 2, cells := 0, slots := 0, locals := 45 } s m args below meth c H locs 0 0 Q (F0 m 17 ls []) := by
      intro k
      induction k with
      | zero =>
        intro t bv H locs ls hkt hr hq hP hD hS hl
        refine lv_iload_n hx hb dX5_fullest_17 rfl (lv_at hl 2 rfl) ?_
        refine lv_aload_n hx hb dX5_fullest_18 rfl (lv_at hl 0 rfl) ?_
        refine va_get (D := D) (ci := 4) (v := .ref (r 1)) (C := RX5) (T := TX5) (N := 18) hx hb hts (iT_X5_fullest_X5) hown hK hP 0 rfl rfl 0 (by decide) (hts (.fieldLink RX5 7 "WordSupperModel" "s" "[I") (by decide +kernel)) (fun _ h9 => h9) rfl dX5_fullest_19 ?_
        refine x_iconst hx hb dX5_fullest_22 ?_
        refine x_iald hx hb hK hP 1 0 rfl rfl 0 rfl (by omega) (by decide) (T 0) (gd_at _ (by omega)) dX5_fullest_23 ?_
        refine x_icmp_ge (tgt := 52) hx hb (by omega) (by omega) dX5_fullest_24 (by decide) (fun c_24 => ?_) (fun c_24 => ?_)
        · refine lv_iload_n hx hb dX5_fullest_52 rfl (lv_at hl 1 rfl) ?_
          exact kend () hP hS (an_i hr) trivial dX5_fullest_53
        · exfalso; omega
      | succ k ih =>
        intro t bv H locs ls hkt hr hq hP hD hS hl
        refine lv_iload_n hx hb dX5_fullest_17 rfl (lv_at hl 2 rfl) ?_
        refine lv_aload_n hx hb dX5_fullest_18 rfl (lv_at hl 0 rfl) ?_
        refine va_get (D := D) (ci := 4) (v := .ref (r 1)) (C := RX5) (T := TX5) (N := 18) hx hb hts (iT_X5_fullest_X5) hown hK hP 0 rfl rfl 0 (by decide) (hts (.fieldLink RX5 7 "WordSupperModel" "s" "[I") (by decide +kernel)) (fun _ h9 => h9) rfl dX5_fullest_19 ?_
        refine x_iconst hx hb dX5_fullest_22 ?_
        refine x_iald hx hb hK hP 1 0 rfl rfl 0 rfl (by omega) (by decide) (T 0) (gd_at _ (by omega)) dX5_fullest_23 ?_
        refine x_icmp_ge (tgt := 52) hx hb (by omega) (by omega) dX5_fullest_24 (by decide) (fun c_24 => ?_) (fun c_24 => ?_)
        · exfalso; omega
        · have hv := Inv_lf (p := t) hI (by omega)
          have hv2 := Inv_lf (p := bv) hI hq
          refine lv_aload_n hx hb dX5_fullest_27 rfl (lv_at hl 0 rfl) ?_
          refine lv_iload_n hx hb dX5_fullest_28 rfl (lv_at hl 2 rfl) ?_
          refine x_callV (As := [.int (iI ((t : Nat) : Int))]) (rest := []) ⟨hx, hb, hml, hown, hts⟩ (kX5_left r ik tn j T t (by omega)) (cwV 1 hts gX5_fullest_X5_left rfl rfl rfl ykVX5_left ⟨Nat.le_of_ble_eq_true rfl, Nat.le_of_ble_eq_true rfl⟩) hP hK hD hS 0 4 rfl rfl rfl [0, 1] rfl (by decide) (fun _ => rfl) (fun _ => wRo r ik tn j ++ (wA cI (r 1) 100 T)) (fun _ => rfl) rfl hl.1 rfl (Nat.le_of_ble_eq_true rfl) dX5_fullest_29 ⟨Nat.le_of_ble_eq_true rfl, Nat.le_of_ble_eq_true rfl⟩ (fun _ H locs _ hP hD hS => ?_)
          refine W.eq (g2 := F0 m 32 ls [.int (iI (lfF T t))]) rfl ?_
          refine lv_aload_n hx hb dX5_fullest_32 rfl (lv_at hl 0 rfl) ?_
          refine lv_iload_n hx hb dX5_fullest_33 rfl (lv_at hl 1 rfl) ?_
          refine x_callV (As := [.int (iI ((bv : Nat) : Int))]) (rest := [.int (iI (lfF T t))]) ⟨hx, hb, hml, hown, hts⟩ (kX5_left r ik tn j T bv (by omega)) (cwV 1 hts gX5_fullest_X5_left rfl rfl rfl ykVX5_left ⟨Nat.le_of_ble_eq_true rfl, Nat.le_of_ble_eq_true rfl⟩) hP hK hD hS 0 4 rfl rfl rfl [0, 1] rfl (by decide) (fun _ => rfl) (fun _ => wRo r ik tn j ++ (wA cI (r 1) 100 T)) (fun _ => rfl) rfl hl.1 rfl (Nat.le_of_ble_eq_true rfl) dX5_fullest_34 ⟨Nat.le_of_ble_eq_true rfl, Nat.le_of_ble_eq_true rfl⟩ (fun _ H locs _ hP hD hS => ?_)
          refine W.eq (g2 := F0 m 37 ls [.int (iI (lfF T bv)), .int (iI (lfF T t))]) rfl ?_
          refine x_icmp_le (tgt := 44) hx hb (by omega) (by omega) dX5_fullest_37 (by decide) (fun c_37 => ?_) (fun c_37 => ?_)
          · refine lv_iload_n hx hb dX5_fullest_44 rfl (lv_at hl 1 rfl) ?_
            refine lv_istore_n (lv' := [(1, .int (iI ((bv : Nat) : Int))), (0, .ref (r 0)), (2, .int (iI ((t : Nat) : Int)))]) hx hb dX5_fullest_45 rfl hl (by decide) rfl (fun ls hl => ?_)
            refine x_iinc hx hb 2 ((t + 1 : Nat) : Int) (by omega) [(2, .int (iI ((t + 1 : Nat) : Int))), (1, .int (iI ((bv : Nat) : Int))), (0, .ref (r 0))] dX5_fullest_46 hl rfl (by decide) rfl (fun ls hl => ?_)
            refine lv_goto (tgt := 17) hx hb dX5_fullest_49 (by decide) ?_
            exact ih (t + 1) bv _ _ _ (by omega) (by rw [← hr, run_s]; congr 2; unfold fuS; dsimp only; rw [if_neg (by omega)]) hq hP hD hS (lv_sub hl [2, 1, 0] rfl)
          · refine lv_iload_n hx hb dX5_fullest_40 rfl (lv_at hl 2 rfl) ?_
            refine lv_goto (tgt := 45) hx hb dX5_fullest_41 (by decide) ?_
            refine lv_istore_n (lv' := [(1, .int (iI ((t : Nat) : Int))), (0, .ref (r 0)), (2, .int (iI ((t : Nat) : Int)))]) hx hb dX5_fullest_45 rfl hl (by decide) rfl (fun ls hl => ?_)
            refine x_iinc hx hb 2 ((t + 1 : Nat) : Int) (by omega) [(2, .int (iI ((t + 1 : Nat) : Int))), (1, .int (iI ((t : Nat) : Int))), (0, .ref (r 0))] dX5_fullest_46 hl rfl (by decide) rfl (fun ls hl => ?_)
            refine lv_goto (tgt := 17) hx hb dX5_fullest_49 (by decide) ?_
            exact ih (t + 1) t _ _ _ (by omega) (by rw [← hr, run_s]; unfold fuS; dsimp only; rw [if_pos (by omega)]) (by omega) hP hD hS (lv_sub hl [2, 1, 0] rfl)
    exact L17 ((T 0).toNat - 1) 1 0 _ _ _ (by omega) (fu_0 (by omega) (Inv_lf hI (by omega)).1) (by omega) hP hD hS (lv_sub hl [2, 1, 0] rfl)
  · refine x_iconst hx hb dX5_fullest_9 ?_
    refine lv_goto (tgt := 14) hx hb dX5_fullest_10 (by decide) ?_
    refine lv_istore_n (lv' := [(1, .int (iI (-1))), (0, .ref (r 0))]) hx hb dX5_fullest_14 rfl hl (by decide) rfl (fun ls hl => ?_)
    refine x_iconst hx hb dX5_fullest_15 ?_
    refine lv_istore_n (lv' := [(2, .int (iI 1)), (1, .int (iI (-1))), (0, .ref (r 0))]) hx hb dX5_fullest_16 rfl hl (by decide) rfl (fun ls hl => ?_)
    refine lv_iload_n hx hb dX5_fullest_17 rfl (lv_at hl 0 rfl) ?_
    refine lv_aload_n hx hb dX5_fullest_18 rfl (lv_at hl 2 rfl) ?_
    refine va_get (D := D) (ci := 4) (v := .ref (r 1)) (C := RX5) (T := TX5) (N := 18) hx hb hts (iT_X5_fullest_X5) hown hK hP 0 rfl rfl 0 (by decide) (hts (.fieldLink RX5 7 "WordSupperModel" "s" "[I") (by decide +kernel)) (fun _ h9 => h9) rfl dX5_fullest_19 ?_
    refine x_iconst hx hb dX5_fullest_22 ?_
    refine x_iald hx hb hK hP 1 0 rfl rfl 0 rfl (by omega) (by decide) (T 0) (gd_at _ (by omega)) dX5_fullest_23 ?_
    refine x_icmp_ge (tgt := 52) hx hb (by decide) (by omega) dX5_fullest_24 (by decide) (fun c_24 => ?_) (fun c_24 => ?_)
    · refine lv_iload_n hx hb dX5_fullest_52 rfl (lv_at hl 1 rfl) ?_
      exact kend () hP hS (an_i (fu_e (by omega))) trivial dX5_fullest_53
    · exfalso; omega
