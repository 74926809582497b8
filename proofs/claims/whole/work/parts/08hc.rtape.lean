theorem b2_1 {x : Bool} (h : b2 x ≠ 0) : x = true := by
  cases x
  · exact absurd rfl h
  · rfl
theorem rr_t {r : Rs} {a b c d fa : Int} {T : Tb} {p : Tk} {x : Bool} (e : r = (x, T, p)) (h : tyR a b c d p) (h2 : x = false → fa = (p.2.1 : Int)) : rsR r a b c d fa T := by rw [e]; exact ⟨rfl, h, h2⟩
theorem ykSX5_perhaps : yX5_perhaps.cls ≠ "java/lang/invoke/MethodHandle" ∧ yX5_perhaps.cls ≠ "java/lang/invoke/VarHandle" ∧ (parseMethodDescriptor yX5_perhaps.desc).map (fun d => d.parameters.length) = some 3 := by decide +kernel
theorem ykVX5_perhaps : yX5_perhaps.cls = RX5 ∧ yX5_perhaps.cls ≠ "java/lang/invoke/MethodHandle" ∧ yX5_perhaps.cls ≠ "java/lang/invoke/VarHandle" ∧ (parseMethodDescriptor yX5_perhaps.desc).map (fun d => d.parameters.length) = some 3 := ⟨rfl, ykSX5_perhaps⟩
set_option maxRecDepth 20000 in
theorem iT_X5_perhaps_X5 : ∀ w ∈ u_ws RX5 TX5 18, w ∈ wsX5_perhaps := by decide +kernel
set_option maxHeartbeats 4000000 in
set_option maxRecDepth 100000 in
theorem kX5_perhaps {l : Launch} {D : va_G} {cI cB : ClassId} (r : Nat → Nat) (ik : Int) (tn : Int) (b0 : Int) (b1 : Int) (ct : Int) (cf : Int) (ce : Int) (cv : Int) (fa : Int) (T : Tb) (TB : Nat → Int) (cm : Int) (i : Nat) (mo : Int) (nn : Nat) (p : Tk) (cnd : Bool) (hn : tn = ((nn : Nat) : Int)) (hn9 : nn ≤ 120) (hTB : ∀ i : Nat, i < 120 → 0 ≤ TB i ∧ TB i ≤ 255) (hp : tyR ct cf ce cv p) (hi : tkI nn p) (hcm : cm = b2 cnd) (hi100 : i < 100) (hmo : -1 ≤ mo ∧ mo ≤ 999) : Ct l yX5_perhaps wsX5_perhaps 2 47 D [(cI, .int), (cB, .byte)] [.ref (r 0), .int (iI cm), .int (iI ((i : Nat) : Int)), .int (iI mo)] (wRo r ik tn (jk b0 b1 ct cf ce cv fa) ++ (wA cI (r 1) 100 T ++ (wA cI (r 6) 120 TB))) (S := Int × Int × Int × Int × Int × Tb) (fun u => some (.int (iI (b2 (decide ((pkF TB nn cnd i mo T p).1 = true)))))) (fun u => rsR (pkF TB nn cnd i mo T p) u.1 u.2.1 u.2.2.1 u.2.2.2.1 u.2.2.2.2.1 u.2.2.2.2.2) (fun u => wRo r ik tn (jk b0 b1 u.1 u.2.1 u.2.2.1 u.2.2.2.1 u.2.2.2.2.1) ++ (wA cI (r 1) 100 u.2.2.2.2.2 ++ (wA cI (r 6) 120 TB))) := by
  refine CtZ.of (cc := cX5_perhaps) (maxL := 4) (by decide +kernel) rfl (Nat.le_of_ble_eq_true rfl) ?_
  intro pg e s m args below meth c Q A hx hb hml hts hown hP hK hD hS ls hl kend
  have hown : s.vm.findClass RX5 = some m.cls := hown
  have hl : lv_has ls 4 [(0, .ref (r 0)), (1, .int (iI cm)), (2, .int (iI ((i : Nat) : Int))), (3, .int (iI mo))] := hl
  subst hn
  subst hcm
  have hb2 : b2 cnd = 0 ∨ b2 cnd = 1 := b2_01 cnd
  obtain ⟨rfl, rfl, rfl, hv_p⟩ := hp
  refine lv_iload_n hx hb dX5_perhaps_0 rfl (lv_at hl 1 rfl) ?_
  refine x_if_ne (tgt := 6) hx hb (b2_r _) dX5_perhaps_1 (by decide) (fun c_1 => ?_) (fun c_1 => ?_)
  · have h_c : cnd = true := b2_1 c_1
    refine lv_aload_n hx hb dX5_perhaps_6 rfl (lv_at hl 0 rfl) ?_
    refine x_callV (As := []) (rest := []) ⟨hx, hb, hml, hown, hts⟩ (kX5_nextToken r ik ((nn : Nat) : Int) b0 b1 p.1 ((p.2.1 : Nat) : Int) ((p.2.2.1 : Nat) : Int) cv fa TB nn p.2.2.1 rfl hn9 hTB rfl hi.2.1) (cwV 0 hts gX5_perhaps_X5_nextToken rfl rfl rfl ykVX5_nextToken ⟨Nat.le_of_ble_eq_true rfl, Nat.le_of_ble_eq_true rfl⟩) hP hK hD hS 0 4 rfl rfl rfl [0, 2] rfl (by decide) (fun _ => rfl) (fun u => wRo r ik ((nn : Nat) : Int) (jk b0 b1 u.1 u.2.1 u.2.2.1 u.2.2.2 fa) ++ (wA cI (r 1) 100 T ++ (wA cI (r 6) 120 TB))) (fun _ => rfl) rfl hl.1 rfl (Nat.le_of_ble_eq_true rfl) dX5_perhaps_7 ⟨Nat.le_of_ble_eq_true rfl, Nat.le_of_ble_eq_true rfl⟩ (fun u5 H locs hp6 hP hD hS => ?_)
    obtain ⟨a11, a22, a33, a44⟩ := u5
    replace hp6 : tyR a11 a22 a33 a44 (tnF TB nn p.2.2.1) := hp6
    have hP : va_P D vwCl (wRo r ik ((nn : Nat) : Int) (jk b0 b1 a11 a22 a33 a44 fa) ++ (wA cI (r 1) 100 T ++ (wA cI (r 6) 120 TB))) H := hP
    have hD : va_D A (wRo r ik ((nn : Nat) : Int) (jk b0 b1 a11 a22 a33 a44 fa) ++ (wA cI (r 1) 100 T ++ (wA cI (r 6) 120 TB))) := hD
    refine W.eq (g2 := F0 m 10 ls []) rfl ?_
    obtain ⟨p7, hp7⟩ : ∃ z, z = nx TB nn p := ⟨_, rfl⟩
    have hp6 : tyR a11 a22 a33 a44 p7 := by rw [hp7]; exact hp6
    obtain ⟨rfl, rfl, rfl, hv_p7⟩ := hp6
    have hi_p7 : tkI nn p7 := by rw [hp7]; exact (nx_I hi).1
    refine lv_aload_n hx hb dX5_perhaps_10 rfl (lv_at hl 0 rfl) ?_
    refine x_iconst hx hb dX5_perhaps_11 ?_
    refine lv_iload_n hx hb dX5_perhaps_12 rfl (lv_at hl 3 rfl) ?_
    refine x_callV (As := [.int (iI 0), .int (iI mo)]) (rest := []) ⟨hx, hb, hml, hown, hts⟩ (kX5_isNumber r ik ((nn : Nat) : Int) b0 b1 p7.1 ((p7.2.1 : Nat) : Int) ((p7.2.2.1 : Nat) : Int) a44 fa 0 mo nn p7 ⟨rfl, rfl, rfl, hv_p7⟩ hi_p7 rfl hmo) (cwV 2 hts gX5_perhaps_X5_isNumber rfl rfl rfl ykVX5_isNumber ⟨Nat.le_of_ble_eq_true rfl, Nat.le_of_ble_eq_true rfl⟩) hP hK hD hS 0 4 rfl rfl rfl [0] rfl (by decide) (fun _ => rfl) (fun u => wRo r ik ((nn : Nat) : Int) (jk b0 b1 p7.1 ((p7.2.1 : Nat) : Int) ((p7.2.2.1 : Nat) : Int) a44 u) ++ (wA cI (r 1) 100 T ++ (wA cI (r 6) 120 TB))) (fun _ => rfl) rfl hl.1 rfl (Nat.le_of_ble_eq_true rfl) dX5_perhaps_13 ⟨Nat.le_of_ble_eq_true rfl, Nat.le_of_ble_eq_true rfl⟩ (fun u9 H locs hp10 hP hD hS => ?_)
    obtain ⟨fa18, rfl⟩ : ∃ z, z = u9 := ⟨_, rfl⟩
    replace hp10 : fa18 = if nbB p7 mo = true then fa else ((p7.2.1 : Nat) : Int) := hp10
    have hP : va_P D vwCl (wRo r ik ((nn : Nat) : Int) (jk b0 b1 p7.1 ((p7.2.1 : Nat) : Int) ((p7.2.2.1 : Nat) : Int) a44 fa18) ++ (wA cI (r 1) 100 T ++ (wA cI (r 6) 120 TB))) H := hP
    have hD : va_D A (wRo r ik ((nn : Nat) : Int) (jk b0 b1 p7.1 ((p7.2.1 : Nat) : Int) ((p7.2.2.1 : Nat) : Int) a44 fa18) ++ (wA cI (r 1) 100 T ++ (wA cI (r 6) 120 TB))) := hD
    refine W.eq (g2 := F0 m 16 ls [.int (iI (b2 (decide (nbB p7 mo = true))))]) rfl ?_
    refine x_ifb_ne (tgt := 21) hx hb dX5_perhaps_16 (by decide) (fun c_16 => ?_) (fun c_16 => ?_)
    · rw [hp10, if_pos c_16] at hP hD
      refine lv_aload_n hx hb dX5_perhaps_21 rfl (lv_at hl 0 rfl) ?_
      refine va_get (D := D) (ci := 4) (v := .ref (r 1)) (C := RX5) (T := TX5) (N := 18) hx hb hts (iT_X5_perhaps_X5) hown hK hP 0 rfl rfl 0 (by decide) (hts (.fieldLink RX5 7 "WordSupperModel" "s" "[I") (by decide +kernel)) (fun _ h9 => h9) rfl dX5_perhaps_22 ?_
      refine lv_iload_n hx hb dX5_perhaps_25 rfl (lv_at hl 2 rfl) ?_
      refine lv_aload_n hx hb dX5_perhaps_26 rfl (lv_at hl 0 rfl) ?_
      refine va_get (D := D) (ci := 4) (v := .int (iI a44)) (C := RX5) (T := TX5) (N := 18) hx hb hts (iT_X5_perhaps_X5) hown hK hP 0 rfl rfl 16 (by decide) (hts (.fieldLink RX5 220 "WordSupperModel" "value" "I") (by decide +kernel)) (fun _ h9 => h9) rfl dX5_perhaps_27 ?_
      have q5 := nbB_i.mp c_16
      have q6 := hv_p7 q5.1
      refine x_topi p7.2.2.2 (by omega) ?_
      refine x_iast hx hb hK hP hD hS 1 0 rfl rfl i rfl (by omega) (by decide) (wRo r ik ((nn : Nat) : Int) (jk b0 b1 p7.1 ((p7.2.1 : Nat) : Int) ((p7.2.2.1 : Nat) : Int) a44 fa) ++ (wA cI (r 1) 100 (va_up T i p7.2.2.2) ++ (wA cI (r 6) 120 TB))) (by rw [← wA_up cI (r 1) 100 T p7.2.2.2 i (by omega)]; rfl) dX5_perhaps_30 (fun H locs hP hD hS => ?_)
      refine lv_aload_n hx hb dX5_perhaps_31 rfl (lv_at hl 0 rfl) ?_
      refine x_callV (As := []) (rest := []) ⟨hx, hb, hml, hown, hts⟩ (kX5_nextToken r ik ((nn : Nat) : Int) b0 b1 p7.1 ((p7.2.1 : Nat) : Int) ((p7.2.2.1 : Nat) : Int) a44 fa TB nn p7.2.2.1 rfl hn9 hTB rfl hi_p7.2.1) (cwV 0 hts gX5_perhaps_X5_nextToken rfl rfl rfl ykVX5_nextToken ⟨Nat.le_of_ble_eq_true rfl, Nat.le_of_ble_eq_true rfl⟩) hP hK hD hS 0 4 rfl rfl rfl [0, 2] rfl (by decide) (fun _ => rfl) (fun u => wRo r ik ((nn : Nat) : Int) (jk b0 b1 u.1 u.2.1 u.2.2.1 u.2.2.2 fa) ++ (wA cI (r 1) 100 (va_up T i p7.2.2.2) ++ (wA cI (r 6) 120 TB))) (fun _ => rfl) rfl hl.1 rfl (Nat.le_of_ble_eq_true rfl) dX5_perhaps_32 ⟨Nat.le_of_ble_eq_true rfl, Nat.le_of_ble_eq_true rfl⟩ (fun u15 H locs hp16 hP hD hS => ?_)
      obtain ⟨a111, a212, a313, a414⟩ := u15
      replace hp16 : tyR a111 a212 a313 a414 (tnF TB nn p7.2.2.1) := hp16
      have hP : va_P D vwCl (wRo r ik ((nn : Nat) : Int) (jk b0 b1 a111 a212 a313 a414 fa) ++ (wA cI (r 1) 100 (va_up T i p7.2.2.2) ++ (wA cI (r 6) 120 TB))) H := hP
      have hD : va_D A (wRo r ik ((nn : Nat) : Int) (jk b0 b1 a111 a212 a313 a414 fa) ++ (wA cI (r 1) 100 (va_up T i p7.2.2.2) ++ (wA cI (r 6) 120 TB))) := hD
      refine W.eq (g2 := F0 m 35 ls []) rfl ?_
      obtain ⟨p17, hp17⟩ : ∃ z, z = nx TB nn p7 := ⟨_, rfl⟩
      have hp16 : tyR a111 a212 a313 a414 p17 := by rw [hp17]; exact hp16
      obtain ⟨rfl, rfl, rfl, hv_p17⟩ := hp16
      have hi_p17 : tkI nn p17 := by rw [hp17]; exact (nx_I hi_p7).1
      refine x_iconst hx hb dX5_perhaps_35 ?_
      exact kend (p17.1, ((p17.2.1 : Nat) : Int), ((p17.2.2.1 : Nat) : Int), a414, fa, (va_up T i p7.2.2.2)) hP hS (an_i (b2_z (x := true) (y := ((va_up T i p7.2.2.2), p17)) ((pk_c h_c).trans (by rw [pk_y (by rw [← hp7]; exact c_16), ← hp7, ← hp17]))).symm) (rr_t (x := true) ((pk_c h_c).trans (by rw [pk_y (by rw [← hp7]; exact c_16), ← hp7, ← hp17])) ⟨rfl, rfl, rfl, hv_p17⟩ (fun q9 => absurd q9 (by decide))) (by decide) dX5_perhaps_36
    · have hfa9 := hp10.trans (if_neg c_16)
      refine x_iconst hx hb dX5_perhaps_19 ?_
      exact kend (p7.1, ((p7.2.1 : Nat) : Int), ((p7.2.2.1 : Nat) : Int), a44, fa18, T) hP hS (an_i (b2_z (x := false) (y := (T, p7)) ((pk_c h_c).trans (by rw [pk_n (by rw [← hp7]; exact c_16), ← hp7]))).symm) (rr_t (x := false) ((pk_c h_c).trans (by rw [pk_n (by rw [← hp7]; exact c_16), ← hp7])) ⟨rfl, rfl, rfl, hv_p7⟩ (fun _ => hfa9)) (by decide) dX5_perhaps_20
  · have h_c : ¬ cnd = true := fun q9 => by rw [q9] at c_1; exact absurd c_1 (by decide)
    refine x_iconst hx hb dX5_perhaps_4 ?_
    exact kend (p.1, ((p.2.1 : Nat) : Int), ((p.2.2.1 : Nat) : Int), cv, fa, T) hP hS (an_i (b2_z (x := true) (y := (T, p)) (pk_o h_c)).symm) (rr_t (x := true) (pk_o h_c) ⟨rfl, rfl, rfl, hv_p⟩ (fun q9 => absurd q9 (by decide))) (by decide) dX5_perhaps_5
