def rqP (r : Rs) (a b c d fa : Int) (T : Tb) (ok : Bool) : Prop := T = r.2.1 ∧ tyR a b c d r.2.2 ∧ okQ ok r fa
theorem rq_t {r : Rs} {a b c d fa : Int} {T : Tb} {p : Tk} {x ok : Bool} (e : r = (x, T, p)) (h : tyR a b c d p) (h2 : okQ ok (x, T, p) fa) : rqP r a b c d fa T ok := by rw [e]; exact ⟨rfl, h, h2⟩
theorem ok_t (T : Tb) (p : Tk) (fa : Int) : okQ true (true, T, p) fa := ⟨fun _ => rfl, fun q => absurd q (by decide)⟩
theorem ok_f {T : Tb} {p : Tk} {fa : Int} (h : fa = (p.2.1 : Int)) : okQ false (false, T, p) fa := ⟨fun q => absurd q (by decide), fun _ => ⟨Or.inl rfl, h⟩⟩
theorem ok_2 {T : Tb} {p : Tk} {fa : Int} {x : Bool} (h : fa = (p.2.1 : Int)) (h2 : p.1 = 2) : okQ false (x, T, p) fa := ⟨fun q => absurd q (by decide), fun _ => ⟨Or.inr h2, h⟩⟩
theorem rr_3 {r : Rs} {a b c d fa : Int} {T : Tb} (h : rsR r a b c d fa T) (h1 : r.1 = true) : r = (true, T, r.2.2) := by rw [h.1, ← h1]
theorem rr_q {r : Rs} {a b c d fa : Int} {T : Tb} (h : rsR r a b c d fa T) : rqP r a b c d fa T r.1 := ⟨h.1, h.2.1, ⟨id, fun q => ⟨Or.inl q, h.2.2 q⟩⟩⟩
theorem ykSX5_listHere : yX5_listHere.cls ≠ "java/lang/invoke/MethodHandle" ∧ yX5_listHere.cls ≠ "java/lang/invoke/VarHandle" ∧ (parseMethodDescriptor yX5_listHere.desc).map (fun d => d.parameters.length) = some 0 := by decide +kernel
theorem ykVX5_listHere : yX5_listHere.cls = RX5 ∧ yX5_listHere.cls ≠ "java/lang/invoke/MethodHandle" ∧ yX5_listHere.cls ≠ "java/lang/invoke/VarHandle" ∧ (parseMethodDescriptor yX5_listHere.desc).map (fun d => d.parameters.length) = some 0 := ⟨rfl, ykSX5_listHere⟩
set_option maxRecDepth 20000 in
theorem iT_X5_listHere_X5 : ∀ w ∈ u_ws RX5 TX5 18, w ∈ wsX5_listHere := by decide +kernel
set_option maxHeartbeats 4000000 in
set_option maxRecDepth 100000 in
theorem kX5_listHere {l : Launch} {D : va_G} {cI cB : ClassId} (r : Nat → Nat) (ik : Int) (tn : Int) (b0 : Int) (b1 : Int) (ct : Int) (cf : Int) (ce : Int) (cv : Int) (fa : Int) (T : Tb) (TB : Nat → Int) (nn : Nat) (p : Tk) (hn : tn = ((nn : Nat) : Int)) (hn9 : nn ≤ 120) (hTB : ∀ i : Nat, i < 120 → 0 ≤ TB i ∧ TB i ≤ 255) (hp : tyR ct cf ce cv p) (hi : tkI nn p) : Ct l yX5_listHere wsX5_listHere 3 70 D [(cI, .int), (cB, .byte)] [.ref (r 0)] (wRo r ik tn (jk b0 b1 ct cf ce cv fa) ++ (wA cI (r 1) 100 T ++ (wA cI (r 6) 120 TB))) (S := Int × Int × Int × Int × Int × Tb) (fun u => some (.int (iI (b2 (decide ((liF TB nn T p).1 = true)))))) (fun u => rsR (liF TB nn T p) u.1 u.2.1 u.2.2.1 u.2.2.2.1 u.2.2.2.2.1 u.2.2.2.2.2) (fun u => wRo r ik tn (jk b0 b1 u.1 u.2.1 u.2.2.1 u.2.2.2.1 u.2.2.2.2.1) ++ (wA cI (r 1) 100 u.2.2.2.2.2 ++ (wA cI (r 6) 120 TB))) := by
  refine CtZ.of (cc := cX5_listHere) (maxL := 1) (by decide +kernel) rfl (Nat.le_of_ble_eq_true rfl) ?_
  intro pg e s m args below meth c Q A hx hb hml hts hown hP hK hD hS ls hl kend
  have hown : s.vm.findClass RX5 = some m.cls := hown
  have hl : lv_has ls 1 [(0, .ref (r 0))] := hl
  subst hn
  obtain ⟨rfl, rfl, rfl, hv_p⟩ := hp
  refine lv_aload_n hx hb dX5_listHere_0 rfl (lv_at hl 0 rfl) ?_
  refine x_callV (As := []) (rest := []) ⟨hx, hb, hml, hown, hts⟩ (kX5_nextToken r ik ((nn : Nat) : Int) b0 b1 p.1 ((p.2.1 : Nat) : Int) ((p.2.2.1 : Nat) : Int) cv fa TB nn p.2.2.1 rfl hn9 hTB rfl hi.2.1) (cwV 0 hts gX5_listHere_X5_nextToken rfl rfl rfl ykVX5_nextToken ⟨Nat.le_of_ble_eq_true rfl, Nat.le_of_ble_eq_true rfl⟩) hP hK hD hS 0 4 rfl rfl rfl [0, 2] rfl (by decide) (fun _ => rfl) (fun u => wRo r ik ((nn : Nat) : Int) (jk b0 b1 u.1 u.2.1 u.2.2.1 u.2.2.2 fa) ++ (wA cI (r 1) 100 T ++ (wA cI (r 6) 120 TB))) (fun _ => rfl) rfl hl.1 rfl (Nat.le_of_ble_eq_true rfl) dX5_listHere_1 ⟨Nat.le_of_ble_eq_true rfl, Nat.le_of_ble_eq_true rfl⟩ (fun u5 H locs hp6 hP hD hS => ?_)
  obtain ⟨a11, a22, a33, a44⟩ := u5
  replace hp6 : tyR a11 a22 a33 a44 (tnF TB nn p.2.2.1) := hp6
  have hP : va_P D vwCl (wRo r ik ((nn : Nat) : Int) (jk b0 b1 a11 a22 a33 a44 fa) ++ (wA cI (r 1) 100 T ++ (wA cI (r 6) 120 TB))) H := hP
  have hD : va_D A (wRo r ik ((nn : Nat) : Int) (jk b0 b1 a11 a22 a33 a44 fa) ++ (wA cI (r 1) 100 T ++ (wA cI (r 6) 120 TB))) := hD
  refine W.eq (g2 := F0 m 4 ls []) rfl ?_
  obtain ⟨p7, hp7⟩ : ∃ z, z = nx TB nn p := ⟨_, rfl⟩
  have hp6 : tyR a11 a22 a33 a44 p7 := by rw [hp7]; exact hp6
  obtain ⟨rfl, rfl, rfl, hv_p7⟩ := hp6
  have hi_p7 : tkI nn p7 := by rw [hp7]; exact (nx_I hi).1
  refine lv_aload_n hx hb dX5_listHere_4 rfl (lv_at hl 0 rfl) ?_
  refine x_iconst hx hb dX5_listHere_5 ?_
  refine x_iconst hx hb dX5_listHere_6 ?_
  refine x_callV (As := [.int (iI 0), .int (iI 5)]) (rest := []) ⟨hx, hb, hml, hown, hts⟩ (kX5_isNumber r ik ((nn : Nat) : Int) b0 b1 p7.1 ((p7.2.1 : Nat) : Int) ((p7.2.2.1 : Nat) : Int) a44 fa 0 5 nn p7 ⟨rfl, rfl, rfl, hv_p7⟩ hi_p7 rfl (by decide)) (cwV 2 hts gX5_listHere_X5_isNumber rfl rfl rfl ykVX5_isNumber ⟨Nat.le_of_ble_eq_true rfl, Nat.le_of_ble_eq_true rfl⟩) hP hK hD hS 0 4 rfl rfl rfl [0] rfl (by decide) (fun _ => rfl) (fun u => wRo r ik ((nn : Nat) : Int) (jk b0 b1 p7.1 ((p7.2.1 : Nat) : Int) ((p7.2.2.1 : Nat) : Int) a44 u) ++ (wA cI (r 1) 100 T ++ (wA cI (r 6) 120 TB))) (fun _ => rfl) rfl hl.1 rfl (Nat.le_of_ble_eq_true rfl) dX5_listHere_7 ⟨Nat.le_of_ble_eq_true rfl, Nat.le_of_ble_eq_true rfl⟩ (fun u9 H locs hp10 hP hD hS => ?_)
  obtain ⟨fa18, rfl⟩ : ∃ z, z = u9 := ⟨_, rfl⟩
  replace hp10 : fa18 = if nbB p7 5 = true then fa else ((p7.2.1 : Nat) : Int) := hp10
  have hP : va_P D vwCl (wRo r ik ((nn : Nat) : Int) (jk b0 b1 p7.1 ((p7.2.1 : Nat) : Int) ((p7.2.2.1 : Nat) : Int) a44 fa18) ++ (wA cI (r 1) 100 T ++ (wA cI (r 6) 120 TB))) H := hP
  have hD : va_D A (wRo r ik ((nn : Nat) : Int) (jk b0 b1 p7.1 ((p7.2.1 : Nat) : Int) ((p7.2.2.1 : Nat) : Int) a44 fa18) ++ (wA cI (r 1) 100 T ++ (wA cI (r 6) 120 TB))) := hD
  refine W.eq (g2 := F0 m 10 ls [.int (iI (b2 (decide (nbB p7 5 = true))))]) rfl ?_
  refine x_ifb_eq (tgt := 33) hx hb dX5_listHere_10 (by decide) (fun c_10 => ?_) (fun c_10 => ?_)
  · have hfa9 := hp10.trans (if_neg c_10)
    refine x_iconst hx hb dX5_listHere_33 ?_
    exact kend (p7.1, ((p7.2.1 : Nat) : Int), ((p7.2.2.1 : Nat) : Int), a44, fa18, T) hP hS (an_i (b2_z (x := false) (y := (T, p7)) (by unfold liF; rw [← hp7, if_neg c_10])).symm) (rr_t (x := false) (by unfold liF; rw [← hp7, if_neg c_10]) ⟨rfl, rfl, rfl, hv_p7⟩ (fun _ => hfa9)) (by decide) dX5_listHere_34
  · rw [hp10, if_pos c_10] at hP hD
    refine lv_aload_n hx hb dX5_listHere_13 rfl (lv_at hl 0 rfl) ?_
    refine x_iconst hx hb dX5_listHere_14 ?_
    refine x_iconst hx hb dX5_listHere_15 ?_
    refine lv_aload_n hx hb dX5_listHere_16 rfl (lv_at hl 0 rfl) ?_
    refine va_get (D := D) (ci := 4) (v := .int (iI a44)) (C := RX5) (T := TX5) (N := 18) hx hb hts (iT_X5_listHere_X5) hown hK hP 0 rfl rfl 16 (by decide) (hts (.fieldLink RX5 220 "WordSupperModel" "value" "I") (by decide +kernel)) (fun _ h9 => h9) rfl dX5_listHere_17 ?_
    have q7 := nbB_i.mp c_10
    have q6 := hv_p7 q7.1
    obtain ⟨z1, z2, z3, z4, z5, z6⟩ := id hi_p7
    have e_l : liF TB nn T p = pkF TB nn true (4 + p7.2.2.2.toNat) 20 T p7 := by unfold liF; rw [← hp7, if_pos c_10]
    refine x_topi ((p7.2.2.2.toNat : Nat) : Int) (by omega) ?_
    refine x_iadd hx hb dX5_listHere_20 ?_
    refine x_topi ((4 + p7.2.2.2.toNat : Nat) : Int) (by omega) ?_
    refine x_bipush hx hb dX5_listHere_21 (by decide) ?_
    refine x_callV (As := [.int (iI 1), .int (iI ((4 + p7.2.2.2.toNat : Nat) : Int)), .int (iI 20)]) (rest := []) ⟨hx, hb, hml, hown, hts⟩ (kX5_perhaps r ik ((nn : Nat) : Int) b0 b1 p7.1 ((p7.2.1 : Nat) : Int) ((p7.2.2.1 : Nat) : Int) a44 fa T TB 1 (4 + p7.2.2.2.toNat) 20 nn p7 true rfl hn9 hTB ⟨rfl, rfl, rfl, hv_p7⟩ hi_p7 rfl (by omega) (by decide)) (cwV 3 hts gX5_listHere_X5_perhaps rfl rfl rfl ykVX5_perhaps ⟨Nat.le_of_ble_eq_true rfl, Nat.le_of_ble_eq_true rfl⟩) hP hK hD hS 0 4 rfl rfl rfl [0, 1, 2] rfl (by decide) (fun _ => rfl) (fun u => wRo r ik ((nn : Nat) : Int) (jk b0 b1 u.1 u.2.1 u.2.2.1 u.2.2.2.1 u.2.2.2.2.1) ++ (wA cI (r 1) 100 u.2.2.2.2.2 ++ (wA cI (r 6) 120 TB))) (fun _ => rfl) rfl hl.1 rfl (Nat.le_of_ble_eq_true rfl) dX5_listHere_23 ⟨Nat.le_of_ble_eq_true rfl, Nat.le_of_ble_eq_true rfl⟩ (fun u17 H locs hp18 hP hD hS => ?_)
    obtain ⟨a111, a212, a313, a414, fa115, T116⟩ := u17
    replace hp18 : rsR (pkF TB nn true (4 + p7.2.2.2.toNat) 20 T p7) a111 a212 a313 a414 fa115 T116 := hp18
    have hP : va_P D vwCl (wRo r ik ((nn : Nat) : Int) (jk b0 b1 a111 a212 a313 a414 fa115) ++ (wA cI (r 1) 100 T116 ++ (wA cI (r 6) 120 TB))) H := hP
    have hD : va_D A (wRo r ik ((nn : Nat) : Int) (jk b0 b1 a111 a212 a313 a414 fa115) ++ (wA cI (r 1) 100 T116 ++ (wA cI (r 6) 120 TB))) := hD
    refine W.eq (g2 := F0 m 26 ls [.int (iI (b2 (decide ((pkF TB nn true (4 + p7.2.2.2.toNat) 20 T p7).1 = true))))]) rfl ?_
    refine x_ifb_eq (tgt := 33) hx hb dX5_listHere_26 (by decide) (fun c_26 => ?_) (fun c_26 => ?_)
    · refine x_iconst hx hb dX5_listHere_33 ?_
      exact kend (a111, a212, a313, a414, fa115, T116) hP hS (by rw [e_l]; exact an_i (b2_f c_26).symm) (by rw [e_l]; exact hp18) (by decide) dX5_listHere_34
    · refine x_iconst hx hb dX5_listHere_29 ?_
      refine lv_goto (tgt := 34) hx hb dX5_listHere_30 (by decide) ?_
      exact kend (a111, a212, a313, a414, fa115, T116) hP hS (by rw [e_l]; exact an_i (b2_t c_26).symm) (by rw [e_l]; exact hp18) (by decide) dX5_listHere_34
theorem ykSX5_plateHere : yX5_plateHere.cls ≠ "java/lang/invoke/MethodHandle" ∧ yX5_plateHere.cls ≠ "java/lang/invoke/VarHandle" ∧ (parseMethodDescriptor yX5_plateHere.desc).map (fun d => d.parameters.length) = some 1 := by decide +kernel
theorem ykVX5_plateHere : yX5_plateHere.cls = RX5 ∧ yX5_plateHere.cls ≠ "java/lang/invoke/MethodHandle" ∧ yX5_plateHere.cls ≠ "java/lang/invoke/VarHandle" ∧ (parseMethodDescriptor yX5_plateHere.desc).map (fun d => d.parameters.length) = some 1 := ⟨rfl, ykSX5_plateHere⟩
set_option maxRecDepth 20000 in
theorem iT_X5_plateHere_X5 : ∀ w ∈ u_ws RX5 TX5 18, w ∈ wsX5_plateHere := by decide +kernel
set_option maxHeartbeats 4000000 in
set_option maxRecDepth 100000 in
theorem kX5_plateHere {l : Launch} {D : va_G} {cI cB : ClassId} (r : Nat → Nat) (ik : Int) (tn : Int) (b0 : Int) (b1 : Int) (ct : Int) (cf : Int) (ce : Int) (cv : Int) (fa : Int) (T : Tb) (TB : Nat → Int) (n : Nat) (nn : Nat) (p : Tk) (hn : tn = ((nn : Nat) : Int)) (hn9 : nn ≤ 120) (hTB : ∀ i : Nat, i < 120 → 0 ≤ TB i ∧ TB i ≤ 255) (hp : tyR ct cf ce cv p) (hi : tkI nn p) (hnb : n < 8) : Ct l yX5_plateHere wsX5_plateHere 3 70 D [(cI, .int), (cB, .byte)] [.ref (r 0), .int (iI ((n : Nat) : Int))] (wRo r ik tn (jk b0 b1 ct cf ce cv fa) ++ (wA cI (r 1) 100 T ++ (wA cI (r 6) 120 TB))) (S := Int × Int × Int × Int × Int × Tb × Bool) (fun u => some (.int (iI (b2 (decide (u.2.2.2.2.2.2 = true)))))) (fun u => rqP (plF TB nn n T p) u.1 u.2.1 u.2.2.1 u.2.2.2.1 u.2.2.2.2.1 u.2.2.2.2.2.1 u.2.2.2.2.2.2) (fun u => wRo r ik tn (jk b0 b1 u.1 u.2.1 u.2.2.1 u.2.2.2.1 u.2.2.2.2.1) ++ (wA cI (r 1) 100 u.2.2.2.2.2.1 ++ (wA cI (r 6) 120 TB))) := by
  refine CtZ.of (cc := cX5_plateHere) (maxL := 3) (by decide +kernel) rfl (Nat.le_of_ble_eq_true rfl) ?_
  intro pg e s m args below meth c Q A hx hb hml hts hown hP hK hD hS ls hl kend
  have hown : s.vm.findClass RX5 = some m.cls := hown
  have hl : lv_has ls 3 [(0, .ref (r 0)), (1, .int (iI ((n : Nat) : Int)))] := hl
  subst hn
  obtain ⟨rfl, rfl, rfl, hv_p⟩ := hp
  refine lv_aload_n hx hb dX5_plateHere_0 rfl (lv_at hl 0 rfl) ?_
  refine x_bipush hx hb dX5_plateHere_1 (by decide) ?_
  refine x_bipush hx hb dX5_plateHere_3 (by decide) ?_
  refine x_bipush hx hb dX5_plateHere_5 (by decide) ?_
  refine x_bipush hx hb dX5_plateHere_7 (by decide) ?_
  refine x_bipush hx hb dX5_plateHere_9 (by decide) ?_
  refine x_callV (As := [.int (iI 112), .int (iI 108), .int (iI 97), .int (iI 116), .int (iI 101)]) (rest := []) ⟨hx, hb, hml, hown, hts⟩ (kX5_isFive r ik ((nn : Nat) : Int) b0 b1 p.1 ((p.2.1 : Nat) : Int) ((p.2.2.1 : Nat) : Int) cv fa TB 112 108 97 116 101 nn p rfl hn9 hTB ⟨rfl, rfl, rfl, hv_p⟩ hi (by decide) (by decide) (by decide) (by decide) (by decide)) (cwV 5 hts gX5_plateHere_X5_isFive rfl rfl rfl ykVX5_isFive ⟨Nat.le_of_ble_eq_true rfl, Nat.le_of_ble_eq_true rfl⟩) hP hK hD hS 0 4 rfl rfl rfl [0, 2] rfl (by decide) (fun _ => rfl) (fun _ => wRo r ik ((nn : Nat) : Int) (jk b0 b1 p.1 ((p.2.1 : Nat) : Int) ((p.2.2.1 : Nat) : Int) cv fa) ++ (wA cI (r 1) 100 T ++ (wA cI (r 6) 120 TB))) (fun _ => rfl) rfl hl.1 rfl (Nat.le_of_ble_eq_true rfl) dX5_plateHere_11 ⟨Nat.le_of_ble_eq_true rfl, Nat.le_of_ble_eq_true rfl⟩ (fun _ H locs _ hP hD hS => ?_)
  refine W.eq (g2 := F0 m 14 ls [.int (iI (b2 (decide (wdB TB p [112, 108, 97, 116, 101] = true))))]) rfl ?_
  refine x_ifb_ne (tgt := 19) hx hb dX5_plateHere_14 (by decide) (fun c_14 => ?_) (fun c_14 => ?_)
  · have c_14 : wdB TB p (wdA 11) = true := c_14
    refine lv_aload_n hx hb dX5_plateHere_19 rfl (lv_at hl 0 rfl) ?_
    refine x_callV (As := []) (rest := []) ⟨hx, hb, hml, hown, hts⟩ (kX5_nextToken r ik ((nn : Nat) : Int) b0 b1 p.1 ((p.2.1 : Nat) : Int) ((p.2.2.1 : Nat) : Int) cv fa TB nn p.2.2.1 rfl hn9 hTB rfl hi.2.1) (cwV 0 hts gX5_plateHere_X5_nextToken rfl rfl rfl ykVX5_nextToken ⟨Nat.le_of_ble_eq_true rfl, Nat.le_of_ble_eq_true rfl⟩) hP hK hD hS 0 4 rfl rfl rfl [0, 2] rfl (by decide) (fun _ => rfl) (fun u => wRo r ik ((nn : Nat) : Int) (jk b0 b1 u.1 u.2.1 u.2.2.1 u.2.2.2 fa) ++ (wA cI (r 1) 100 T ++ (wA cI (r 6) 120 TB))) (fun _ => rfl) rfl hl.1 rfl (Nat.le_of_ble_eq_true rfl) dX5_plateHere_20 ⟨Nat.le_of_ble_eq_true rfl, Nat.le_of_ble_eq_true rfl⟩ (fun u5 H locs hp6 hP hD hS => ?_)
    obtain ⟨a11, a22, a33, a44⟩ := u5
    replace hp6 : tyR a11 a22 a33 a44 (tnF TB nn p.2.2.1) := hp6
    have hP : va_P D vwCl (wRo r ik ((nn : Nat) : Int) (jk b0 b1 a11 a22 a33 a44 fa) ++ (wA cI (r 1) 100 T ++ (wA cI (r 6) 120 TB))) H := hP
    have hD : va_D A (wRo r ik ((nn : Nat) : Int) (jk b0 b1 a11 a22 a33 a44 fa) ++ (wA cI (r 1) 100 T ++ (wA cI (r 6) 120 TB))) := hD
    refine W.eq (g2 := F0 m 23 ls []) rfl ?_
    obtain ⟨p7, hp7⟩ : ∃ z, z = nx TB nn p := ⟨_, rfl⟩
    have hp6 : tyR a11 a22 a33 a44 p7 := by rw [hp7]; exact hp6
    obtain ⟨rfl, rfl, rfl, hv_p7⟩ := hp6
    have hi_p7 : tkI nn p7 := by rw [hp7]; exact (nx_I hi).1
    refine lv_aload_n hx hb dX5_plateHere_23 rfl (lv_at hl 0 rfl) ?_
    obtain ⟨z1, z2, z3, z4, z5, z6⟩ := id hi_p7
    refine va_get (D := D) (ci := 4) (v := .int (iI p7.1)) (C := RX5) (T := TX5) (N := 18) hx hb hts (iT_X5_plateHere_X5) hown hK hP 0 rfl rfl 13 (by decide) (hts (.fieldLink RX5 217 "WordSupperModel" "token" "I") (by decide +kernel)) (fun _ h9 => h9) rfl dX5_plateHere_24 ?_
    refine x_iconst hx hb dX5_plateHere_27 ?_
    refine x_icmp_eq (tgt := 36) hx hb (by omega) (by decide) dX5_plateHere_28 (by decide) (fun c_28 => ?_) (fun c_28 => ?_)
    · refine x_iconst hx hb dX5_plateHere_36 ?_
      refine lv_istore_n (lv' := [(2, .int (iI 0)), (0, .ref (r 0)), (1, .int (iI ((n : Nat) : Int)))]) hx hb dX5_plateHere_37 rfl hl (by decide) rfl (fun ls hl => ?_)
      have L38 : ∀ (k t : Nat) (Tt : Tb) (px : Tk) (vx : Int) (H : Heap) (locs : List Loc) (ls : Array Slot), t + k = 6 → (plL TB nn n k t Tt px = plL TB nn n 6 0 T p7) → (tkI nn px) → (px.1 = 2 → px.2.2.2 = min 1000 vx ∧ 0 ≤ vx ∧ vx ≤ 99999) → ((t = 0 ∧ px = p7 ∧ Tt = T) ∨ (0 < t ∧ nbB p7 999 = true)) → va_P D vwCl (wRo r ik ((nn : Nat) : Int) (jk b0 b1 px.1 ((px.2.1 : Nat) : Int) ((px.2.2.1 : Nat) : Int) vx fa) ++ (wA cI (r 1) 100 Tt ++ (wA cI (r 6) 120 TB))) H → va_D A (wRo r ik ((nn : Nat) : Int) (jk b0 b1 px.1 ((px.2.1 : Nat) : Int) ((px.2.2.1 : Nat) : Int) vx fa) ++ (wA cI (r 1) 100 Tt ++ (wA cI (r 6) 120 TB))) → va_S A s.heap H locs → lv_has ls 3 [(0, .ref (r 0)), (1, .int (iI ((n : Nat) : Int))), (2, .int (iI ((t : Nat) : Int)))] → W pg l e { frames := 3, cells := 0, slots := 0, locals := 70 } s m args below meth c H locs 0 0 Q (F0 m 38 ls []) := by
        intro k
        induction k with
        | zero =>
          intro t Tt px vx H locs ls hkt hr hi_px hv_px hz hP hD hS hl
          refine lv_aload_n hx hb dX5_plateHere_38 rfl (lv_at hl 0 rfl) ?_
          obtain ⟨y1, y2, y3, y4, y5, y6⟩ := id hi_px
          refine va_get (D := D) (ci := 4) (v := .int (iI px.1)) (C := RX5) (T := TX5) (N := 18) hx hb hts (iT_X5_plateHere_X5) hown hK hP 0 rfl rfl 13 (by decide) (hts (.fieldLink RX5 217 "WordSupperModel" "token" "I") (by decide +kernel)) (fun _ h9 => h9) rfl dX5_plateHere_39 ?_
          refine x_iconst hx hb dX5_plateHere_42 ?_
          refine x_icmp_ne (tgt := 91) hx hb (by omega) (by decide) dX5_plateHere_43 (by decide) (fun c_43 => ?_) (fun c_43 => ?_)
          · refine x_iconst hx hb dX5_plateHere_91 ?_
            exact kend (px.1, ((px.2.1 : Nat) : Int), ((px.2.2.1 : Nat) : Int), vx, fa, Tt, true) hP hS rfl (rq_t (x := true) (by unfold plF plQ; rw [if_pos c_14, ← hp7, if_pos (hz.elim (fun q9 => by exfalso; omega) (fun q9 => q9.2)), ← hr]; rfl) ⟨rfl, rfl, rfl, hv_px⟩ (ok_t _ _ _)) (by decide) dX5_plateHere_92
          · refine lv_iload_n hx hb dX5_plateHere_46 rfl (lv_at hl 2 rfl) ?_
            refine x_bipush hx hb dX5_plateHere_47 (by decide) ?_
            refine x_icmp_ge (tgt := 91) hx hb (by omega) (by decide) dX5_plateHere_49 (by decide) (fun c_49 => ?_) (fun c_49 => ?_)
            · refine x_iconst hx hb dX5_plateHere_91 ?_
              exact kend (px.1, ((px.2.1 : Nat) : Int), ((px.2.2.1 : Nat) : Int), vx, fa, Tt, true) hP hS rfl (rq_t (x := true) (by unfold plF plQ; rw [if_pos c_14, ← hp7, if_pos (hz.elim (fun q9 => by exfalso; omega) (fun q9 => q9.2)), ← hr]; rfl) ⟨rfl, rfl, rfl, hv_px⟩ (ok_t _ _ _)) (by decide) dX5_plateHere_92
            · exfalso; omega
        | succ k ih =>
          intro t Tt px vx H locs ls hkt hr hi_px hv_px hz hP hD hS hl
          refine lv_aload_n hx hb dX5_plateHere_38 rfl (lv_at hl 0 rfl) ?_
          obtain ⟨y1, y2, y3, y4, y5, y6⟩ := id hi_px
          refine va_get (D := D) (ci := 4) (v := .int (iI px.1)) (C := RX5) (T := TX5) (N := 18) hx hb hts (iT_X5_plateHere_X5) hown hK hP 0 rfl rfl 13 (by decide) (hts (.fieldLink RX5 217 "WordSupperModel" "token" "I") (by decide +kernel)) (fun _ h9 => h9) rfl dX5_plateHere_39 ?_
          refine x_iconst hx hb dX5_plateHere_42 ?_
          refine x_icmp_ne (tgt := 91) hx hb (by omega) (by decide) dX5_plateHere_43 (by decide) (fun c_43 => ?_) (fun c_43 => ?_)
          · refine x_iconst hx hb dX5_plateHere_91 ?_
            exact kend (px.1, ((px.2.1 : Nat) : Int), ((px.2.2.1 : Nat) : Int), vx, fa, Tt, true) hP hS rfl (rq_t (x := true) (by unfold plF plQ; rw [if_pos c_14, ← hp7, if_pos (hz.elim (fun q9 => absurd c_28 (by rw [← q9.2.1]; exact c_43)) (fun q9 => q9.2)), ← hr, plL, if_neg (fun q9 => by have q8 := nbB_i.mp q9; omega)]) ⟨rfl, rfl, rfl, hv_px⟩ (ok_t _ _ _)) (by decide) dX5_plateHere_92
          · refine lv_iload_n hx hb dX5_plateHere_46 rfl (lv_at hl 2 rfl) ?_
            refine x_bipush hx hb dX5_plateHere_47 (by decide) ?_
            refine x_icmp_ge (tgt := 91) hx hb (by omega) (by decide) dX5_plateHere_49 (by decide) (fun c_49 => ?_) (fun c_49 => ?_)
            · exfalso; omega
            · refine lv_aload_n hx hb dX5_plateHere_52 rfl (lv_at hl 0 rfl) ?_
              refine x_iconst hx hb dX5_plateHere_53 ?_
              refine x_sipush hx hb dX5_plateHere_54 (by decide) ?_
              refine x_callV (As := [.int (iI 0), .int (iI 999)]) (rest := []) ⟨hx, hb, hml, hown, hts⟩ (kX5_isNumber r ik ((nn : Nat) : Int) b0 b1 px.1 ((px.2.1 : Nat) : Int) ((px.2.2.1 : Nat) : Int) vx fa 0 999 nn px ⟨rfl, rfl, rfl, hv_px⟩ hi_px rfl (by decide)) (cwV 2 hts gX5_plateHere_X5_isNumber rfl rfl rfl ykVX5_isNumber ⟨Nat.le_of_ble_eq_true rfl, Nat.le_of_ble_eq_true rfl⟩) hP hK hD hS 0 4 rfl rfl rfl [0] rfl (by decide) (fun _ => rfl) (fun u => wRo r ik ((nn : Nat) : Int) (jk b0 b1 px.1 ((px.2.1 : Nat) : Int) ((px.2.2.1 : Nat) : Int) vx u) ++ (wA cI (r 1) 100 Tt ++ (wA cI (r 6) 120 TB))) (fun _ => rfl) rfl hl.1 rfl (Nat.le_of_ble_eq_true rfl) dX5_plateHere_57 ⟨Nat.le_of_ble_eq_true rfl, Nat.le_of_ble_eq_true rfl⟩ (fun u9 H locs hp10 hP hD hS => ?_)
              obtain ⟨fa18, rfl⟩ : ∃ z, z = u9 := ⟨_, rfl⟩
              replace hp10 : fa18 = if nbB px 999 = true then fa else ((px.2.1 : Nat) : Int) := hp10
              have hP : va_P D vwCl (wRo r ik ((nn : Nat) : Int) (jk b0 b1 px.1 ((px.2.1 : Nat) : Int) ((px.2.2.1 : Nat) : Int) vx fa18) ++ (wA cI (r 1) 100 Tt ++ (wA cI (r 6) 120 TB))) H := hP
              have hD : va_D A (wRo r ik ((nn : Nat) : Int) (jk b0 b1 px.1 ((px.2.1 : Nat) : Int) ((px.2.2.1 : Nat) : Int) vx fa18) ++ (wA cI (r 1) 100 Tt ++ (wA cI (r 6) 120 TB))) := hD
              refine W.eq (g2 := F0 m 60 ls [.int (iI (b2 (decide (nbB px 999 = true))))]) rfl ?_
              refine x_ifb_ne (tgt := 65) hx hb dX5_plateHere_60 (by decide) (fun c_60 => ?_) (fun c_60 => ?_)
              · rw [hp10, if_pos c_60] at hP hD
                refine lv_aload_n hx hb dX5_plateHere_65 rfl (lv_at hl 0 rfl) ?_
                refine va_get (D := D) (ci := 4) (v := .ref (r 1)) (C := RX5) (T := TX5) (N := 18) hx hb hts (iT_X5_plateHere_X5) hown hK hP 0 rfl rfl 0 (by decide) (hts (.fieldLink RX5 7 "WordSupperModel" "s" "[I") (by decide +kernel)) (fun _ h9 => h9) rfl dX5_plateHere_66 ?_
                refine lv_iload_n hx hb dX5_plateHere_69 rfl (lv_at hl 1 rfl) ?_
                refine x_iconst hx hb dX5_plateHere_70 ?_
                refine lv_iload_n hx hb dX5_plateHere_71 rfl (lv_at hl 2 rfl) ?_
                refine x_iadd hx hb dX5_plateHere_72 ?_
                refine x_topi ((4 + t : Nat) : Int) (by omega) ?_
                refine x_callS (As := [.int (iI ((n : Nat) : Int)), .int (iI ((4 + t : Nat) : Int))]) (rest := [.ref (r 1)]) ⟨hx, hb, hml, hown, hts⟩ (kX5_at n (4 + t) ) (va_cwS 2 hts gX5_plateHere_X5_at rfl rfl rfl ykSX5_at ⟨Nat.le_of_ble_eq_true rfl, Nat.le_of_ble_eq_true rfl⟩) hP hK hD hS [] rfl (by decide) (fun _ => rfl) (fun _ => wRo r ik ((nn : Nat) : Int) (jk b0 b1 px.1 ((px.2.1 : Nat) : Int) ((px.2.2.1 : Nat) : Int) vx fa) ++ (wA cI (r 1) 100 Tt ++ (wA cI (r 6) 120 TB))) (fun _ => rfl) rfl hl.1 rfl (Nat.le_of_ble_eq_true rfl) dX5_plateHere_73 ⟨Nat.le_of_ble_eq_true rfl, Nat.le_of_ble_eq_true rfl⟩ (fun _ H locs _ hP hD hS => ?_)
                refine W.eq (g2 := F0 m 76 ls [.int (iI ((cx n (4 + t) : Nat) : Int)), .ref (r 1)]) rfl ?_
                refine lv_aload_n hx hb dX5_plateHere_76 rfl (lv_at hl 0 rfl) ?_
                refine va_get (D := D) (ci := 4) (v := .int (iI vx)) (C := RX5) (T := TX5) (N := 18) hx hb hts (iT_X5_plateHere_X5) hown hK hP 0 rfl rfl 16 (by decide) (hts (.fieldLink RX5 220 "WordSupperModel" "value" "I") (by decide +kernel)) (fun _ h9 => h9) rfl dX5_plateHere_77 ?_
                have q5 := nbB_i.mp c_60
                have q6 := hv_px q5.1
                refine x_topi px.2.2.2 (by omega) ?_
                refine x_iast hx hb hK hP hD hS 1 0 rfl rfl (cx n (4 + t)) rfl (cx_lt1 (by omega) (by omega)) (by decide) (wRo r ik ((nn : Nat) : Int) (jk b0 b1 px.1 ((px.2.1 : Nat) : Int) ((px.2.2.1 : Nat) : Int) vx fa) ++ (wA cI (r 1) 100 (va_up Tt (cx n (4 + t)) px.2.2.2) ++ (wA cI (r 6) 120 TB))) (by rw [← wA_up cI (r 1) 100 Tt px.2.2.2 (cx n (4 + t)) (cx_lt1 (by omega) (by omega))]; rfl) dX5_plateHere_80 (fun H locs hP hD hS => ?_)
                refine lv_aload_n hx hb dX5_plateHere_81 rfl (lv_at hl 0 rfl) ?_
                refine x_callV (As := []) (rest := []) ⟨hx, hb, hml, hown, hts⟩ (kX5_nextToken r ik ((nn : Nat) : Int) b0 b1 px.1 ((px.2.1 : Nat) : Int) ((px.2.2.1 : Nat) : Int) vx fa TB nn px.2.2.1 rfl hn9 hTB rfl hi_px.2.1) (cwV 0 hts gX5_plateHere_X5_nextToken rfl rfl rfl ykVX5_nextToken ⟨Nat.le_of_ble_eq_true rfl, Nat.le_of_ble_eq_true rfl⟩) hP hK hD hS 0 4 rfl rfl rfl [0, 2] rfl (by decide) (fun _ => rfl) (fun u => wRo r ik ((nn : Nat) : Int) (jk b0 b1 u.1 u.2.1 u.2.2.1 u.2.2.2 fa) ++ (wA cI (r 1) 100 (va_up Tt (cx n (4 + t)) px.2.2.2) ++ (wA cI (r 6) 120 TB))) (fun _ => rfl) rfl hl.1 rfl (Nat.le_of_ble_eq_true rfl) dX5_plateHere_82 ⟨Nat.le_of_ble_eq_true rfl, Nat.le_of_ble_eq_true rfl⟩ (fun u15 H locs hp16 hP hD hS => ?_)
                obtain ⟨a111, a212, a313, a414⟩ := u15
                replace hp16 : tyR a111 a212 a313 a414 (tnF TB nn px.2.2.1) := hp16
                have hP : va_P D vwCl (wRo r ik ((nn : Nat) : Int) (jk b0 b1 a111 a212 a313 a414 fa) ++ (wA cI (r 1) 100 (va_up Tt (cx n (4 + t)) px.2.2.2) ++ (wA cI (r 6) 120 TB))) H := hP
                have hD : va_D A (wRo r ik ((nn : Nat) : Int) (jk b0 b1 a111 a212 a313 a414 fa) ++ (wA cI (r 1) 100 (va_up Tt (cx n (4 + t)) px.2.2.2) ++ (wA cI (r 6) 120 TB))) := hD
                refine W.eq (g2 := F0 m 85 ls []) rfl ?_
                obtain ⟨p17, hp17⟩ : ∃ z, z = nx TB nn px := ⟨_, rfl⟩
                have hp16 : tyR a111 a212 a313 a414 p17 := by rw [hp17]; exact hp16
                obtain ⟨rfl, rfl, rfl, hv_p17⟩ := hp16
                have hi_p17 : tkI nn p17 := by rw [hp17]; exact (nx_I hi_px).1
                refine x_iinc hx hb 2 ((t + 1 : Nat) : Int) (by omega) [(2, .int (iI ((t + 1 : Nat) : Int))), (0, .ref (r 0)), (1, .int (iI ((n : Nat) : Int)))] dX5_plateHere_85 hl rfl (by decide) rfl (fun ls hl => ?_)
                refine lv_goto (tgt := 38) hx hb dX5_plateHere_88 (by decide) ?_
                exact ih (t + 1) (va_up Tt (cx n (4 + t)) px.2.2.2) p17 a414 _ _ _ (by omega) (by rw [← hr, plL, if_pos c_60, ← hp17]) hi_p17 hv_p17 (Or.inr ⟨by omega, hz.elim (fun q9 => by rw [← q9.2.1]; exact c_60) (fun q9 => q9.2)⟩) hP hD hS (lv_sub hl [1, 2, 0] rfl)
              · have hfa9 := hp10.trans (if_neg c_60)
                refine x_iconst hx hb dX5_plateHere_63 ?_
                exact kend (px.1, ((px.2.1 : Nat) : Int), ((px.2.2.1 : Nat) : Int), vx, fa18, Tt, false) hP hS rfl (hz.elim (fun q9 => rq_t (x := false) (by unfold plF plQ; rw [if_pos c_14, ← hp7, if_neg (by rw [← q9.2.1]; exact c_60), ← q9.2.1, q9.2.2]) ⟨rfl, rfl, rfl, hv_px⟩ (ok_f hfa9)) (fun q9 => rq_t (x := true) (by unfold plF plQ; rw [if_pos c_14, ← hp7, if_pos q9.2, ← hr, plL, if_neg c_60]) ⟨rfl, rfl, rfl, hv_px⟩ (ok_2 hfa9 (by omega)))) (by decide) dX5_plateHere_64
      exact L38 6 0 T p7 a44 _ _ _ (by omega) rfl hi_p7 hv_p7 (Or.inl ⟨rfl, rfl, rfl⟩) hP hD hS (lv_sub hl [1, 2, 0] rfl)
    · refine lv_aload_n hx hb dX5_plateHere_31 rfl (lv_at hl 0 rfl) ?_
      refine x_callV (As := []) (rest := []) ⟨hx, hb, hml, hown, hts⟩ (kX5_fails r ik ((nn : Nat) : Int) b0 b1 p7.1 ((p7.2.1 : Nat) : Int) ((p7.2.2.1 : Nat) : Int) a44 fa nn p7 ⟨rfl, rfl, rfl, hv_p7⟩ hi_p7) (cwV 0 hts gX5_plateHere_X5_fails rfl rfl rfl ykVX5_fails ⟨Nat.le_of_ble_eq_true rfl, Nat.le_of_ble_eq_true rfl⟩) hP hK hD hS 0 4 rfl rfl rfl [0] rfl (by decide) (fun _ => rfl) (fun _ => wRo r ik ((nn : Nat) : Int) (jk b0 b1 p7.1 ((p7.2.1 : Nat) : Int) ((p7.2.2.1 : Nat) : Int) a44 ((p7.2.1 : Nat) : Int)) ++ (wA cI (r 1) 100 T ++ (wA cI (r 6) 120 TB))) (fun _ => rfl) rfl hl.1 rfl (Nat.le_of_ble_eq_true rfl) dX5_plateHere_32 ⟨Nat.le_of_ble_eq_true rfl, Nat.le_of_ble_eq_true rfl⟩ (fun _ H locs _ hP hD hS => ?_)
      refine W.eq (g2 := F0 m 35 ls [.int (iI 0)]) rfl ?_
      exact kend (p7.1, ((p7.2.1 : Nat) : Int), ((p7.2.2.1 : Nat) : Int), a44, ((p7.2.1 : Nat) : Int), T, false) hP hS rfl (rq_t (x := false) (by unfold plF plQ; rw [if_pos c_14, ← hp7, if_neg (fun q9 => by have q8 := nbB_i.mp q9; omega)]) ⟨rfl, rfl, rfl, hv_p7⟩ (ok_f rfl)) (by decide) dX5_plateHere_35
  · have c_14 : ¬ wdB TB p (wdA 11) = true := c_14
    refine x_iconst hx hb dX5_plateHere_17 ?_
    exact kend (p.1, ((p.2.1 : Nat) : Int), ((p.2.2.1 : Nat) : Int), cv, fa, T, true) hP hS rfl (rq_t (x := true) (by unfold plF; rw [if_neg c_14]) ⟨rfl, rfl, rfl, hv_p⟩ (ok_t _ _ _)) (by decide) dX5_plateHere_18
