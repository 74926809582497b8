def spR (TB : Nat → Int) (nn : Nat) (kd : Int) (T : Tb) (p : Tk) : Rs := if 8 ≤ T 0 then (false, T, p) else spB TB nn (T 0).toNat (stF kd (T 0).toNat T) p
theorem wd_x {TB : Nat → Int} {p : Tk} {l1 l2 : List Int} (h1 : wdB TB p l1 = true) (h2 : wdB TB p l2 = true) : l1 = l2 := by
  obtain ⟨⟨a1, b1⟩, e1⟩ := wdB_i.mp h1
  obtain ⟨⟨a2, b2⟩, e2⟩ := wdB_i.mp h2
  have hl : l1.length = l2.length := by omega
  refine List.ext_getElem hl (fun i g1 g2 => ?_)
  have q1 := e1 i g1
  have q2 := e2 i g2
  rw [q1] at q2
  simpa [List.getD, g1, g2] using q2
theorem kd_x {TB : Nat → Int} {p : Tk} (h : 0 ≤ kdF TB p) : ¬ wdB TB p (wdA 0) = true ∧ ¬ wdB TB p (wdA 1) = true := by
  have key : ∃ k : Nat, (2 ≤ k ∧ k ≤ 8) ∧ wdB TB p (wdA k) = true := by
    unfold kdF at h
    by_cases g2 : wdB TB p (wdA 2) = true
    · exact ⟨2, by omega, g2⟩
    by_cases g3 : wdB TB p (wdA 3) = true
    · exact ⟨3, by omega, g3⟩
    by_cases g4 : wdB TB p (wdA 4) = true
    · exact ⟨4, by omega, g4⟩
    by_cases g5 : wdB TB p (wdA 5) = true
    · exact ⟨5, by omega, g5⟩
    by_cases g6 : wdB TB p (wdA 6) = true
    · exact ⟨6, by omega, g6⟩
    by_cases g7 : wdB TB p (wdA 7) = true
    · exact ⟨7, by omega, g7⟩
    by_cases g8 : wdB TB p (wdA 8) = true
    · exact ⟨8, by omega, g8⟩
    rw [if_neg g2, if_neg g3, if_neg g4, if_neg g5, if_neg g6, if_neg g7, if_neg g8] at h
    omega
  obtain ⟨k, hk, hw⟩ := key
  have nd : ∀ k : Nat, k < 9 → 2 ≤ k → wdA k ≠ wdA 0 ∧ wdA k ≠ wdA 1 := by decide +kernel
  have := nd k (by omega) hk.1
  exact ⟨fun q => this.1 (wd_x hw q), fun q => this.2 (wd_x hw q)⟩
theorem b2_00 {x : Bool} (h : ¬ x = true) : (0 : Int) = b2 x := by
  cases x
  · rfl
  · exact absurd rfl h
theorem bindR_n {r : Rs} {f : Tb → Tk → Rs} (h : ¬ r.1 = true) : bindR r f = r := if_neg h
theorem rr_n {r : Rs} {a b c d fa : Int} {T : Tb} (h : rsR r a b c d fa T) (h1 : ¬ r.1 = true) : rqP r a b c d fa T false := by
  have h2 : r.1 = false := by simpa using h1
  exact ⟨h.1, h.2.1, ⟨fun q => absurd q (by decide), fun _ => ⟨Or.inl h2, h.2.2 h2⟩⟩⟩
theorem ykSX5_speakerHere : yX5_speakerHere.cls ≠ "java/lang/invoke/MethodHandle" ∧ yX5_speakerHere.cls ≠ "java/lang/invoke/VarHandle" ∧ (parseMethodDescriptor yX5_speakerHere.desc).map (fun d => d.parameters.length) = some 1 := by decide +kernel
theorem ykVX5_speakerHere : yX5_speakerHere.cls = RX5 ∧ yX5_speakerHere.cls ≠ "java/lang/invoke/MethodHandle" ∧ yX5_speakerHere.cls ≠ "java/lang/invoke/VarHandle" ∧ (parseMethodDescriptor yX5_speakerHere.desc).map (fun d => d.parameters.length) = some 1 := ⟨rfl, ykSX5_speakerHere⟩
set_option maxRecDepth 20000 in
theorem iT_X5_speakerHere_X5 : ∀ w ∈ u_ws RX5 TX5 18, w ∈ wsX5_speakerHere := by decide +kernel
set_option maxHeartbeats 4000000 in
set_option maxRecDepth 100000 in
theorem kX5_speakerHere {l : Launch} {D : va_G} {cI cB : ClassId} (r : Nat → Nat) (ik : Int) (tn : Int) (b0 : Int) (b1 : Int) (ct : Int) (cf : Int) (ce : Int) (cv : Int) (fa : Int) (T : Tb) (TB : Nat → Int) (kd : Int) (nn : Nat) (p : Tk) (hn : tn = ((nn : Nat) : Int)) (hn9 : nn ≤ 120) (hTB : ∀ i : Nat, i < 120 → 0 ≤ TB i ∧ TB i ≤ 255) (hp : tyR ct cf ce cv p) (hi : tkI nn p) (hT8 : 0 ≤ T 0 ∧ T 0 ≤ 8) (hkd : rI kd) : Ct l yX5_speakerHere wsX5_speakerHere 4 92 D [(cI, .int), (cB, .byte)] [.ref (r 0), .int (iI kd)] (wRo r ik tn (jk b0 b1 ct cf ce cv fa) ++ (wA cI (r 1) 100 T ++ (wA cI (r 6) 120 TB))) (S := Int × Int × Int × Int × Int × Tb × Bool) (fun u => some (.int (iI (b2 (decide (u.2.2.2.2.2.2 = true)))))) (fun u => rqP (spR TB nn kd T p) u.1 u.2.1 u.2.2.1 u.2.2.2.1 u.2.2.2.2.1 u.2.2.2.2.2.1 u.2.2.2.2.2.2) (fun u => wRo r ik tn (jk b0 b1 u.1 u.2.1 u.2.2.1 u.2.2.2.1 u.2.2.2.2.1) ++ (wA cI (r 1) 100 u.2.2.2.2.2.1 ++ (wA cI (r 6) 120 TB))) := by
  refine CtZ.of (cc := cX5_speakerHere) (maxL := 3) (by decide +kernel) rfl (Nat.le_of_ble_eq_true rfl) ?_
  intro pg e s m args below meth c Q A hx hb hml hts hown hP hK hD hS ls hl kend
  have hown : s.vm.findClass RX5 = some m.cls := hown
  have hl : lv_has ls 3 [(0, .ref (r 0)), (1, .int (iI kd))] := hl
  subst hn
  obtain ⟨rfl, rfl, rfl, hv_p⟩ := hp
  refine lv_aload_n hx hb dX5_speakerHere_0 rfl (lv_at hl 0 rfl) ?_
  refine va_get (D := D) (ci := 4) (v := .ref (r 1)) (C := RX5) (T := TX5) (N := 18) hx hb hts (iT_X5_speakerHere_X5) hown hK hP 0 rfl rfl 0 (by decide) (hts (.fieldLink RX5 7 "WordSupperModel" "s" "[I") (by decide +kernel)) (fun _ h9 => h9) rfl dX5_speakerHere_1 ?_
  refine x_iconst hx hb dX5_speakerHere_4 ?_
  refine x_iald hx hb hK hP 1 0 rfl rfl 0 rfl (by omega) (by decide) (T 0) (gd_at _ (by omega)) dX5_speakerHere_5 ?_
  refine x_bipush hx hb dX5_speakerHere_6 (by decide) ?_
  refine x_icmp_ne (tgt := 16) hx hb (by omega) (by decide) dX5_speakerHere_8 (by decide) (fun c_8 => ?_) (fun c_8 => ?_)
  · obtain ⟨n, hn0⟩ : ∃ n : Nat, n = (T 0).toNat := ⟨_, rfl⟩
    have hnb : n < 8 := by omega
    have hnT : T 0 = (n : Int) := by omega
    have e_s : spR TB nn kd T p = spB TB nn n (stF kd n T) p := by unfold spR; rw [if_neg (by omega), ← hn0]
    refine lv_aload_n hx hb dX5_speakerHere_16 rfl (lv_at hl 0 rfl) ?_
    refine lv_iload_n hx hb dX5_speakerHere_17 rfl (lv_at hl 1 rfl) ?_
    refine x_callV (As := [.int (iI kd)]) (rest := []) ⟨hx, hb, hml, hown, hts⟩ (kX5_comes r ik ((nn : Nat) : Int) (jk b0 b1 p.1 ((p.2.1 : Nat) : Int) ((p.2.2.1 : Nat) : Int) cv fa) T kd n hkd hnT hnb) (cwV 1 hts gX5_speakerHere_X5_comes rfl rfl rfl ykVX5_comes ⟨Nat.le_of_ble_eq_true rfl, Nat.le_of_ble_eq_true rfl⟩) hP hK hD hS 0 4 rfl rfl rfl [0, 1] rfl (by decide) (fun _ => rfl) (fun u => wRo r ik ((nn : Nat) : Int) (jk b0 b1 p.1 ((p.2.1 : Nat) : Int) ((p.2.2.1 : Nat) : Int) cv fa) ++ (wA cI (r 1) 100 u ++ (wA cI (r 6) 120 TB))) (fun _ => rfl) rfl hl.1 rfl (Nat.le_of_ble_eq_true rfl) dX5_speakerHere_18 ⟨Nat.le_of_ble_eq_true rfl, Nat.le_of_ble_eq_true rfl⟩ (fun u2 H locs hp3 hP hD hS => ?_)
    obtain ⟨T11, rfl⟩ : ∃ z, z = u2 := ⟨_, rfl⟩
    replace hp3 : T11 = stF kd n T := hp3
    have hP : va_P D vwCl (wRo r ik ((nn : Nat) : Int) (jk b0 b1 p.1 ((p.2.1 : Nat) : Int) ((p.2.2.1 : Nat) : Int) cv fa) ++ (wA cI (r 1) 100 T11 ++ (wA cI (r 6) 120 TB))) H := hP
    have hD : va_D A (wRo r ik ((nn : Nat) : Int) (jk b0 b1 p.1 ((p.2.1 : Nat) : Int) ((p.2.2.1 : Nat) : Int) cv fa) ++ (wA cI (r 1) 100 T11 ++ (wA cI (r 6) 120 TB))) := hD
    refine W.eq (g2 := F0 m 21 ls []) rfl ?_
    rw [hp3] at hP hD
    refine lv_aload_n hx hb dX5_speakerHere_21 rfl (lv_at hl 0 rfl) ?_
    refine va_get (D := D) (ci := 4) (v := .ref (r 1)) (C := RX5) (T := TX5) (N := 18) hx hb hts (iT_X5_speakerHere_X5) hown hK hP 0 rfl rfl 0 (by decide) (hts (.fieldLink RX5 7 "WordSupperModel" "s" "[I") (by decide +kernel)) (fun _ h9 => h9) rfl dX5_speakerHere_22 ?_
    refine x_iconst hx hb dX5_speakerHere_25 ?_
    refine x_iald hx hb hK hP 1 0 rfl rfl 0 rfl (by omega) (by decide) ((stF kd n T) 0) (gd_at _ (by omega)) dX5_speakerHere_26 ?_
    refine x_iconst hx hb dX5_speakerHere_27 ?_
    refine x_isub hx hb dX5_speakerHere_28 ?_
    refine x_topi ((n : Nat) : Int) (by rw [st_0]; omega) ?_
    refine lv_istore_n (lv' := [(2, .int (iI ((n : Nat) : Int))), (0, .ref (r 0)), (1, .int (iI kd))]) hx hb dX5_speakerHere_29 rfl hl (by decide) rfl (fun ls hl => ?_)
    refine lv_aload_n hx hb dX5_speakerHere_30 rfl (lv_at hl 1 rfl) ?_
    refine x_callV (As := []) (rest := []) ⟨hx, hb, hml, hown, hts⟩ (kX5_nextToken r ik ((nn : Nat) : Int) b0 b1 p.1 ((p.2.1 : Nat) : Int) ((p.2.2.1 : Nat) : Int) cv fa TB nn p.2.2.1 rfl hn9 hTB rfl hi.2.1) (cwV 0 hts gX5_speakerHere_X5_nextToken rfl rfl rfl ykVX5_nextToken ⟨Nat.le_of_ble_eq_true rfl, Nat.le_of_ble_eq_true rfl⟩) hP hK hD hS 0 4 rfl rfl rfl [0, 2] rfl (by decide) (fun _ => rfl) (fun u => wRo r ik ((nn : Nat) : Int) (jk b0 b1 u.1 u.2.1 u.2.2.1 u.2.2.2 fa) ++ (wA cI (r 1) 100 (stF kd n T) ++ (wA cI (r 6) 120 TB))) (fun _ => rfl) rfl hl.1 rfl (Nat.le_of_ble_eq_true rfl) dX5_speakerHere_31 ⟨Nat.le_of_ble_eq_true rfl, Nat.le_of_ble_eq_true rfl⟩ (fun u8 H locs hp9 hP hD hS => ?_)
    obtain ⟨a14, a25, a36, a47⟩ := u8
    replace hp9 : tyR a14 a25 a36 a47 (tnF TB nn p.2.2.1) := hp9
    have hP : va_P D vwCl (wRo r ik ((nn : Nat) : Int) (jk b0 b1 a14 a25 a36 a47 fa) ++ (wA cI (r 1) 100 (stF kd n T) ++ (wA cI (r 6) 120 TB))) H := hP
    have hD : va_D A (wRo r ik ((nn : Nat) : Int) (jk b0 b1 a14 a25 a36 a47 fa) ++ (wA cI (r 1) 100 (stF kd n T) ++ (wA cI (r 6) 120 TB))) := hD
    refine W.eq (g2 := F0 m 34 ls []) rfl ?_
    obtain ⟨p10, hp10⟩ : ∃ z, z = nx TB nn p := ⟨_, rfl⟩
    have hp9 : tyR a14 a25 a36 a47 p10 := by rw [hp10]; exact hp9
    obtain ⟨rfl, rfl, rfl, hv_p10⟩ := hp9
    have hi_p10 : tkI nn p10 := by rw [hp10]; exact (nx_I hi).1
    refine lv_aload_n hx hb dX5_speakerHere_34 rfl (lv_at hl 1 rfl) ?_
    refine lv_aload_n hx hb dX5_speakerHere_35 rfl (lv_at hl 1 rfl) ?_
    refine x_bipush hx hb dX5_speakerHere_36 (by decide) ?_
    refine x_bipush hx hb dX5_speakerHere_38 (by decide) ?_
    refine x_bipush hx hb dX5_speakerHere_40 (by decide) ?_
    refine x_bipush hx hb dX5_speakerHere_42 (by decide) ?_
    refine x_bipush hx hb dX5_speakerHere_44 (by decide) ?_
    refine x_callV (As := [.int (iI 108), .int (iI 111), .int (iI 118), .int (iI 101), .int (iI 115)]) (rest := [.ref (r 0)]) ⟨hx, hb, hml, hown, hts⟩ (kX5_isFive r ik ((nn : Nat) : Int) b0 b1 p10.1 ((p10.2.1 : Nat) : Int) ((p10.2.2.1 : Nat) : Int) a47 fa TB 108 111 118 101 115 nn p10 rfl hn9 hTB ⟨rfl, rfl, rfl, hv_p10⟩ hi_p10 (by decide) (by decide) (by decide) (by decide) (by decide)) (cwV 5 hts gX5_speakerHere_X5_isFive rfl rfl rfl ykVX5_isFive ⟨Nat.le_of_ble_eq_true rfl, Nat.le_of_ble_eq_true rfl⟩) hP hK hD hS 0 4 rfl rfl rfl [0, 2] rfl (by decide) (fun _ => rfl) (fun _ => wRo r ik ((nn : Nat) : Int) (jk b0 b1 p10.1 ((p10.2.1 : Nat) : Int) ((p10.2.2.1 : Nat) : Int) a47 fa) ++ (wA cI (r 1) 100 (stF kd n T) ++ (wA cI (r 6) 120 TB))) (fun _ => rfl) rfl hl.1 rfl (Nat.le_of_ble_eq_true rfl) dX5_speakerHere_46 ⟨Nat.le_of_ble_eq_true rfl, Nat.le_of_ble_eq_true rfl⟩ (fun _ H locs _ hP hD hS => ?_)
    refine W.eq (g2 := F0 m 49 ls [.int (iI (b2 (decide (wdB TB p10 [108, 111, 118, 101, 115] = true)))), .ref (r 0)]) rfl ?_
    refine lv_iload_n hx hb dX5_speakerHere_49 rfl (lv_at hl 0 rfl) ?_
    refine x_iconst hx hb dX5_speakerHere_50 ?_
    refine x_callS (As := [.int (iI ((n : Nat) : Int)), .int (iI 1)]) (rest := [.int (iI (b2 (decide (wdB TB p10 [108, 111, 118, 101, 115] = true)))), .ref (r 0)]) ⟨hx, hb, hml, hown, hts⟩ (kX5_at n 1 ) (va_cwS 2 hts gX5_speakerHere_X5_at rfl rfl rfl ykSX5_at ⟨Nat.le_of_ble_eq_true rfl, Nat.le_of_ble_eq_true rfl⟩) hP hK hD hS [] rfl (by decide) (fun _ => rfl) (fun _ => wRo r ik ((nn : Nat) : Int) (jk b0 b1 p10.1 ((p10.2.1 : Nat) : Int) ((p10.2.2.1 : Nat) : Int) a47 fa) ++ (wA cI (r 1) 100 (stF kd n T) ++ (wA cI (r 6) 120 TB))) (fun _ => rfl) rfl hl.1 rfl (Nat.le_of_ble_eq_true rfl) dX5_speakerHere_51 ⟨Nat.le_of_ble_eq_true rfl, Nat.le_of_ble_eq_true rfl⟩ (fun _ H locs _ hP hD hS => ?_)
    refine W.eq (g2 := F0 m 54 ls [.int (iI ((cx n 1 : Nat) : Int)), .int (iI (b2 (decide (wdB TB p10 [108, 111, 118, 101, 115] = true)))), .ref (r 0)]) rfl ?_
    refine lv_iload_n hx hb dX5_speakerHere_54 rfl (lv_at hl 0 rfl) ?_
    refine x_iconst hx hb dX5_speakerHere_55 ?_
    refine x_isub hx hb dX5_speakerHere_56 ?_
    refine x_callV (As := [.int (iI (b2 (decide (wdB TB p10 [108, 111, 118, 101, 115] = true)))), .int (iI ((cx n 1 : Nat) : Int)), .int (iI (((n : Nat) : Int) - 1))]) (rest := []) ⟨hx, hb, hml, hown, hts⟩ (kX5_perhaps r ik ((nn : Nat) : Int) b0 b1 p10.1 ((p10.2.1 : Nat) : Int) ((p10.2.2.1 : Nat) : Int) a47 fa (stF kd n T) TB (b2 (decide (wdB TB p10 [108, 111, 118, 101, 115] = true))) (cx n 1) (((n : Nat) : Int) - 1) nn p10 (wdB TB p10 [108, 111, 118, 101, 115]) rfl hn9 hTB ⟨rfl, rfl, rfl, hv_p10⟩ hi_p10 (b2_d _) (by unfold cx; omega) (by omega)) (cwV 3 hts gX5_speakerHere_X5_perhaps rfl rfl rfl ykVX5_perhaps ⟨Nat.le_of_ble_eq_true rfl, Nat.le_of_ble_eq_true rfl⟩) hP hK hD hS 0 4 rfl rfl rfl [0, 1, 2] rfl (by decide) (fun _ => rfl) (fun u => wRo r ik ((nn : Nat) : Int) (jk b0 b1 u.1 u.2.1 u.2.2.1 u.2.2.2.1 u.2.2.2.2.1) ++ (wA cI (r 1) 100 u.2.2.2.2.2 ++ (wA cI (r 6) 120 TB))) (fun _ => rfl) rfl hl.1 rfl (Nat.le_of_ble_eq_true rfl) dX5_speakerHere_57 ⟨Nat.le_of_ble_eq_true rfl, Nat.le_of_ble_eq_true rfl⟩ (fun u17 H locs hp18 hP hD hS => ?_)
    obtain ⟨a111, a212, a313, a414, fa115, T116⟩ := u17
    replace hp18 : rsR (pkF TB nn (wdB TB p10 [108, 111, 118, 101, 115]) (cx n 1) (((n : Nat) : Int) - 1) (stF kd n T) p10) a111 a212 a313 a414 fa115 T116 := hp18
    have hP : va_P D vwCl (wRo r ik ((nn : Nat) : Int) (jk b0 b1 a111 a212 a313 a414 fa115) ++ (wA cI (r 1) 100 T116 ++ (wA cI (r 6) 120 TB))) H := hP
    have hD : va_D A (wRo r ik ((nn : Nat) : Int) (jk b0 b1 a111 a212 a313 a414 fa115) ++ (wA cI (r 1) 100 T116 ++ (wA cI (r 6) 120 TB))) := hD
    refine W.eq (g2 := F0 m 60 ls [.int (iI (b2 (decide ((pkF TB nn (wdB TB p10 [108, 111, 118, 101, 115]) (cx n 1) (((n : Nat) : Int) - 1) (stF kd n T) p10).1 = true))))]) rfl ?_
    have hp18 : rsR (pkF TB nn (wdB TB p10 (wdA 9)) (cx n 1) ((n : Int) - 1) (stF kd n T) p10) a111 a212 a313 a414 fa115 T116 := hp18
    refine x_ifb_eq (tgt := 116) hx hb dX5_speakerHere_60 (by decide) (fun c_60 => ?_) (fun c_60 => ?_)
    · refine x_iconst hx hb dX5_speakerHere_116 ?_
      exact kend (a111, a212, a313, a414, fa115, T116, false) hP hS rfl (by rw [e_s]; unfold spB; rw [← hp10, bindR_n (show ¬ (pkF TB nn (wdB TB p10 (wdA 9)) (cx n 1) ((n : Int) - 1) (stF kd n T) p10).1 = true from c_60)]; exact rr_n hp18 c_60) (by decide) dX5_speakerHere_117
    · have e_1 := rr_3 hp18 c_60
      have hty1 := hp18.2.1
      obtain ⟨p19, hp19⟩ : ∃ z, z = (pkF TB nn (wdB TB p10 (wdA 9)) (cx n 1) ((n : Int) - 1) (stF kd n T) p10).2.2 := ⟨_, rfl⟩
      rw [← hp19] at e_1 hty1
      obtain ⟨rfl, rfl, rfl, hv_p19⟩ := hty1
      have hi_p19 : tkI nn p19 := by rw [hp19]; exact pkF_I hi_p10
      refine lv_aload_n hx hb dX5_speakerHere_63 rfl (lv_at hl 1 rfl) ?_
      refine lv_aload_n hx hb dX5_speakerHere_64 rfl (lv_at hl 1 rfl) ?_
      refine x_iconst hx hb dX5_speakerHere_65 ?_
      refine x_callV (As := [.int (iI 3)]) (rest := [.ref (r 0)]) ⟨hx, hb, hml, hown, hts⟩ (kX5_isWord r ik ((nn : Nat) : Int) b0 b1 p19.1 ((p19.2.1 : Nat) : Int) ((p19.2.2.1 : Nat) : Int) a414 fa115 3 nn p19 ⟨rfl, rfl, rfl, hv_p19⟩ hi_p19 (by decide) hn9) (cwV 1 hts gX5_speakerHere_X5_isWord rfl rfl rfl ykVX5_isWord ⟨Nat.le_of_ble_eq_true rfl, Nat.le_of_ble_eq_true rfl⟩) hP hK hD hS 0 4 rfl rfl rfl [0] rfl (by decide) (fun _ => rfl) (fun _ => wRo r ik ((nn : Nat) : Int) (jk b0 b1 p19.1 ((p19.2.1 : Nat) : Int) ((p19.2.2.1 : Nat) : Int) a414 fa115) ++ (wA cI (r 1) 100 T116 ++ (wA cI (r 6) 120 TB))) (fun _ => rfl) rfl hl.1 rfl (Nat.le_of_ble_eq_true rfl) dX5_speakerHere_66 ⟨Nat.le_of_ble_eq_true rfl, Nat.le_of_ble_eq_true rfl⟩ (fun _ H locs _ hP hD hS => ?_)
      refine W.eq (g2 := F0 m 69 ls [.int (iI (b2 (decide ((p19.1 = 1 ∧ p19.2.2.1 = p19.2.1 + 3))))), .ref (r 0)]) rfl ?_
      refine x_ifb_eq (tgt := 90) hx hb dX5_speakerHere_69 (by decide) (fun c_69 => ?_) (fun c_69 => ?_)
      · refine x_iconst hx hb dX5_speakerHere_90 ?_
        refine lv_iload_n hx hb dX5_speakerHere_91 rfl (lv_at hl 0 rfl) ?_
        refine x_iconst hx hb dX5_speakerHere_92 ?_
        refine x_callS (As := [.int (iI ((n : Nat) : Int)), .int (iI 2)]) (rest := [.int (iI 0), .ref (r 0)]) ⟨hx, hb, hml, hown, hts⟩ (kX5_at n 2 ) (va_cwS 2 hts gX5_speakerHere_X5_at rfl rfl rfl ykSX5_at ⟨Nat.le_of_ble_eq_true rfl, Nat.le_of_ble_eq_true rfl⟩) hP hK hD hS [] rfl (by decide) (fun _ => rfl) (fun _ => wRo r ik ((nn : Nat) : Int) (jk b0 b1 p19.1 ((p19.2.1 : Nat) : Int) ((p19.2.2.1 : Nat) : Int) a414 fa115) ++ (wA cI (r 1) 100 T116 ++ (wA cI (r 6) 120 TB))) (fun _ => rfl) rfl hl.1 rfl (Nat.le_of_ble_eq_true rfl) dX5_speakerHere_93 ⟨Nat.le_of_ble_eq_true rfl, Nat.le_of_ble_eq_true rfl⟩ (fun _ H locs _ hP hD hS => ?_)
        refine W.eq (g2 := F0 m 96 ls [.int (iI ((cx n 2 : Nat) : Int)), .int (iI 0), .ref (r 0)]) rfl ?_
        refine x_bipush hx hb dX5_speakerHere_96 (by decide) ?_
        refine x_callV (As := [.int (iI 0), .int (iI ((cx n 2 : Nat) : Int)), .int (iI 99)]) (rest := []) ⟨hx, hb, hml, hown, hts⟩ (kX5_perhaps r ik ((nn : Nat) : Int) b0 b1 p19.1 ((p19.2.1 : Nat) : Int) ((p19.2.2.1 : Nat) : Int) a414 fa115 T116 TB 0 (cx n 2) 99 nn p19 (wdB TB p19 [102, 97, 116]) rfl hn9 hTB ⟨rfl, rfl, rfl, hv_p19⟩ hi_p19 (b2_00 (fun q9 => c_69 ((wd_3 hi_p19).mpr q9).1)) (by unfold cx; omega) (by decide)) (cwV 3 hts gX5_speakerHere_X5_perhaps rfl rfl rfl ykVX5_perhaps ⟨Nat.le_of_ble_eq_true rfl, Nat.le_of_ble_eq_true rfl⟩) hP hK hD hS 0 4 rfl rfl rfl [0, 1, 2] rfl (by decide) (fun _ => rfl) (fun u => wRo r ik ((nn : Nat) : Int) (jk b0 b1 u.1 u.2.1 u.2.2.1 u.2.2.2.1 u.2.2.2.2.1) ++ (wA cI (r 1) 100 u.2.2.2.2.2 ++ (wA cI (r 6) 120 TB))) (fun _ => rfl) rfl hl.1 rfl (Nat.le_of_ble_eq_true rfl) dX5_speakerHere_98 ⟨Nat.le_of_ble_eq_true rfl, Nat.le_of_ble_eq_true rfl⟩ (fun u26 H locs hp27 hP hD hS => ?_)
        obtain ⟨a120, a221, a322, a423, fa124, T125⟩ := u26
        replace hp27 : rsR (pkF TB nn (wdB TB p19 [102, 97, 116]) (cx n 2) 99 T116 p19) a120 a221 a322 a423 fa124 T125 := hp27
        have hP : va_P D vwCl (wRo r ik ((nn : Nat) : Int) (jk b0 b1 a120 a221 a322 a423 fa124) ++ (wA cI (r 1) 100 T125 ++ (wA cI (r 6) 120 TB))) H := hP
        have hD : va_D A (wRo r ik ((nn : Nat) : Int) (jk b0 b1 a120 a221 a322 a423 fa124) ++ (wA cI (r 1) 100 T125 ++ (wA cI (r 6) 120 TB))) := hD
        refine W.eq (g2 := F0 m 101 ls [.int (iI (b2 (decide ((pkF TB nn (wdB TB p19 [102, 97, 116]) (cx n 2) 99 T116 p19).1 = true))))]) rfl ?_
        have hp27 : rsR (pkF TB nn (wdB TB p19 (wdA 10)) (cx n 2) 99 T116 p19) a120 a221 a322 a423 fa124 T125 := hp27
        refine x_ifb_eq (tgt := 116) hx hb dX5_speakerHere_101 (by decide) (fun c_101 => ?_) (fun c_101 => ?_)
        · refine x_iconst hx hb dX5_speakerHere_116 ?_
          exact kend (a120, a221, a322, a423, fa124, T125, false) hP hS rfl (by rw [e_s]; unfold spB; rw [← hp10, bR_t e_1, bindR_n (show ¬ (pkF TB nn (wdB TB p19 (wdA 10)) (cx n 2) 99 T116 p19).1 = true from c_101)]; exact rr_n hp27 c_101) (by decide) dX5_speakerHere_117
        · have e_2 := rr_3 hp27 c_101
          have hty2 := hp27.2.1
          obtain ⟨p28, hp28⟩ : ∃ z, z = (pkF TB nn (wdB TB p19 (wdA 10)) (cx n 2) 99 T116 p19).2.2 := ⟨_, rfl⟩
          rw [← hp28] at e_2 hty2
          obtain ⟨rfl, rfl, rfl, hv_p28⟩ := hty2
          have hi_p28 : tkI nn p28 := by rw [hp28]; exact pkF_I hi_p19
          refine lv_aload_n hx hb dX5_speakerHere_104 rfl (lv_at hl 1 rfl) ?_
          refine lv_iload_n hx hb dX5_speakerHere_105 rfl (lv_at hl 0 rfl) ?_
          refine x_callV (As := [.int (iI ((n : Nat) : Int))]) (rest := []) ⟨hx, hb, hml, hown, hts⟩ (kX5_plateHere r ik ((nn : Nat) : Int) b0 b1 p28.1 ((p28.2.1 : Nat) : Int) ((p28.2.2.1 : Nat) : Int) a423 fa124 T125 TB n nn p28 rfl hn9 hTB ⟨rfl, rfl, rfl, hv_p28⟩ hi_p28 hnb) (cwV 1 hts gX5_speakerHere_X5_plateHere rfl rfl rfl ykVX5_plateHere ⟨Nat.le_of_ble_eq_true rfl, Nat.le_of_ble_eq_true rfl⟩) hP hK hD hS 0 4 rfl rfl rfl [0, 1, 2] rfl (by decide) (fun _ => rfl) (fun u => wRo r ik ((nn : Nat) : Int) (jk b0 b1 u.1 u.2.1 u.2.2.1 u.2.2.2.1 u.2.2.2.2.1) ++ (wA cI (r 1) 100 u.2.2.2.2.2.1 ++ (wA cI (r 6) 120 TB))) (fun _ => rfl) rfl hl.1 rfl (Nat.le_of_ble_eq_true rfl) dX5_speakerHere_106 ⟨Nat.le_of_ble_eq_true rfl, Nat.le_of_ble_eq_true rfl⟩ (fun u36 H locs hp37 hP hD hS => ?_)
          obtain ⟨a129, a230, a331, a432, fa133, T134, ok35⟩ := u36
          replace hp37 : rqP (plF TB nn n T125 p28) a129 a230 a331 a432 fa133 T134 ok35 := hp37
          have hP : va_P D vwCl (wRo r ik ((nn : Nat) : Int) (jk b0 b1 a129 a230 a331 a432 fa133) ++ (wA cI (r 1) 100 T134 ++ (wA cI (r 6) 120 TB))) H := hP
          have hD : va_D A (wRo r ik ((nn : Nat) : Int) (jk b0 b1 a129 a230 a331 a432 fa133) ++ (wA cI (r 1) 100 T134 ++ (wA cI (r 6) 120 TB))) := hD
          refine W.eq (g2 := F0 m 109 ls [.int (iI (b2 (decide (ok35 = true))))]) rfl ?_
          refine x_ifb_eq (tgt := 116) hx hb dX5_speakerHere_109 (by decide) (fun c_109 => ?_) (fun c_109 => ?_)
          · refine x_iconst hx hb dX5_speakerHere_116 ?_
            exact kend (a129, a230, a331, a432, fa133, T134, ok35) hP hS (an_i (b2_f c_109).symm) (by rw [e_s]; unfold spB; rw [← hp10, bR_t e_1, bR_t e_2]; exact hp37) (by decide) dX5_speakerHere_117
          · refine x_iconst hx hb dX5_speakerHere_112 ?_
            refine lv_goto (tgt := 117) hx hb dX5_speakerHere_113 (by decide) ?_
            exact kend (a129, a230, a331, a432, fa133, T134, ok35) hP hS (an_i (b2_t c_109).symm) (by rw [e_s]; unfold spB; rw [← hp10, bR_t e_1, bR_t e_2]; exact hp37) (by decide) dX5_speakerHere_117
      · refine lv_aload_n hx hb dX5_speakerHere_72 rfl (lv_at hl 1 rfl) ?_
        refine x_iconst hx hb dX5_speakerHere_73 ?_
        refine x_bipush hx hb dX5_speakerHere_74 (by decide) ?_
        refine x_bipush hx hb dX5_speakerHere_76 (by decide) ?_
        refine x_bipush hx hb dX5_speakerHere_78 (by decide) ?_
        refine x_callV (As := [.int (iI 0), .int (iI 102), .int (iI 97), .int (iI 116)]) (rest := [.ref (r 0)]) ⟨hx, hb, hml, hown, hts⟩ (kX5_has3 r ik ((nn : Nat) : Int) b0 b1 p19.1 ((p19.2.1 : Nat) : Int) ((p19.2.2.1 : Nat) : Int) a414 fa115 TB 0 102 97 116 nn p19 rfl hn9 hTB ⟨rfl, rfl, rfl, hv_p19⟩ hi_p19 (by decide) (by decide) (by decide) (by decide)) (cwV 4 hts gX5_speakerHere_X5_has3 rfl rfl rfl ykVX5_has3 ⟨Nat.le_of_ble_eq_true rfl, Nat.le_of_ble_eq_true rfl⟩) hP hK hD hS 0 4 rfl rfl rfl [0, 2] rfl (by decide) (fun _ => rfl) (fun _ => wRo r ik ((nn : Nat) : Int) (jk b0 b1 p19.1 ((p19.2.1 : Nat) : Int) ((p19.2.2.1 : Nat) : Int) a414 fa115) ++ (wA cI (r 1) 100 T116 ++ (wA cI (r 6) 120 TB))) (fun _ => rfl) rfl hl.1 rfl (Nat.le_of_ble_eq_true rfl) dX5_speakerHere_80 ⟨Nat.le_of_ble_eq_true rfl, Nat.le_of_ble_eq_true rfl⟩ (fun _ H locs _ hP hD hS => ?_)
        refine W.eq (g2 := F0 m 83 ls [.int (iI (b2 (decide (((byF TB nn (p19.2.1 + 0) = 102 ∧ byF TB nn (p19.2.1 + 0 + 1) = 97) ∧ byF TB nn (p19.2.1 + 0 + 2) = 116))))), .ref (r 0)]) rfl ?_
        refine x_ifb_eq (tgt := 90) hx hb dX5_speakerHere_83 (by decide) (fun c_83 => ?_) (fun c_83 => ?_)
        · refine x_iconst hx hb dX5_speakerHere_90 ?_
          refine lv_iload_n hx hb dX5_speakerHere_91 rfl (lv_at hl 0 rfl) ?_
          refine x_iconst hx hb dX5_speakerHere_92 ?_
          refine x_callS (As := [.int (iI ((n : Nat) : Int)), .int (iI 2)]) (rest := [.int (iI 0), .ref (r 0)]) ⟨hx, hb, hml, hown, hts⟩ (kX5_at n 2 ) (va_cwS 2 hts gX5_speakerHere_X5_at rfl rfl rfl ykSX5_at ⟨Nat.le_of_ble_eq_true rfl, Nat.le_of_ble_eq_true rfl⟩) hP hK hD hS [] rfl (by decide) (fun _ => rfl) (fun _ => wRo r ik ((nn : Nat) : Int) (jk b0 b1 p19.1 ((p19.2.1 : Nat) : Int) ((p19.2.2.1 : Nat) : Int) a414 fa115) ++ (wA cI (r 1) 100 T116 ++ (wA cI (r 6) 120 TB))) (fun _ => rfl) rfl hl.1 rfl (Nat.le_of_ble_eq_true rfl) dX5_speakerHere_93 ⟨Nat.le_of_ble_eq_true rfl, Nat.le_of_ble_eq_true rfl⟩ (fun _ H locs _ hP hD hS => ?_)
          refine W.eq (g2 := F0 m 96 ls [.int (iI ((cx n 2 : Nat) : Int)), .int (iI 0), .ref (r 0)]) rfl ?_
          refine x_bipush hx hb dX5_speakerHere_96 (by decide) ?_
          refine x_callV (As := [.int (iI 0), .int (iI ((cx n 2 : Nat) : Int)), .int (iI 99)]) (rest := []) ⟨hx, hb, hml, hown, hts⟩ (kX5_perhaps r ik ((nn : Nat) : Int) b0 b1 p19.1 ((p19.2.1 : Nat) : Int) ((p19.2.2.1 : Nat) : Int) a414 fa115 T116 TB 0 (cx n 2) 99 nn p19 (wdB TB p19 [102, 97, 116]) rfl hn9 hTB ⟨rfl, rfl, rfl, hv_p19⟩ hi_p19 (b2_00 (fun q9 => c_83 ((wd_3 hi_p19).mpr q9).2)) (by unfold cx; omega) (by decide)) (cwV 3 hts gX5_speakerHere_X5_perhaps rfl rfl rfl ykVX5_perhaps ⟨Nat.le_of_ble_eq_true rfl, Nat.le_of_ble_eq_true rfl⟩) hP hK hD hS 0 4 rfl rfl rfl [0, 1, 2] rfl (by decide) (fun _ => rfl) (fun u => wRo r ik ((nn : Nat) : Int) (jk b0 b1 u.1 u.2.1 u.2.2.1 u.2.2.2.1 u.2.2.2.2.1) ++ (wA cI (r 1) 100 u.2.2.2.2.2 ++ (wA cI (r 6) 120 TB))) (fun _ => rfl) rfl hl.1 rfl (Nat.le_of_ble_eq_true rfl) dX5_speakerHere_98 ⟨Nat.le_of_ble_eq_true rfl, Nat.le_of_ble_eq_true rfl⟩ (fun u44 H locs hp45 hP hD hS => ?_)
          obtain ⟨a138, a239, a340, a441, fa142, T143⟩ := u44
          replace hp45 : rsR (pkF TB nn (wdB TB p19 [102, 97, 116]) (cx n 2) 99 T116 p19) a138 a239 a340 a441 fa142 T143 := hp45
          have hP : va_P D vwCl (wRo r ik ((nn : Nat) : Int) (jk b0 b1 a138 a239 a340 a441 fa142) ++ (wA cI (r 1) 100 T143 ++ (wA cI (r 6) 120 TB))) H := hP
          have hD : va_D A (wRo r ik ((nn : Nat) : Int) (jk b0 b1 a138 a239 a340 a441 fa142) ++ (wA cI (r 1) 100 T143 ++ (wA cI (r 6) 120 TB))) := hD
          refine W.eq (g2 := F0 m 101 ls [.int (iI (b2 (decide ((pkF TB nn (wdB TB p19 [102, 97, 116]) (cx n 2) 99 T116 p19).1 = true))))]) rfl ?_
          have hp45 : rsR (pkF TB nn (wdB TB p19 (wdA 10)) (cx n 2) 99 T116 p19) a138 a239 a340 a441 fa142 T143 := hp45
          refine x_ifb_eq (tgt := 116) hx hb dX5_speakerHere_101 (by decide) (fun c_101 => ?_) (fun c_101 => ?_)
          · refine x_iconst hx hb dX5_speakerHere_116 ?_
            exact kend (a138, a239, a340, a441, fa142, T143, false) hP hS rfl (by rw [e_s]; unfold spB; rw [← hp10, bR_t e_1, bindR_n (show ¬ (pkF TB nn (wdB TB p19 (wdA 10)) (cx n 2) 99 T116 p19).1 = true from c_101)]; exact rr_n hp45 c_101) (by decide) dX5_speakerHere_117
          · have e_2 := rr_3 hp45 c_101
            have hty2 := hp45.2.1
            obtain ⟨p46, hp46⟩ : ∃ z, z = (pkF TB nn (wdB TB p19 (wdA 10)) (cx n 2) 99 T116 p19).2.2 := ⟨_, rfl⟩
            rw [← hp46] at e_2 hty2
            obtain ⟨rfl, rfl, rfl, hv_p46⟩ := hty2
            have hi_p46 : tkI nn p46 := by rw [hp46]; exact pkF_I hi_p19
            refine lv_aload_n hx hb dX5_speakerHere_104 rfl (lv_at hl 1 rfl) ?_
            refine lv_iload_n hx hb dX5_speakerHere_105 rfl (lv_at hl 0 rfl) ?_
            refine x_callV (As := [.int (iI ((n : Nat) : Int))]) (rest := []) ⟨hx, hb, hml, hown, hts⟩ (kX5_plateHere r ik ((nn : Nat) : Int) b0 b1 p46.1 ((p46.2.1 : Nat) : Int) ((p46.2.2.1 : Nat) : Int) a441 fa142 T143 TB n nn p46 rfl hn9 hTB ⟨rfl, rfl, rfl, hv_p46⟩ hi_p46 hnb) (cwV 1 hts gX5_speakerHere_X5_plateHere rfl rfl rfl ykVX5_plateHere ⟨Nat.le_of_ble_eq_true rfl, Nat.le_of_ble_eq_true rfl⟩) hP hK hD hS 0 4 rfl rfl rfl [0, 1, 2] rfl (by decide) (fun _ => rfl) (fun u => wRo r ik ((nn : Nat) : Int) (jk b0 b1 u.1 u.2.1 u.2.2.1 u.2.2.2.1 u.2.2.2.2.1) ++ (wA cI (r 1) 100 u.2.2.2.2.2.1 ++ (wA cI (r 6) 120 TB))) (fun _ => rfl) rfl hl.1 rfl (Nat.le_of_ble_eq_true rfl) dX5_speakerHere_106 ⟨Nat.le_of_ble_eq_true rfl, Nat.le_of_ble_eq_true rfl⟩ (fun u54 H locs hp55 hP hD hS => ?_)
            obtain ⟨a147, a248, a349, a450, fa151, T152, ok53⟩ := u54
            replace hp55 : rqP (plF TB nn n T143 p46) a147 a248 a349 a450 fa151 T152 ok53 := hp55
            have hP : va_P D vwCl (wRo r ik ((nn : Nat) : Int) (jk b0 b1 a147 a248 a349 a450 fa151) ++ (wA cI (r 1) 100 T152 ++ (wA cI (r 6) 120 TB))) H := hP
            have hD : va_D A (wRo r ik ((nn : Nat) : Int) (jk b0 b1 a147 a248 a349 a450 fa151) ++ (wA cI (r 1) 100 T152 ++ (wA cI (r 6) 120 TB))) := hD
            refine W.eq (g2 := F0 m 109 ls [.int (iI (b2 (decide (ok53 = true))))]) rfl ?_
            refine x_ifb_eq (tgt := 116) hx hb dX5_speakerHere_109 (by decide) (fun c_109 => ?_) (fun c_109 => ?_)
            · refine x_iconst hx hb dX5_speakerHere_116 ?_
              exact kend (a147, a248, a349, a450, fa151, T152, ok53) hP hS (an_i (b2_f c_109).symm) (by rw [e_s]; unfold spB; rw [← hp10, bR_t e_1, bR_t e_2]; exact hp55) (by decide) dX5_speakerHere_117
            · refine x_iconst hx hb dX5_speakerHere_112 ?_
              refine lv_goto (tgt := 117) hx hb dX5_speakerHere_113 (by decide) ?_
              exact kend (a147, a248, a349, a450, fa151, T152, ok53) hP hS (an_i (b2_t c_109).symm) (by rw [e_s]; unfold spB; rw [← hp10, bR_t e_1, bR_t e_2]; exact hp55) (by decide) dX5_speakerHere_117
        · refine x_iconst hx hb dX5_speakerHere_86 ?_
          refine lv_goto (tgt := 91) hx hb dX5_speakerHere_87 (by decide) ?_
          refine lv_iload_n hx hb dX5_speakerHere_91 rfl (lv_at hl 0 rfl) ?_
          refine x_iconst hx hb dX5_speakerHere_92 ?_
          refine x_callS (As := [.int (iI ((n : Nat) : Int)), .int (iI 2)]) (rest := [.int (iI 1), .ref (r 0)]) ⟨hx, hb, hml, hown, hts⟩ (kX5_at n 2 ) (va_cwS 2 hts gX5_speakerHere_X5_at rfl rfl rfl ykSX5_at ⟨Nat.le_of_ble_eq_true rfl, Nat.le_of_ble_eq_true rfl⟩) hP hK hD hS [] rfl (by decide) (fun _ => rfl) (fun _ => wRo r ik ((nn : Nat) : Int) (jk b0 b1 p19.1 ((p19.2.1 : Nat) : Int) ((p19.2.2.1 : Nat) : Int) a414 fa115) ++ (wA cI (r 1) 100 T116 ++ (wA cI (r 6) 120 TB))) (fun _ => rfl) rfl hl.1 rfl (Nat.le_of_ble_eq_true rfl) dX5_speakerHere_93 ⟨Nat.le_of_ble_eq_true rfl, Nat.le_of_ble_eq_true rfl⟩ (fun _ H locs _ hP hD hS => ?_)
          refine W.eq (g2 := F0 m 96 ls [.int (iI ((cx n 2 : Nat) : Int)), .int (iI 1), .ref (r 0)]) rfl ?_
          refine x_bipush hx hb dX5_speakerHere_96 (by decide) ?_
          refine x_callV (As := [.int (iI 1), .int (iI ((cx n 2 : Nat) : Int)), .int (iI 99)]) (rest := []) ⟨hx, hb, hml, hown, hts⟩ (kX5_perhaps r ik ((nn : Nat) : Int) b0 b1 p19.1 ((p19.2.1 : Nat) : Int) ((p19.2.2.1 : Nat) : Int) a414 fa115 T116 TB 1 (cx n 2) 99 nn p19 (wdB TB p19 [102, 97, 116]) rfl hn9 hTB ⟨rfl, rfl, rfl, hv_p19⟩ hi_p19 (show (1 : Int) = b2 _ by rw [(wd_3 hi_p19).mp ⟨c_69, c_83⟩]; rfl) (by unfold cx; omega) (by decide)) (cwV 3 hts gX5_speakerHere_X5_perhaps rfl rfl rfl ykVX5_perhaps ⟨Nat.le_of_ble_eq_true rfl, Nat.le_of_ble_eq_true rfl⟩) hP hK hD hS 0 4 rfl rfl rfl [0, 1, 2] rfl (by decide) (fun _ => rfl) (fun u => wRo r ik ((nn : Nat) : Int) (jk b0 b1 u.1 u.2.1 u.2.2.1 u.2.2.2.1 u.2.2.2.2.1) ++ (wA cI (r 1) 100 u.2.2.2.2.2 ++ (wA cI (r 6) 120 TB))) (fun _ => rfl) rfl hl.1 rfl (Nat.le_of_ble_eq_true rfl) dX5_speakerHere_98 ⟨Nat.le_of_ble_eq_true rfl, Nat.le_of_ble_eq_true rfl⟩ (fun u62 H locs hp63 hP hD hS => ?_)
          obtain ⟨a156, a257, a358, a459, fa160, T161⟩ := u62
          replace hp63 : rsR (pkF TB nn (wdB TB p19 [102, 97, 116]) (cx n 2) 99 T116 p19) a156 a257 a358 a459 fa160 T161 := hp63
          have hP : va_P D vwCl (wRo r ik ((nn : Nat) : Int) (jk b0 b1 a156 a257 a358 a459 fa160) ++ (wA cI (r 1) 100 T161 ++ (wA cI (r 6) 120 TB))) H := hP
          have hD : va_D A (wRo r ik ((nn : Nat) : Int) (jk b0 b1 a156 a257 a358 a459 fa160) ++ (wA cI (r 1) 100 T161 ++ (wA cI (r 6) 120 TB))) := hD
          refine W.eq (g2 := F0 m 101 ls [.int (iI (b2 (decide ((pkF TB nn (wdB TB p19 [102, 97, 116]) (cx n 2) 99 T116 p19).1 = true))))]) rfl ?_
          have hp63 : rsR (pkF TB nn (wdB TB p19 (wdA 10)) (cx n 2) 99 T116 p19) a156 a257 a358 a459 fa160 T161 := hp63
          refine x_ifb_eq (tgt := 116) hx hb dX5_speakerHere_101 (by decide) (fun c_101 => ?_) (fun c_101 => ?_)
          · refine x_iconst hx hb dX5_speakerHere_116 ?_
            exact kend (a156, a257, a358, a459, fa160, T161, false) hP hS rfl (by rw [e_s]; unfold spB; rw [← hp10, bR_t e_1, bindR_n (show ¬ (pkF TB nn (wdB TB p19 (wdA 10)) (cx n 2) 99 T116 p19).1 = true from c_101)]; exact rr_n hp63 c_101) (by decide) dX5_speakerHere_117
          · have e_2 := rr_3 hp63 c_101
            have hty2 := hp63.2.1
            obtain ⟨p64, hp64⟩ : ∃ z, z = (pkF TB nn (wdB TB p19 (wdA 10)) (cx n 2) 99 T116 p19).2.2 := ⟨_, rfl⟩
            rw [← hp64] at e_2 hty2
            obtain ⟨rfl, rfl, rfl, hv_p64⟩ := hty2
            have hi_p64 : tkI nn p64 := by rw [hp64]; exact pkF_I hi_p19
            refine lv_aload_n hx hb dX5_speakerHere_104 rfl (lv_at hl 1 rfl) ?_
            refine lv_iload_n hx hb dX5_speakerHere_105 rfl (lv_at hl 0 rfl) ?_
            refine x_callV (As := [.int (iI ((n : Nat) : Int))]) (rest := []) ⟨hx, hb, hml, hown, hts⟩ (kX5_plateHere r ik ((nn : Nat) : Int) b0 b1 p64.1 ((p64.2.1 : Nat) : Int) ((p64.2.2.1 : Nat) : Int) a459 fa160 T161 TB n nn p64 rfl hn9 hTB ⟨rfl, rfl, rfl, hv_p64⟩ hi_p64 hnb) (cwV 1 hts gX5_speakerHere_X5_plateHere rfl rfl rfl ykVX5_plateHere ⟨Nat.le_of_ble_eq_true rfl, Nat.le_of_ble_eq_true rfl⟩) hP hK hD hS 0 4 rfl rfl rfl [0, 1, 2] rfl (by decide) (fun _ => rfl) (fun u => wRo r ik ((nn : Nat) : Int) (jk b0 b1 u.1 u.2.1 u.2.2.1 u.2.2.2.1 u.2.2.2.2.1) ++ (wA cI (r 1) 100 u.2.2.2.2.2.1 ++ (wA cI (r 6) 120 TB))) (fun _ => rfl) rfl hl.1 rfl (Nat.le_of_ble_eq_true rfl) dX5_speakerHere_106 ⟨Nat.le_of_ble_eq_true rfl, Nat.le_of_ble_eq_true rfl⟩ (fun u72 H locs hp73 hP hD hS => ?_)
            obtain ⟨a165, a266, a367, a468, fa169, T170, ok71⟩ := u72
            replace hp73 : rqP (plF TB nn n T161 p64) a165 a266 a367 a468 fa169 T170 ok71 := hp73
            have hP : va_P D vwCl (wRo r ik ((nn : Nat) : Int) (jk b0 b1 a165 a266 a367 a468 fa169) ++ (wA cI (r 1) 100 T170 ++ (wA cI (r 6) 120 TB))) H := hP
            have hD : va_D A (wRo r ik ((nn : Nat) : Int) (jk b0 b1 a165 a266 a367 a468 fa169) ++ (wA cI (r 1) 100 T170 ++ (wA cI (r 6) 120 TB))) := hD
            refine W.eq (g2 := F0 m 109 ls [.int (iI (b2 (decide (ok71 = true))))]) rfl ?_
            refine x_ifb_eq (tgt := 116) hx hb dX5_speakerHere_109 (by decide) (fun c_109 => ?_) (fun c_109 => ?_)
            · refine x_iconst hx hb dX5_speakerHere_116 ?_
              exact kend (a165, a266, a367, a468, fa169, T170, ok71) hP hS (an_i (b2_f c_109).symm) (by rw [e_s]; unfold spB; rw [← hp10, bR_t e_1, bR_t e_2]; exact hp73) (by decide) dX5_speakerHere_117
            · refine x_iconst hx hb dX5_speakerHere_112 ?_
              refine lv_goto (tgt := 117) hx hb dX5_speakerHere_113 (by decide) ?_
              exact kend (a165, a266, a367, a468, fa169, T170, ok71) hP hS (an_i (b2_t c_109).symm) (by rw [e_s]; unfold spB; rw [← hp10, bR_t e_1, bR_t e_2]; exact hp73) (by decide) dX5_speakerHere_117
  · refine lv_aload_n hx hb dX5_speakerHere_11 rfl (lv_at hl 0 rfl) ?_
    refine x_callV (As := []) (rest := []) ⟨hx, hb, hml, hown, hts⟩ (kX5_fails r ik ((nn : Nat) : Int) b0 b1 p.1 ((p.2.1 : Nat) : Int) ((p.2.2.1 : Nat) : Int) cv fa nn p ⟨rfl, rfl, rfl, hv_p⟩ hi) (cwV 0 hts gX5_speakerHere_X5_fails rfl rfl rfl ykVX5_fails ⟨Nat.le_of_ble_eq_true rfl, Nat.le_of_ble_eq_true rfl⟩) hP hK hD hS 0 4 rfl rfl rfl [0] rfl (by decide) (fun _ => rfl) (fun _ => wRo r ik ((nn : Nat) : Int) (jk b0 b1 p.1 ((p.2.1 : Nat) : Int) ((p.2.2.1 : Nat) : Int) cv ((p.2.1 : Nat) : Int)) ++ (wA cI (r 1) 100 T ++ (wA cI (r 6) 120 TB))) (fun _ => rfl) rfl hl.1 rfl (Nat.le_of_ble_eq_true rfl) dX5_speakerHere_12 ⟨Nat.le_of_ble_eq_true rfl, Nat.le_of_ble_eq_true rfl⟩ (fun _ H locs _ hP hD hS => ?_)
    refine W.eq (g2 := F0 m 15 ls [.int (iI 0)]) rfl ?_
    exact kend (p.1, ((p.2.1 : Nat) : Int), ((p.2.2.1 : Nat) : Int), cv, ((p.2.1 : Nat) : Int), T, false) hP hS rfl (rq_t (x := false) (by unfold spR; rw [if_pos (by omega)]) ⟨rfl, rfl, rfl, hv_p⟩ (ok_f rfl)) (by decide) dX5_speakerHere_15
