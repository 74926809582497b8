theorem ykSX3_isPlate : yX3_isPlate.cls ≠ "java/lang/invoke/MethodHandle" ∧ yX3_isPlate.cls ≠ "java/lang/invoke/VarHandle" ∧ (parseMethodDescriptor yX3_isPlate.desc).map (fun d => d.parameters.length) = some 2 := by decide +kernel
theorem ykVX3_isPlate : yX3_isPlate.cls = RX3 ∧ yX3_isPlate.cls ≠ "java/lang/invoke/MethodHandle" ∧ yX3_isPlate.cls ≠ "java/lang/invoke/VarHandle" ∧ (parseMethodDescriptor yX3_isPlate.desc).map (fun d => d.parameters.length) = some 2 := ⟨rfl, ykSX3_isPlate⟩
set_option maxRecDepth 20000 in
theorem iT_X3_isPlate_X2 : ∀ w ∈ u_ws RX2 TX2 12, w ∈ wsX3_isPlate := by decide +kernel
set_option maxRecDepth 20000 in
theorem iT_X3_isPlate_X3 : ∀ w ∈ u_ws RX3 TX3 6, w ∈ wsX3_isPlate := by decide +kernel
set_option maxHeartbeats 4000000 in
set_option maxRecDepth 100000 in
theorem kX3_isPlate {l : Launch} {D : va_G} {cI cB : ClassId} (g : Nat → Nat) (tn : Int) (TB : Nat → Int) (ct : Int) (cf : Int) (ce : Int) (cv : Int) (q : Nat → Nat) (T : Tb) (b : Int) (n : Nat) (nn : Nat) (p : Tk) (hn : tn = ((nn : Nat) : Int)) (hn9 : nn ≤ 120) (hTB : ∀ i : Nat, i < 120 → 0 ≤ TB i ∧ TB i ≤ 255) (hp : tyS ct cf ce cv p) (hi : tkI nn p) (hnb : n < 8) : Ct l yX3_isPlate wsX3_isPlate 2 41 D [(cI, .int), (cB, .byte)] [.ref (g 0), .ref (q 0), .int (iI ((n : Nat) : Int))] (wTp cB g tn TB (jj ct cf ce cv) ++ (wTab cI q T b)) (S := Int × Int × Int × Int × Tb) (fun u => some (.int (iI (b2 (decide ((plQ TB nn n T p).1 = true)))))) (fun u => rsP (plQ TB nn n T p) u.1 u.2.1 u.2.2.1 u.2.2.2.1 u.2.2.2.2) (fun u => wTp cB g tn TB (jj u.1 u.2.1 u.2.2.1 u.2.2.2.1) ++ (wTab cI q u.2.2.2.2 b)) := by
  refine CtZ.of (cc := cX3_isPlate) (maxL := 4) (by decide +kernel) rfl (Nat.le_of_ble_eq_true rfl) ?_
  intro pg e s m args below meth c Q A hx hb hml hts hown hP hK hD hS ls hl kend
  have hown : s.vm.findClass RX3 = some m.cls := hown
  have hl : lv_has ls 4 [(0, .ref (g 0)), (1, .ref (q 0)), (2, .int (iI ((n : Nat) : Int)))] := hl
  subst hn
  obtain ⟨rfl, rfl, rfl, hv_p⟩ := hp
  refine lv_aload_n hx hb dX3_isPlate_0 rfl (lv_at hl 0 rfl) ?_
  refine x_callV (As := []) (rest := []) ⟨hx, hb, hml, hown, hts⟩ (kX3_step g ((nn : Nat) : Int) TB p.1 ((p.2.1 : Nat) : Int) ((p.2.2.1 : Nat) : Int) cv nn p.2.2.1 rfl hn9 hTB rfl hi.2.1) (cwV 0 hts gX3_isPlate_X3_step rfl rfl rfl ykVX3_step ⟨Nat.le_of_ble_eq_true rfl, Nat.le_of_ble_eq_true rfl⟩) hP hK hD hS 0 2 rfl rfl rfl [0, 1] rfl (by decide) (fun _ => rfl) (fun u => wTp cB g ((nn : Nat) : Int) TB (jj u.1 u.2.1 u.2.2.1 u.2.2.2) ++ (wTab cI q T b)) (fun _ => rfl) rfl hl.1 rfl (Nat.le_of_ble_eq_true rfl) dX3_isPlate_1 ⟨Nat.le_of_ble_eq_true rfl, Nat.le_of_ble_eq_true rfl⟩ (fun u5 H locs hp6 hP hD hS => ?_)
  obtain ⟨a11, a22, a33, a44⟩ := u5
  replace hp6 : tyS a11 a22 a33 a44 (tnF TB nn p.2.2.1) := hp6
  have hP : va_P D vwCl (wTp cB g ((nn : Nat) : Int) TB (jj a11 a22 a33 a44) ++ (wTab cI q T b)) H := hP
  have hD : va_D A (wTp cB g ((nn : Nat) : Int) TB (jj a11 a22 a33 a44) ++ (wTab cI q T b)) := hD
  refine W.eq (g2 := F0 m 4 ls []) rfl ?_
  obtain ⟨p7, hp7⟩ : ∃ z, z = nx TB nn p := ⟨_, rfl⟩
  have hp6 : tyS a11 a22 a33 a44 p7 := by rw [hp7]; exact hp6
  obtain ⟨rfl, rfl, rfl, hv_p7⟩ := hp6
  have hi_p7 : tkI nn p7 := by rw [hp7]; exact (nx_I hi).1
  refine lv_aload_n hx hb dX3_isPlate_4 rfl (lv_at hl 0 rfl) ?_
  refine x_sipush hx hb dX3_isPlate_5 (by decide) ?_
  refine x_callV (As := [.int (iI 999)]) (rest := []) ⟨hx, hb, hml, hown, hts⟩ (kX3_isNumber g ((nn : Nat) : Int) TB p7.1 ((p7.2.1 : Nat) : Int) ((p7.2.2.1 : Nat) : Int) a44 999 p7 nn ⟨rfl, rfl, rfl, hv_p7⟩ hi_p7 (by omega)) (cwV 1 hts gX3_isPlate_X3_isNumber rfl rfl rfl ykVX3_isNumber ⟨Nat.le_of_ble_eq_true rfl, Nat.le_of_ble_eq_true rfl⟩) hP hK hD hS 0 2 rfl rfl rfl [0, 1] rfl (by decide) (fun _ => rfl) (fun _ => wTp cB g ((nn : Nat) : Int) TB (jj p7.1 ((p7.2.1 : Nat) : Int) ((p7.2.2.1 : Nat) : Int) a44) ++ (wTab cI q T b)) (fun _ => rfl) rfl hl.1 rfl (Nat.le_of_ble_eq_true rfl) dX3_isPlate_8 ⟨Nat.le_of_ble_eq_true rfl, Nat.le_of_ble_eq_true rfl⟩ (fun _ H locs _ hP hD hS => ?_)
  refine W.eq (g2 := F0 m 11 ls [.int (iI (b2 (decide (nbB p7 999 = true))))]) rfl ?_
  refine x_ifb_ne (tgt := 16) hx hb dX3_isPlate_11 (by decide) (fun c_11 => ?_) (fun c_11 => ?_)
  · refine x_iconst hx hb dX3_isPlate_16 ?_
    refine lv_istore_n (lv' := [(3, .int (iI 0)), (0, .ref (g 0)), (1, .ref (q 0)), (2, .int (iI ((n : Nat) : Int)))]) hx hb dX3_isPlate_17 rfl hl (by decide) rfl (fun ls hl => ?_)
    have L18 : ∀ (k t : Nat) (Tt : Tb) (px : Tk) (vx : Int) (H : Heap) (locs : List Loc) (ls : Array Slot), t + k = 6 → (plL TB nn n k t Tt px = plL TB nn n 6 0 T p7) → (tkI nn px) → (px.1 = 2 → vx = px.2.2.2) → va_P D vwCl (wTp cB g ((nn : Nat) : Int) TB (jj px.1 ((px.2.1 : Nat) : Int) ((px.2.2.1 : Nat) : Int) vx) ++ (wTab cI q Tt b)) H → va_D A (wTp cB g ((nn : Nat) : Int) TB (jj px.1 ((px.2.1 : Nat) : Int) ((px.2.2.1 : Nat) : Int) vx) ++ (wTab cI q Tt b)) → va_S A s.heap H locs → lv_has ls 4 [(0, .ref (g 0)), (1, .ref (q 0)), (2, .int (iI ((n : Nat) : Int))), (3, .int (iI ((t : Nat) : Int)))] → W pg l e { frames := 2, cells := 0, slots := 0, locals := 41 } s m args below meth c H locs 0 0 Q (F0 m 18 ls []) := by
      intro k
      induction k with
      | zero =>
        intro t Tt px vx H locs ls hkt hr hi_px hv_px hP hD hS hl
        refine lv_iload_n hx hb dX3_isPlate_18 rfl (lv_at hl 3 rfl) ?_
        refine x_bipush hx hb dX3_isPlate_19 (by decide) ?_
        refine x_icmp_ge (tgt := 58) hx hb (by omega) (by decide) dX3_isPlate_21 (by decide) (fun c_21 => ?_) (fun c_21 => ?_)
        · refine x_iconst hx hb dX3_isPlate_58 ?_
          exact kend (px.1, ((px.2.1 : Nat) : Int), ((px.2.2.1 : Nat) : Int), vx, Tt) hP hS (an_i (b2_z (x := true) (y := (Tt, px)) (by unfold plQ; rw [← hp7, if_pos c_11, ← hr]; rfl)).symm) (rs_t (x := true) (by unfold plQ; rw [← hp7, if_pos c_11, ← hr]; rfl) ⟨rfl, rfl, rfl, hv_px⟩) (by decide) dX3_isPlate_59
        · exfalso; omega
      | succ k ih =>
        intro t Tt px vx H locs ls hkt hr hi_px hv_px hP hD hS hl
        refine lv_iload_n hx hb dX3_isPlate_18 rfl (lv_at hl 3 rfl) ?_
        refine x_bipush hx hb dX3_isPlate_19 (by decide) ?_
        refine x_icmp_ge (tgt := 58) hx hb (by omega) (by decide) dX3_isPlate_21 (by decide) (fun c_21 => ?_) (fun c_21 => ?_)
        · exfalso; omega
        · refine lv_aload_n hx hb dX3_isPlate_24 rfl (lv_at hl 0 rfl) ?_
          refine x_sipush hx hb dX3_isPlate_25 (by decide) ?_
          refine x_callV (As := [.int (iI 999)]) (rest := []) ⟨hx, hb, hml, hown, hts⟩ (kX3_isNumber g ((nn : Nat) : Int) TB px.1 ((px.2.1 : Nat) : Int) ((px.2.2.1 : Nat) : Int) vx 999 px nn ⟨rfl, rfl, rfl, hv_px⟩ hi_px (by omega)) (cwV 1 hts gX3_isPlate_X3_isNumber rfl rfl rfl ykVX3_isNumber ⟨Nat.le_of_ble_eq_true rfl, Nat.le_of_ble_eq_true rfl⟩) hP hK hD hS 0 2 rfl rfl rfl [0, 1] rfl (by decide) (fun _ => rfl) (fun _ => wTp cB g ((nn : Nat) : Int) TB (jj px.1 ((px.2.1 : Nat) : Int) ((px.2.2.1 : Nat) : Int) vx) ++ (wTab cI q Tt b)) (fun _ => rfl) rfl hl.1 rfl (Nat.le_of_ble_eq_true rfl) dX3_isPlate_28 ⟨Nat.le_of_ble_eq_true rfl, Nat.le_of_ble_eq_true rfl⟩ (fun _ H locs _ hP hD hS => ?_)
          refine W.eq (g2 := F0 m 31 ls [.int (iI (b2 (decide (nbB px 999 = true))))]) rfl ?_
          refine x_ifb_eq (tgt := 58) hx hb dX3_isPlate_31 (by decide) (fun c_31 => ?_) (fun c_31 => ?_)
          · refine x_iconst hx hb dX3_isPlate_58 ?_
            exact kend (px.1, ((px.2.1 : Nat) : Int), ((px.2.2.1 : Nat) : Int), vx, Tt) hP hS (an_i (b2_z (x := true) (y := (Tt, px)) (by unfold plQ; rw [← hp7, if_pos c_11, ← hr, plL, if_neg c_31])).symm) (rs_t (x := true) (by unfold plQ; rw [← hp7, if_pos c_11, ← hr, plL, if_neg c_31]) ⟨rfl, rfl, rfl, hv_px⟩) (by decide) dX3_isPlate_59
          · refine lv_aload_n hx hb dX3_isPlate_34 rfl (lv_at hl 1 rfl) ?_
            refine va_get (D := D) (ci := 1) (v := .ref (q 6)) (C := RX2) (T := TX2) (N := 12) hx hb hts (iT_X3_isPlate_X2) hown hK hP 2 rfl rfl 10 (by decide) (hts (.fieldLink RX3 104 "WordSupper$Table" "plates" "[I") (by decide +kernel)) (fun _ h9 => h9) rfl dX3_isPlate_35 ?_
            refine lv_iload_n hx hb dX3_isPlate_38 rfl (lv_at hl 2 rfl) ?_
            refine lv_iload_n hx hb dX3_isPlate_39 rfl (lv_at hl 3 rfl) ?_
            refine x_callS (As := [.int (iI ((n : Nat) : Int)), .int (iI ((t : Nat) : Int))]) (rest := [.ref (q 6)]) ⟨hx, hb, hml, hown, hts⟩ (kX2_at n t (by omega) (by omega)) (va_cwS 2 hts gX3_isPlate_X2_at rfl rfl rfl ykSX2_at ⟨Nat.le_of_ble_eq_true rfl, Nat.le_of_ble_eq_true rfl⟩) hP hK hD hS [] rfl (by decide) (fun _ => rfl) (fun _ => wTp cB g ((nn : Nat) : Int) TB (jj px.1 ((px.2.1 : Nat) : Int) ((px.2.2.1 : Nat) : Int) vx) ++ (wTab cI q Tt b)) (fun _ => rfl) rfl hl.1 rfl (Nat.le_of_ble_eq_true rfl) dX3_isPlate_40 ⟨Nat.le_of_ble_eq_true rfl, Nat.le_of_ble_eq_true rfl⟩ (fun _ H locs _ hP hD hS => ?_)
            refine W.eq (g2 := F0 m 43 ls [.int (iI ((6 * n + t : Nat) : Int)), .ref (q 6)]) rfl ?_
            refine lv_aload_n hx hb dX3_isPlate_43 rfl (lv_at hl 0 rfl) ?_
            refine va_get (D := D) (ci := 2) (v := .int (iI vx)) (C := RX3) (T := TX3) (N := 6) hx hb hts (iT_X3_isPlate_X3) hown hK hP 0 rfl rfl 5 (by decide) (hts (.fieldLink RX3 92 "WordSupper$Tape" "value" "I") (by decide +kernel)) (fun _ h9 => h9) rfl dX3_isPlate_44 ?_
            have q5 := hv_px (nbB_i.mp c_31).1
            refine x_topi px.2.2.2 q5 ?_
            refine x_iast hx hb hK hP hD hS 8 0 rfl rfl (6 * n + t) rfl (by omega) (by decide) (wTp cB g ((nn : Nat) : Int) TB (jj px.1 ((px.2.1 : Nat) : Int) ((px.2.2.1 : Nat) : Int) vx) ++ (wTab cI q (va_up Tt (cx n (4 + t)) px.2.2.2) b)) (by rw [← wT_plates cI q Tt b px.2.2.2 n t (by omega) (by omega)]; rfl) dX3_isPlate_47 (fun H locs hP hD hS => ?_)
            refine lv_aload_n hx hb dX3_isPlate_48 rfl (lv_at hl 0 rfl) ?_
            refine x_callV (As := []) (rest := []) ⟨hx, hb, hml, hown, hts⟩ (kX3_step g ((nn : Nat) : Int) TB px.1 ((px.2.1 : Nat) : Int) ((px.2.2.1 : Nat) : Int) vx nn px.2.2.1 rfl hn9 hTB rfl hi_px.2.1) (cwV 0 hts gX3_isPlate_X3_step rfl rfl rfl ykVX3_step ⟨Nat.le_of_ble_eq_true rfl, Nat.le_of_ble_eq_true rfl⟩) hP hK hD hS 0 2 rfl rfl rfl [0, 1] rfl (by decide) (fun _ => rfl) (fun u => wTp cB g ((nn : Nat) : Int) TB (jj u.1 u.2.1 u.2.2.1 u.2.2.2) ++ (wTab cI q (va_up Tt (cx n (4 + t)) px.2.2.2) b)) (fun _ => rfl) rfl hl.1 rfl (Nat.le_of_ble_eq_true rfl) dX3_isPlate_49 ⟨Nat.le_of_ble_eq_true rfl, Nat.le_of_ble_eq_true rfl⟩ (fun u12 H locs hp13 hP hD hS => ?_)
            obtain ⟨a18, a29, a310, a411⟩ := u12
            replace hp13 : tyS a18 a29 a310 a411 (tnF TB nn px.2.2.1) := hp13
            have hP : va_P D vwCl (wTp cB g ((nn : Nat) : Int) TB (jj a18 a29 a310 a411) ++ (wTab cI q (va_up Tt (cx n (4 + t)) px.2.2.2) b)) H := hP
            have hD : va_D A (wTp cB g ((nn : Nat) : Int) TB (jj a18 a29 a310 a411) ++ (wTab cI q (va_up Tt (cx n (4 + t)) px.2.2.2) b)) := hD
            refine W.eq (g2 := F0 m 52 ls []) rfl ?_
            obtain ⟨p14, hp14⟩ : ∃ z, z = nx TB nn px := ⟨_, rfl⟩
            have hp13 : tyS a18 a29 a310 a411 p14 := by rw [hp14]; exact hp13
            obtain ⟨rfl, rfl, rfl, hv_p14⟩ := hp13
            have hi_p14 : tkI nn p14 := by rw [hp14]; exact (nx_I hi_px).1
            refine x_iinc hx hb 3 ((t + 1 : Nat) : Int) (by omega) [(3, .int (iI ((t + 1 : Nat) : Int))), (0, .ref (g 0)), (1, .ref (q 0)), (2, .int (iI ((n : Nat) : Int)))] dX3_isPlate_52 hl rfl (by decide) rfl (fun ls hl => ?_)
            refine lv_goto (tgt := 18) hx hb dX3_isPlate_55 (by decide) ?_
            exact ih (t + 1) (va_up Tt (cx n (4 + t)) px.2.2.2) p14 a411 _ _ _ (by omega) (by rw [← hr, plL, if_pos c_31, ← hp14]) hi_p14 hv_p14 hP hD hS (lv_sub hl [1, 2, 3, 0] rfl)
    exact L18 6 0 T p7 a44 _ _ _ (by omega) rfl hi_p7 hv_p7 hP hD hS (lv_sub hl [1, 2, 3, 0] rfl)
  · refine x_iconst hx hb dX3_isPlate_14 ?_
    exact kend (p7.1, ((p7.2.1 : Nat) : Int), ((p7.2.2.1 : Nat) : Int), a44, T) hP hS (an_i (b2_z (x := false) (y := (T, p7)) (by unfold plQ; rw [← hp7, if_neg c_11])).symm) (rs_t (x := false) (by unfold plQ; rw [← hp7, if_neg c_11]) ⟨rfl, rfl, rfl, hv_p7⟩) (by decide) dX3_isPlate_15
