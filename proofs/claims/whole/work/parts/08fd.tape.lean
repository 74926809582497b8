theorem bR_t {r : Rs} {f : Tb → Tk → Rs} {T : Tb} {p : Tk} (e : r = (true, T, p)) : bindR r f = f T p := by rw [e]; rfl
theorem bR_f {r : Rs} {f : Tb → Tk → Rs} {T : Tb} {p : Tk} (e : r = (false, T, p)) : bindR r f = (false, T, p) := by rw [e]; rfl
theorem rs_3 {r : Rs} {a b c d : Int} {T : Tb} (h : rsP r a b c d T) : r = (r.1, T, r.2.2) := by rw [h.1]
theorem ykSX3_isSpeaker : yX3_isSpeaker.cls ≠ "java/lang/invoke/MethodHandle" ∧ yX3_isSpeaker.cls ≠ "java/lang/invoke/VarHandle" ∧ (parseMethodDescriptor yX3_isSpeaker.desc).map (fun d => d.parameters.length) = some 2 := by decide +kernel
theorem ykVX3_isSpeaker : yX3_isSpeaker.cls = RX3 ∧ yX3_isSpeaker.cls ≠ "java/lang/invoke/MethodHandle" ∧ yX3_isSpeaker.cls ≠ "java/lang/invoke/VarHandle" ∧ (parseMethodDescriptor yX3_isSpeaker.desc).map (fun d => d.parameters.length) = some 2 := ⟨rfl, ykSX3_isSpeaker⟩
set_option maxRecDepth 20000 in
theorem iT_X3_isSpeaker_X2 : ∀ w ∈ u_ws RX2 TX2 12, w ∈ wsX3_isSpeaker := by decide +kernel
set_option maxRecDepth 20000 in
theorem iT_X3_isSpeaker_X3 : ∀ w ∈ u_ws RX3 TX3 6, w ∈ wsX3_isSpeaker := by decide +kernel
set_option maxHeartbeats 4000000 in
set_option maxRecDepth 100000 in
theorem kX3_isSpeaker {l : Launch} {D : va_G} {cI cB : ClassId} {kS vS : Nat → Nat} (g : Nat → Nat) (tn : Int) (TB : Nat → Int) (ct : Int) (cf : Int) (ce : Int) (cv : Int) (q : Nat → Nat) (T : Tb) (b : Int) (n : Nat) (nn : Nat) (p : Tk) (hn : tn = ((nn : Nat) : Int)) (hn9 : nn ≤ 120) (hTB : ∀ i : Nat, i < 120 → 0 ≤ TB i ∧ TB i ≤ 255) (hp : tyS ct cf ce cv p) (hi : tkI nn p) (hnb : n < 8) : CtS l yX3_isSpeaker wsX3_isSpeaker 5 107 D [(cI, .int), (cB, .byte)] kS vS [.ref (g 0), .ref (q 0), .int (iI ((n : Nat) : Int))] (wTp cB g tn TB (jj ct cf ce cv) ++ (wTab cI q T b)) (S := Int × Int × Int × Int × Tb) (fun u => some (.int (iI (b2 (decide ((spB TB nn n T p).1 = true)))))) (fun u => rsP (spB TB nn n T p) u.1 u.2.1 u.2.2.1 u.2.2.2.1 u.2.2.2.2) (fun u => wTp cB g tn TB (jj u.1 u.2.1 u.2.2.1 u.2.2.2.1) ++ (wTab cI q u.2.2.2.2 b)) := by
  refine CtSZ.of (cc := cX3_isSpeaker) (maxL := 3) (by decide +kernel) rfl (Nat.le_of_ble_eq_true rfl) ?_
  intro pg e s m args below meth c Q A hx hb hml hts hown hP hK hD hS hX ls hl kend
  have hown : s.vm.findClass RX3 = some m.cls := hown
  have hl : lv_has ls 3 [(0, .ref (g 0)), (1, .ref (q 0)), (2, .int (iI ((n : Nat) : Int)))] := hl
  subst hn
  obtain ⟨rfl, rfl, rfl, hv_p⟩ := hp
  refine lv_aload_n hx hb dX3_isSpeaker_0 rfl (lv_at hl 0 rfl) ?_
  refine x_callV (As := []) (rest := []) ⟨hx, hb, hml, hown, hts⟩ (kX3_step g ((nn : Nat) : Int) TB p.1 ((p.2.1 : Nat) : Int) ((p.2.2.1 : Nat) : Int) cv nn p.2.2.1 rfl hn9 hTB rfl hi.2.1) (cwV 0 hts gX3_isSpeaker_X3_step rfl rfl rfl ykVX3_step ⟨Nat.le_of_ble_eq_true rfl, Nat.le_of_ble_eq_true rfl⟩) hP hK hD hS 0 2 rfl rfl rfl [0, 1] rfl (by decide) (fun _ => rfl) (fun u => wTp cB g ((nn : Nat) : Int) TB (jj u.1 u.2.1 u.2.2.1 u.2.2.2) ++ (wTab cI q T b)) (fun _ => rfl) rfl hl.1 rfl (Nat.le_of_ble_eq_true rfl) dX3_isSpeaker_1 ⟨Nat.le_of_ble_eq_true rfl, Nat.le_of_ble_eq_true rfl⟩ (fun u5 H locs hp6 hP hD hS => ?_)
  obtain ⟨a11, a22, a33, a44⟩ := u5
  replace hp6 : tyS a11 a22 a33 a44 (tnF TB nn p.2.2.1) := hp6
  have hP : va_P D vwCl (wTp cB g ((nn : Nat) : Int) TB (jj a11 a22 a33 a44) ++ (wTab cI q T b)) H := hP
  have hD : va_D A (wTp cB g ((nn : Nat) : Int) TB (jj a11 a22 a33 a44) ++ (wTab cI q T b)) := hD
  refine W.eq (g2 := F0 m 4 ls []) rfl ?_
  obtain ⟨p7, hp7⟩ : ∃ z, z = nx TB nn p := ⟨_, rfl⟩
  have hp6 : tyS a11 a22 a33 a44 p7 := by rw [hp7]; exact hp6
  obtain ⟨rfl, rfl, rfl, hv_p7⟩ := hp6
  have hi_p7 : tkI nn p7 := by rw [hp7]; exact (nx_I hi).1
  refine lv_aload_n hx hb dX3_isSpeaker_4 rfl (lv_at hl 0 rfl) ?_
  refine va_ldcS hx hb hown (hX.2.1.2.2.2.2.2.2.2.2.2.1) dX3_isSpeaker_5 ?_
  refine x_callVS (As := [.ref (kS 9)]) (rest := []) ⟨hx, hb, hml, hown, hts⟩ (kX3_isWord g ((nn : Nat) : Int) TB p7.1 ((p7.2.1 : Nat) : Int) ((p7.2.2.1 : Nat) : Int) a44 nn p7 9 rfl hn9 hTB ⟨rfl, rfl, rfl, hv_p7⟩ hi_p7 (by decide)) (cwV 1 hts gX3_isSpeaker_X3_isWord rfl rfl rfl ykVX3_isWord ⟨Nat.le_of_ble_eq_true rfl, Nat.le_of_ble_eq_true rfl⟩) hP hK hD hS hX 0 2 rfl rfl rfl [0, 1] rfl (by decide) (fun _ => rfl) (fun _ => wTp cB g ((nn : Nat) : Int) TB (jj p7.1 ((p7.2.1 : Nat) : Int) ((p7.2.2.1 : Nat) : Int) a44) ++ (wTab cI q T b)) (fun _ => rfl) rfl hl.1 rfl (Nat.le_of_ble_eq_true rfl) dX3_isSpeaker_7 ⟨Nat.le_of_ble_eq_true rfl, Nat.le_of_ble_eq_true rfl⟩ (fun _ H locs _ hP hD hS => ?_)
  refine W.eq (g2 := F0 m 10 ls [.int (iI (b2 (decide (wdB TB p7 (wdA 9) = true))))]) rfl ?_
  refine x_ifb_eq (tgt := 43) hx hb dX3_isSpeaker_10 (by decide) (fun c_10 => ?_) (fun c_10 => ?_)
  · have e_1 : pkF TB nn (wdB TB (nx TB nn p) (wdA 9)) (cx n 1) ((n : Int) - 1) T (nx TB nn p) = (true, T, p7) := by rw [← hp7]; exact pk_o c_10
    refine lv_aload_n hx hb dX3_isSpeaker_43 rfl (lv_at hl 0 rfl) ?_
    refine va_ldcS hx hb hown (hX.2.1.2.2.2.2.2.2.2.2.2.2.1) dX3_isSpeaker_44 ?_
    refine x_callVS (As := [.ref (kS 10)]) (rest := []) ⟨hx, hb, hml, hown, hts⟩ (kX3_isWord g ((nn : Nat) : Int) TB p7.1 ((p7.2.1 : Nat) : Int) ((p7.2.2.1 : Nat) : Int) a44 nn p7 10 rfl hn9 hTB ⟨rfl, rfl, rfl, hv_p7⟩ hi_p7 (by decide)) (cwV 1 hts gX3_isSpeaker_X3_isWord rfl rfl rfl ykVX3_isWord ⟨Nat.le_of_ble_eq_true rfl, Nat.le_of_ble_eq_true rfl⟩) hP hK hD hS hX 0 2 rfl rfl rfl [0, 1] rfl (by decide) (fun _ => rfl) (fun _ => wTp cB g ((nn : Nat) : Int) TB (jj p7.1 ((p7.2.1 : Nat) : Int) ((p7.2.2.1 : Nat) : Int) a44) ++ (wTab cI q T b)) (fun _ => rfl) rfl hl.1 rfl (Nat.le_of_ble_eq_true rfl) dX3_isSpeaker_46 ⟨Nat.le_of_ble_eq_true rfl, Nat.le_of_ble_eq_true rfl⟩ (fun _ H locs _ hP hD hS => ?_)
    refine W.eq (g2 := F0 m 49 ls [.int (iI (b2 (decide (wdB TB p7 (wdA 10) = true))))]) rfl ?_
    refine x_ifb_eq (tgt := 81) hx hb dX3_isSpeaker_49 (by decide) (fun c_49 => ?_) (fun c_49 => ?_)
    · have e_2 : pkF TB nn (wdB TB p7 (wdA 10)) (cx n 2) 99 T p7 = (true, T, p7) := pk_o c_49
      refine lv_aload_n hx hb dX3_isSpeaker_81 rfl (lv_at hl 0 rfl) ?_
      refine va_ldcS hx hb hown (hX.2.1.2.2.2.2.2.2.2.2.2.2.2) dX3_isSpeaker_82 ?_
      refine x_callVS (As := [.ref (kS 11)]) (rest := []) ⟨hx, hb, hml, hown, hts⟩ (kX3_isWord g ((nn : Nat) : Int) TB p7.1 ((p7.2.1 : Nat) : Int) ((p7.2.2.1 : Nat) : Int) a44 nn p7 11 rfl hn9 hTB ⟨rfl, rfl, rfl, hv_p7⟩ hi_p7 (by decide)) (cwV 1 hts gX3_isSpeaker_X3_isWord rfl rfl rfl ykVX3_isWord ⟨Nat.le_of_ble_eq_true rfl, Nat.le_of_ble_eq_true rfl⟩) hP hK hD hS hX 0 2 rfl rfl rfl [0, 1] rfl (by decide) (fun _ => rfl) (fun _ => wTp cB g ((nn : Nat) : Int) TB (jj p7.1 ((p7.2.1 : Nat) : Int) ((p7.2.2.1 : Nat) : Int) a44) ++ (wTab cI q T b)) (fun _ => rfl) rfl hl.1 rfl (Nat.le_of_ble_eq_true rfl) dX3_isSpeaker_84 ⟨Nat.le_of_ble_eq_true rfl, Nat.le_of_ble_eq_true rfl⟩ (fun _ H locs _ hP hD hS => ?_)
      refine W.eq (g2 := F0 m 87 ls [.int (iI (b2 (decide (wdB TB p7 (wdA 11) = true))))]) rfl ?_
      refine x_ifb_eq (tgt := 99) hx hb dX3_isSpeaker_87 (by decide) (fun c_87 => ?_) (fun c_87 => ?_)
      · refine x_iconst hx hb dX3_isSpeaker_99 ?_
        refine lv_goto (tgt := 104) hx hb dX3_isSpeaker_100 (by decide) ?_
        exact kend (p7.1, ((p7.2.1 : Nat) : Int), ((p7.2.2.1 : Nat) : Int), a44, T) hP hS (an_i (b2_z (x := true) (y := (T, p7)) (by unfold spB; rw [bR_t e_1, bR_t e_2]; unfold plF; rw [if_neg c_87])).symm) (rs_t (x := true) (by unfold spB; rw [bR_t e_1, bR_t e_2]; unfold plF; rw [if_neg c_87]) ⟨rfl, rfl, rfl, hv_p7⟩) (by decide) dX3_isSpeaker_104
      · refine lv_aload_n hx hb dX3_isSpeaker_90 rfl (lv_at hl 0 rfl) ?_
        refine lv_aload_n hx hb dX3_isSpeaker_91 rfl (lv_at hl 1 rfl) ?_
        refine lv_iload_n hx hb dX3_isSpeaker_92 rfl (lv_at hl 2 rfl) ?_
        refine x_callV (As := [.ref (q 0), .int (iI ((n : Nat) : Int))]) (rest := []) ⟨hx, hb, hml, hown, hts⟩ (kX3_isPlate g ((nn : Nat) : Int) TB p7.1 ((p7.2.1 : Nat) : Int) ((p7.2.2.1 : Nat) : Int) a44 q T b n nn p7 rfl hn9 hTB ⟨rfl, rfl, rfl, hv_p7⟩ hi_p7 (by omega)) (cwV 2 hts gX3_isSpeaker_X3_isPlate rfl rfl rfl ykVX3_isPlate ⟨Nat.le_of_ble_eq_true rfl, Nat.le_of_ble_eq_true rfl⟩) hP hK hD hS 0 2 rfl rfl rfl [0, 1, 2, 3, 4, 5, 6, 7, 8, 9] rfl (by decide) (fun _ => rfl) (fun u => wTp cB g ((nn : Nat) : Int) TB (jj u.1 u.2.1 u.2.2.1 u.2.2.2.1) ++ (wTab cI q u.2.2.2.2 b)) (fun _ => rfl) rfl hl.1 rfl (Nat.le_of_ble_eq_true rfl) dX3_isSpeaker_93 ⟨Nat.le_of_ble_eq_true rfl, Nat.le_of_ble_eq_true rfl⟩ (fun u13 H locs hp14 hP hD hS => ?_)
        obtain ⟨a18, a29, a310, a411, T112⟩ := u13
        replace hp14 : rsP (plQ TB nn n T p7) a18 a29 a310 a411 T112 := hp14
        have hP : va_P D vwCl (wTp cB g ((nn : Nat) : Int) TB (jj a18 a29 a310 a411) ++ (wTab cI q T112 b)) H := hP
        have hD : va_D A (wTp cB g ((nn : Nat) : Int) TB (jj a18 a29 a310 a411) ++ (wTab cI q T112 b)) := hD
        refine W.eq (g2 := F0 m 96 ls [.int (iI (b2 (decide ((plQ TB nn n T p7).1 = true))))]) rfl ?_
        have e_3 : spB TB nn n T p = plQ TB nn n T p7 := by unfold spB; rw [bR_t e_1, bR_t e_2]; unfold plF; rw [if_pos c_87]
        refine x_ifb_eq (tgt := 103) hx hb dX3_isSpeaker_96 (by decide) (fun c_96 => ?_) (fun c_96 => ?_)
        · refine x_iconst hx hb dX3_isSpeaker_103 ?_
          exact kend (a18, a29, a310, a411, T112) hP hS (by rw [e_3]; exact an_i (b2_f (by exact c_96)).symm) (by rw [e_3]; exact hp14) (by decide) dX3_isSpeaker_104
        · refine x_iconst hx hb dX3_isSpeaker_99 ?_
          refine lv_goto (tgt := 104) hx hb dX3_isSpeaker_100 (by decide) ?_
          exact kend (a18, a29, a310, a411, T112) hP hS (by rw [e_3]; exact an_i (b2_t (by exact c_96)).symm) (by rw [e_3]; exact hp14) (by decide) dX3_isSpeaker_104
    · refine lv_aload_n hx hb dX3_isSpeaker_52 rfl (lv_at hl 0 rfl) ?_
      refine x_callV (As := []) (rest := []) ⟨hx, hb, hml, hown, hts⟩ (kX3_step g ((nn : Nat) : Int) TB p7.1 ((p7.2.1 : Nat) : Int) ((p7.2.2.1 : Nat) : Int) a44 nn p7.2.2.1 rfl hn9 hTB rfl hi_p7.2.1) (cwV 0 hts gX3_isSpeaker_X3_step rfl rfl rfl ykVX3_step ⟨Nat.le_of_ble_eq_true rfl, Nat.le_of_ble_eq_true rfl⟩) hP hK hD hS 0 2 rfl rfl rfl [0, 1] rfl (by decide) (fun _ => rfl) (fun u => wTp cB g ((nn : Nat) : Int) TB (jj u.1 u.2.1 u.2.2.1 u.2.2.2) ++ (wTab cI q T b)) (fun _ => rfl) rfl hl.1 rfl (Nat.le_of_ble_eq_true rfl) dX3_isSpeaker_53 ⟨Nat.le_of_ble_eq_true rfl, Nat.le_of_ble_eq_true rfl⟩ (fun u19 H locs hp20 hP hD hS => ?_)
      obtain ⟨a115, a216, a317, a418⟩ := u19
      replace hp20 : tyS a115 a216 a317 a418 (tnF TB nn p7.2.2.1) := hp20
      have hP : va_P D vwCl (wTp cB g ((nn : Nat) : Int) TB (jj a115 a216 a317 a418) ++ (wTab cI q T b)) H := hP
      have hD : va_D A (wTp cB g ((nn : Nat) : Int) TB (jj a115 a216 a317 a418) ++ (wTab cI q T b)) := hD
      refine W.eq (g2 := F0 m 56 ls []) rfl ?_
      obtain ⟨p21, hp21⟩ : ∃ z, z = nx TB nn p7 := ⟨_, rfl⟩
      have hp20 : tyS a115 a216 a317 a418 p21 := by rw [hp21]; exact hp20
      obtain ⟨rfl, rfl, rfl, hv_p21⟩ := hp20
      have hi_p21 : tkI nn p21 := by rw [hp21]; exact (nx_I hi_p7).1
      refine lv_aload_n hx hb dX3_isSpeaker_56 rfl (lv_at hl 0 rfl) ?_
      refine x_bipush hx hb dX3_isSpeaker_57 (by decide) ?_
      refine x_callV (As := [.int (iI 99)]) (rest := []) ⟨hx, hb, hml, hown, hts⟩ (kX3_isNumber g ((nn : Nat) : Int) TB p21.1 ((p21.2.1 : Nat) : Int) ((p21.2.2.1 : Nat) : Int) a418 99 p21 nn ⟨rfl, rfl, rfl, hv_p21⟩ hi_p21 (by omega)) (cwV 1 hts gX3_isSpeaker_X3_isNumber rfl rfl rfl ykVX3_isNumber ⟨Nat.le_of_ble_eq_true rfl, Nat.le_of_ble_eq_true rfl⟩) hP hK hD hS 0 2 rfl rfl rfl [0, 1] rfl (by decide) (fun _ => rfl) (fun _ => wTp cB g ((nn : Nat) : Int) TB (jj p21.1 ((p21.2.1 : Nat) : Int) ((p21.2.2.1 : Nat) : Int) a418) ++ (wTab cI q T b)) (fun _ => rfl) rfl hl.1 rfl (Nat.le_of_ble_eq_true rfl) dX3_isSpeaker_59 ⟨Nat.le_of_ble_eq_true rfl, Nat.le_of_ble_eq_true rfl⟩ (fun _ H locs _ hP hD hS => ?_)
      refine W.eq (g2 := F0 m 62 ls [.int (iI (b2 (decide (nbB p21 99 = true))))]) rfl ?_
      refine x_ifb_ne (tgt := 67) hx hb dX3_isSpeaker_62 (by decide) (fun c_62 => ?_) (fun c_62 => ?_)
      · refine lv_aload_n hx hb dX3_isSpeaker_67 rfl (lv_at hl 1 rfl) ?_
        refine va_get (D := D) (ci := 1) (v := .ref (q 4)) (C := RX2) (T := TX2) (N := 12) hx hb hts (iT_X3_isSpeaker_X2) hown hK hP 2 rfl rfl 8 (by decide) (hts (.fieldLink RX3 97 "WordSupper$Table" "fat" "[I") (by decide +kernel)) (fun _ h9 => h9) rfl dX3_isSpeaker_68 ?_
        refine lv_iload_n hx hb dX3_isSpeaker_71 rfl (lv_at hl 2 rfl) ?_
        refine lv_aload_n hx hb dX3_isSpeaker_72 rfl (lv_at hl 0 rfl) ?_
        refine va_get (D := D) (ci := 2) (v := .int (iI a418)) (C := RX3) (T := TX3) (N := 6) hx hb hts (iT_X3_isSpeaker_X3) hown hK hP 0 rfl rfl 5 (by decide) (hts (.fieldLink RX3 92 "WordSupper$Tape" "value" "I") (by decide +kernel)) (fun _ h9 => h9) rfl dX3_isSpeaker_73 ?_
        have q5 := hv_p21 (nbB_i.mp c_62).1
        refine x_topi p21.2.2.2 q5 ?_
        refine x_iast hx hb hK hP hD hS 6 0 rfl rfl n rfl (by omega) (by decide) (wTp cB g ((nn : Nat) : Int) TB (jj p21.1 ((p21.2.1 : Nat) : Int) ((p21.2.2.1 : Nat) : Int) a418) ++ (wTab cI q (va_up T (cx n 2) p21.2.2.2) b)) (by rw [← wT_fat cI q T b p21.2.2.2 n (by omega)]; rfl) dX3_isSpeaker_76 (fun H locs hP hD hS => ?_)
        refine lv_aload_n hx hb dX3_isSpeaker_77 rfl (lv_at hl 0 rfl) ?_
        refine x_callV (As := []) (rest := []) ⟨hx, hb, hml, hown, hts⟩ (kX3_step g ((nn : Nat) : Int) TB p21.1 ((p21.2.1 : Nat) : Int) ((p21.2.2.1 : Nat) : Int) a418 nn p21.2.2.1 rfl hn9 hTB rfl hi_p21.2.1) (cwV 0 hts gX3_isSpeaker_X3_step rfl rfl rfl ykVX3_step ⟨Nat.le_of_ble_eq_true rfl, Nat.le_of_ble_eq_true rfl⟩) hP hK hD hS 0 2 rfl rfl rfl [0, 1] rfl (by decide) (fun _ => rfl) (fun u => wTp cB g ((nn : Nat) : Int) TB (jj u.1 u.2.1 u.2.2.1 u.2.2.2) ++ (wTab cI q (va_up T (cx n 2) p21.2.2.2) b)) (fun _ => rfl) rfl hl.1 rfl (Nat.le_of_ble_eq_true rfl) dX3_isSpeaker_78 ⟨Nat.le_of_ble_eq_true rfl, Nat.le_of_ble_eq_true rfl⟩ (fun u26 H locs hp27 hP hD hS => ?_)
        obtain ⟨a122, a223, a324, a425⟩ := u26
        replace hp27 : tyS a122 a223 a324 a425 (tnF TB nn p21.2.2.1) := hp27
        have hP : va_P D vwCl (wTp cB g ((nn : Nat) : Int) TB (jj a122 a223 a324 a425) ++ (wTab cI q (va_up T (cx n 2) p21.2.2.2) b)) H := hP
        have hD : va_D A (wTp cB g ((nn : Nat) : Int) TB (jj a122 a223 a324 a425) ++ (wTab cI q (va_up T (cx n 2) p21.2.2.2) b)) := hD
        refine W.eq (g2 := F0 m 81 ls []) rfl ?_
        obtain ⟨p28, hp28⟩ : ∃ z, z = nx TB nn p21 := ⟨_, rfl⟩
        have hp27 : tyS a122 a223 a324 a425 p28 := by rw [hp28]; exact hp27
        obtain ⟨rfl, rfl, rfl, hv_p28⟩ := hp27
        have hi_p28 : tkI nn p28 := by rw [hp28]; exact (nx_I hi_p21).1
        have e_2 : pkF TB nn (wdB TB p7 (wdA 10)) (cx n 2) 99 T p7 = (true, (va_up T (cx n 2) p21.2.2.2), p28) := (pk_c c_49).trans (by rw [pk_y (by rw [← hp21]; exact c_62), ← hp21, ← hp28])
        refine lv_aload_n hx hb dX3_isSpeaker_81 rfl (lv_at hl 0 rfl) ?_
        refine va_ldcS hx hb hown (hX.2.1.2.2.2.2.2.2.2.2.2.2.2) dX3_isSpeaker_82 ?_
        refine x_callVS (As := [.ref (kS 11)]) (rest := []) ⟨hx, hb, hml, hown, hts⟩ (kX3_isWord g ((nn : Nat) : Int) TB p28.1 ((p28.2.1 : Nat) : Int) ((p28.2.2.1 : Nat) : Int) a425 nn p28 11 rfl hn9 hTB ⟨rfl, rfl, rfl, hv_p28⟩ hi_p28 (by decide)) (cwV 1 hts gX3_isSpeaker_X3_isWord rfl rfl rfl ykVX3_isWord ⟨Nat.le_of_ble_eq_true rfl, Nat.le_of_ble_eq_true rfl⟩) hP hK hD hS hX 0 2 rfl rfl rfl [0, 1] rfl (by decide) (fun _ => rfl) (fun _ => wTp cB g ((nn : Nat) : Int) TB (jj p28.1 ((p28.2.1 : Nat) : Int) ((p28.2.2.1 : Nat) : Int) a425) ++ (wTab cI q (va_up T (cx n 2) p21.2.2.2) b)) (fun _ => rfl) rfl hl.1 rfl (Nat.le_of_ble_eq_true rfl) dX3_isSpeaker_84 ⟨Nat.le_of_ble_eq_true rfl, Nat.le_of_ble_eq_true rfl⟩ (fun _ H locs _ hP hD hS => ?_)
        refine W.eq (g2 := F0 m 87 ls [.int (iI (b2 (decide (wdB TB p28 (wdA 11) = true))))]) rfl ?_
        refine x_ifb_eq (tgt := 99) hx hb dX3_isSpeaker_87 (by decide) (fun c_87 => ?_) (fun c_87 => ?_)
        · refine x_iconst hx hb dX3_isSpeaker_99 ?_
          refine lv_goto (tgt := 104) hx hb dX3_isSpeaker_100 (by decide) ?_
          exact kend (p28.1, ((p28.2.1 : Nat) : Int), ((p28.2.2.1 : Nat) : Int), a425, va_up T (cx n 2) p21.2.2.2) hP hS (an_i (b2_z (x := true) (y := (va_up T (cx n 2) p21.2.2.2, p28)) (by unfold spB; rw [bR_t e_1, bR_t e_2]; unfold plF; rw [if_neg c_87])).symm) (rs_t (x := true) (by unfold spB; rw [bR_t e_1, bR_t e_2]; unfold plF; rw [if_neg c_87]) ⟨rfl, rfl, rfl, hv_p28⟩) (by decide) dX3_isSpeaker_104
        · refine lv_aload_n hx hb dX3_isSpeaker_90 rfl (lv_at hl 0 rfl) ?_
          refine lv_aload_n hx hb dX3_isSpeaker_91 rfl (lv_at hl 1 rfl) ?_
          refine lv_iload_n hx hb dX3_isSpeaker_92 rfl (lv_at hl 2 rfl) ?_
          refine x_callV (As := [.ref (q 0), .int (iI ((n : Nat) : Int))]) (rest := []) ⟨hx, hb, hml, hown, hts⟩ (kX3_isPlate g ((nn : Nat) : Int) TB p28.1 ((p28.2.1 : Nat) : Int) ((p28.2.2.1 : Nat) : Int) a425 q (va_up T (cx n 2) p21.2.2.2) b n nn p28 rfl hn9 hTB ⟨rfl, rfl, rfl, hv_p28⟩ hi_p28 (by omega)) (cwV 2 hts gX3_isSpeaker_X3_isPlate rfl rfl rfl ykVX3_isPlate ⟨Nat.le_of_ble_eq_true rfl, Nat.le_of_ble_eq_true rfl⟩) hP hK hD hS 0 2 rfl rfl rfl [0, 1, 2, 3, 4, 5, 6, 7, 8, 9] rfl (by decide) (fun _ => rfl) (fun u => wTp cB g ((nn : Nat) : Int) TB (jj u.1 u.2.1 u.2.2.1 u.2.2.2.1) ++ (wTab cI q u.2.2.2.2 b)) (fun _ => rfl) rfl hl.1 rfl (Nat.le_of_ble_eq_true rfl) dX3_isSpeaker_93 ⟨Nat.le_of_ble_eq_true rfl, Nat.le_of_ble_eq_true rfl⟩ (fun u34 H locs hp35 hP hD hS => ?_)
          obtain ⟨a129, a230, a331, a432, T133⟩ := u34
          replace hp35 : rsP (plQ TB nn n (va_up T (cx n 2) p21.2.2.2) p28) a129 a230 a331 a432 T133 := hp35
          have hP : va_P D vwCl (wTp cB g ((nn : Nat) : Int) TB (jj a129 a230 a331 a432) ++ (wTab cI q T133 b)) H := hP
          have hD : va_D A (wTp cB g ((nn : Nat) : Int) TB (jj a129 a230 a331 a432) ++ (wTab cI q T133 b)) := hD
          refine W.eq (g2 := F0 m 96 ls [.int (iI (b2 (decide ((plQ TB nn n (va_up T (cx n 2) p21.2.2.2) p28).1 = true))))]) rfl ?_
          have e_3 : spB TB nn n T p = plQ TB nn n (va_up T (cx n 2) p21.2.2.2) p28 := by unfold spB; rw [bR_t e_1, bR_t e_2]; unfold plF; rw [if_pos c_87]
          refine x_ifb_eq (tgt := 103) hx hb dX3_isSpeaker_96 (by decide) (fun c_96 => ?_) (fun c_96 => ?_)
          · refine x_iconst hx hb dX3_isSpeaker_103 ?_
            exact kend (a129, a230, a331, a432, T133) hP hS (by rw [e_3]; exact an_i (b2_f (by exact c_96)).symm) (by rw [e_3]; exact hp35) (by decide) dX3_isSpeaker_104
          · refine x_iconst hx hb dX3_isSpeaker_99 ?_
            refine lv_goto (tgt := 104) hx hb dX3_isSpeaker_100 (by decide) ?_
            exact kend (a129, a230, a331, a432, T133) hP hS (by rw [e_3]; exact an_i (b2_t (by exact c_96)).symm) (by rw [e_3]; exact hp35) (by decide) dX3_isSpeaker_104
      · refine x_iconst hx hb dX3_isSpeaker_65 ?_
        exact kend (p21.1, ((p21.2.1 : Nat) : Int), ((p21.2.2.1 : Nat) : Int), a418, T) hP hS (an_i (b2_z (x := false) (y := (T, p21)) (by unfold spB; rw [bR_t e_1]; exact bR_f ((pk_c c_49).trans (by rw [pk_n (by rw [← hp21]; exact c_62), ← hp21])))).symm) (rs_t (x := false) (by unfold spB; rw [bR_t e_1]; exact bR_f ((pk_c c_49).trans (by rw [pk_n (by rw [← hp21]; exact c_62), ← hp21]))) ⟨rfl, rfl, rfl, hv_p21⟩) (by decide) dX3_isSpeaker_66
  · refine lv_aload_n hx hb dX3_isSpeaker_13 rfl (lv_at hl 0 rfl) ?_
    refine x_callV (As := []) (rest := []) ⟨hx, hb, hml, hown, hts⟩ (kX3_step g ((nn : Nat) : Int) TB p7.1 ((p7.2.1 : Nat) : Int) ((p7.2.2.1 : Nat) : Int) a44 nn p7.2.2.1 rfl hn9 hTB rfl hi_p7.2.1) (cwV 0 hts gX3_isSpeaker_X3_step rfl rfl rfl ykVX3_step ⟨Nat.le_of_ble_eq_true rfl, Nat.le_of_ble_eq_true rfl⟩) hP hK hD hS 0 2 rfl rfl rfl [0, 1] rfl (by decide) (fun _ => rfl) (fun u => wTp cB g ((nn : Nat) : Int) TB (jj u.1 u.2.1 u.2.2.1 u.2.2.2) ++ (wTab cI q T b)) (fun _ => rfl) rfl hl.1 rfl (Nat.le_of_ble_eq_true rfl) dX3_isSpeaker_14 ⟨Nat.le_of_ble_eq_true rfl, Nat.le_of_ble_eq_true rfl⟩ (fun u40 H locs hp41 hP hD hS => ?_)
    obtain ⟨a136, a237, a338, a439⟩ := u40
    replace hp41 : tyS a136 a237 a338 a439 (tnF TB nn p7.2.2.1) := hp41
    have hP : va_P D vwCl (wTp cB g ((nn : Nat) : Int) TB (jj a136 a237 a338 a439) ++ (wTab cI q T b)) H := hP
    have hD : va_D A (wTp cB g ((nn : Nat) : Int) TB (jj a136 a237 a338 a439) ++ (wTab cI q T b)) := hD
    refine W.eq (g2 := F0 m 17 ls []) rfl ?_
    obtain ⟨p42, hp42⟩ : ∃ z, z = nx TB nn p7 := ⟨_, rfl⟩
    have hp41 : tyS a136 a237 a338 a439 p42 := by rw [hp42]; exact hp41
    obtain ⟨rfl, rfl, rfl, hv_p42⟩ := hp41
    have hi_p42 : tkI nn p42 := by rw [hp42]; exact (nx_I hi_p7).1
    refine lv_aload_n hx hb dX3_isSpeaker_17 rfl (lv_at hl 0 rfl) ?_
    refine lv_iload_n hx hb dX3_isSpeaker_18 rfl (lv_at hl 2 rfl) ?_
    refine x_iconst hx hb dX3_isSpeaker_19 ?_
    refine x_isub hx hb dX3_isSpeaker_20 ?_
    refine x_callV (As := [.int (iI (((n : Nat) : Int) - 1))]) (rest := []) ⟨hx, hb, hml, hown, hts⟩ (kX3_isNumber g ((nn : Nat) : Int) TB p42.1 ((p42.2.1 : Nat) : Int) ((p42.2.2.1 : Nat) : Int) a439 (((n : Nat) : Int) - 1) p42 nn ⟨rfl, rfl, rfl, hv_p42⟩ hi_p42 (by omega)) (cwV 1 hts gX3_isSpeaker_X3_isNumber rfl rfl rfl ykVX3_isNumber ⟨Nat.le_of_ble_eq_true rfl, Nat.le_of_ble_eq_true rfl⟩) hP hK hD hS 0 2 rfl rfl rfl [0, 1] rfl (by decide) (fun _ => rfl) (fun _ => wTp cB g ((nn : Nat) : Int) TB (jj p42.1 ((p42.2.1 : Nat) : Int) ((p42.2.2.1 : Nat) : Int) a439) ++ (wTab cI q T b)) (fun _ => rfl) rfl hl.1 rfl (Nat.le_of_ble_eq_true rfl) dX3_isSpeaker_21 ⟨Nat.le_of_ble_eq_true rfl, Nat.le_of_ble_eq_true rfl⟩ (fun _ H locs _ hP hD hS => ?_)
    refine W.eq (g2 := F0 m 24 ls [.int (iI (b2 (decide (nbB p42 (((n : Nat) : Int) - 1) = true))))]) rfl ?_
    refine x_ifb_ne (tgt := 29) hx hb dX3_isSpeaker_24 (by decide) (fun c_24 => ?_) (fun c_24 => ?_)
    · refine lv_aload_n hx hb dX3_isSpeaker_29 rfl (lv_at hl 1 rfl) ?_
      refine va_get (D := D) (ci := 1) (v := .ref (q 3)) (C := RX2) (T := TX2) (N := 12) hx hb hts (iT_X3_isSpeaker_X2) hown hK hP 2 rfl rfl 7 (by decide) (hts (.fieldLink RX3 89 "WordSupper$Table" "loves" "[I") (by decide +kernel)) (fun _ h9 => h9) rfl dX3_isSpeaker_30 ?_
      refine lv_iload_n hx hb dX3_isSpeaker_33 rfl (lv_at hl 2 rfl) ?_
      refine lv_aload_n hx hb dX3_isSpeaker_34 rfl (lv_at hl 0 rfl) ?_
      refine va_get (D := D) (ci := 2) (v := .int (iI a439)) (C := RX3) (T := TX3) (N := 6) hx hb hts (iT_X3_isSpeaker_X3) hown hK hP 0 rfl rfl 5 (by decide) (hts (.fieldLink RX3 92 "WordSupper$Tape" "value" "I") (by decide +kernel)) (fun _ h9 => h9) rfl dX3_isSpeaker_35 ?_
      have q5 := hv_p42 (nbB_i.mp c_24).1
      refine x_topi p42.2.2.2 q5 ?_
      refine x_iast hx hb hK hP hD hS 5 0 rfl rfl n rfl (by omega) (by decide) (wTp cB g ((nn : Nat) : Int) TB (jj p42.1 ((p42.2.1 : Nat) : Int) ((p42.2.2.1 : Nat) : Int) a439) ++ (wTab cI q (va_up T (cx n 1) p42.2.2.2) b)) (by rw [← wT_loves cI q T b p42.2.2.2 n (by omega)]; rfl) dX3_isSpeaker_38 (fun H locs hP hD hS => ?_)
      refine lv_aload_n hx hb dX3_isSpeaker_39 rfl (lv_at hl 0 rfl) ?_
      refine x_callV (As := []) (rest := []) ⟨hx, hb, hml, hown, hts⟩ (kX3_step g ((nn : Nat) : Int) TB p42.1 ((p42.2.1 : Nat) : Int) ((p42.2.2.1 : Nat) : Int) a439 nn p42.2.2.1 rfl hn9 hTB rfl hi_p42.2.1) (cwV 0 hts gX3_isSpeaker_X3_step rfl rfl rfl ykVX3_step ⟨Nat.le_of_ble_eq_true rfl, Nat.le_of_ble_eq_true rfl⟩) hP hK hD hS 0 2 rfl rfl rfl [0, 1] rfl (by decide) (fun _ => rfl) (fun u => wTp cB g ((nn : Nat) : Int) TB (jj u.1 u.2.1 u.2.2.1 u.2.2.2) ++ (wTab cI q (va_up T (cx n 1) p42.2.2.2) b)) (fun _ => rfl) rfl hl.1 rfl (Nat.le_of_ble_eq_true rfl) dX3_isSpeaker_40 ⟨Nat.le_of_ble_eq_true rfl, Nat.le_of_ble_eq_true rfl⟩ (fun u47 H locs hp48 hP hD hS => ?_)
      obtain ⟨a143, a244, a345, a446⟩ := u47
      replace hp48 : tyS a143 a244 a345 a446 (tnF TB nn p42.2.2.1) := hp48
      have hP : va_P D vwCl (wTp cB g ((nn : Nat) : Int) TB (jj a143 a244 a345 a446) ++ (wTab cI q (va_up T (cx n 1) p42.2.2.2) b)) H := hP
      have hD : va_D A (wTp cB g ((nn : Nat) : Int) TB (jj a143 a244 a345 a446) ++ (wTab cI q (va_up T (cx n 1) p42.2.2.2) b)) := hD
      refine W.eq (g2 := F0 m 43 ls []) rfl ?_
      obtain ⟨p49, hp49⟩ : ∃ z, z = nx TB nn p42 := ⟨_, rfl⟩
      have hp48 : tyS a143 a244 a345 a446 p49 := by rw [hp49]; exact hp48
      obtain ⟨rfl, rfl, rfl, hv_p49⟩ := hp48
      have hi_p49 : tkI nn p49 := by rw [hp49]; exact (nx_I hi_p42).1
      have e_1 : pkF TB nn (wdB TB (nx TB nn p) (wdA 9)) (cx n 1) ((n : Int) - 1) T (nx TB nn p) = (true, (va_up T (cx n 1) p42.2.2.2), p49) := by rw [← hp7]; exact (pk_c c_10).trans (by rw [pk_y (by rw [← hp42]; exact c_24), ← hp42, ← hp49])
      refine lv_aload_n hx hb dX3_isSpeaker_43 rfl (lv_at hl 0 rfl) ?_
      refine va_ldcS hx hb hown (hX.2.1.2.2.2.2.2.2.2.2.2.2.1) dX3_isSpeaker_44 ?_
      refine x_callVS (As := [.ref (kS 10)]) (rest := []) ⟨hx, hb, hml, hown, hts⟩ (kX3_isWord g ((nn : Nat) : Int) TB p49.1 ((p49.2.1 : Nat) : Int) ((p49.2.2.1 : Nat) : Int) a446 nn p49 10 rfl hn9 hTB ⟨rfl, rfl, rfl, hv_p49⟩ hi_p49 (by decide)) (cwV 1 hts gX3_isSpeaker_X3_isWord rfl rfl rfl ykVX3_isWord ⟨Nat.le_of_ble_eq_true rfl, Nat.le_of_ble_eq_true rfl⟩) hP hK hD hS hX 0 2 rfl rfl rfl [0, 1] rfl (by decide) (fun _ => rfl) (fun _ => wTp cB g ((nn : Nat) : Int) TB (jj p49.1 ((p49.2.1 : Nat) : Int) ((p49.2.2.1 : Nat) : Int) a446) ++ (wTab cI q (va_up T (cx n 1) p42.2.2.2) b)) (fun _ => rfl) rfl hl.1 rfl (Nat.le_of_ble_eq_true rfl) dX3_isSpeaker_46 ⟨Nat.le_of_ble_eq_true rfl, Nat.le_of_ble_eq_true rfl⟩ (fun _ H locs _ hP hD hS => ?_)
      refine W.eq (g2 := F0 m 49 ls [.int (iI (b2 (decide (wdB TB p49 (wdA 10) = true))))]) rfl ?_
      refine x_ifb_eq (tgt := 81) hx hb dX3_isSpeaker_49 (by decide) (fun c_49 => ?_) (fun c_49 => ?_)
      · have e_2 : pkF TB nn (wdB TB p49 (wdA 10)) (cx n 2) 99 (va_up T (cx n 1) p42.2.2.2) p49 = (true, (va_up T (cx n 1) p42.2.2.2), p49) := pk_o c_49
        refine lv_aload_n hx hb dX3_isSpeaker_81 rfl (lv_at hl 0 rfl) ?_
        refine va_ldcS hx hb hown (hX.2.1.2.2.2.2.2.2.2.2.2.2.2) dX3_isSpeaker_82 ?_
        refine x_callVS (As := [.ref (kS 11)]) (rest := []) ⟨hx, hb, hml, hown, hts⟩ (kX3_isWord g ((nn : Nat) : Int) TB p49.1 ((p49.2.1 : Nat) : Int) ((p49.2.2.1 : Nat) : Int) a446 nn p49 11 rfl hn9 hTB ⟨rfl, rfl, rfl, hv_p49⟩ hi_p49 (by decide)) (cwV 1 hts gX3_isSpeaker_X3_isWord rfl rfl rfl ykVX3_isWord ⟨Nat.le_of_ble_eq_true rfl, Nat.le_of_ble_eq_true rfl⟩) hP hK hD hS hX 0 2 rfl rfl rfl [0, 1] rfl (by decide) (fun _ => rfl) (fun _ => wTp cB g ((nn : Nat) : Int) TB (jj p49.1 ((p49.2.1 : Nat) : Int) ((p49.2.2.1 : Nat) : Int) a446) ++ (wTab cI q (va_up T (cx n 1) p42.2.2.2) b)) (fun _ => rfl) rfl hl.1 rfl (Nat.le_of_ble_eq_true rfl) dX3_isSpeaker_84 ⟨Nat.le_of_ble_eq_true rfl, Nat.le_of_ble_eq_true rfl⟩ (fun _ H locs _ hP hD hS => ?_)
        refine W.eq (g2 := F0 m 87 ls [.int (iI (b2 (decide (wdB TB p49 (wdA 11) = true))))]) rfl ?_
        refine x_ifb_eq (tgt := 99) hx hb dX3_isSpeaker_87 (by decide) (fun c_87 => ?_) (fun c_87 => ?_)
        · refine x_iconst hx hb dX3_isSpeaker_99 ?_
          refine lv_goto (tgt := 104) hx hb dX3_isSpeaker_100 (by decide) ?_
          exact kend (p49.1, ((p49.2.1 : Nat) : Int), ((p49.2.2.1 : Nat) : Int), a446, va_up T (cx n 1) p42.2.2.2) hP hS (an_i (b2_z (x := true) (y := (va_up T (cx n 1) p42.2.2.2, p49)) (by unfold spB; rw [bR_t e_1, bR_t e_2]; unfold plF; rw [if_neg c_87])).symm) (rs_t (x := true) (by unfold spB; rw [bR_t e_1, bR_t e_2]; unfold plF; rw [if_neg c_87]) ⟨rfl, rfl, rfl, hv_p49⟩) (by decide) dX3_isSpeaker_104
        · refine lv_aload_n hx hb dX3_isSpeaker_90 rfl (lv_at hl 0 rfl) ?_
          refine lv_aload_n hx hb dX3_isSpeaker_91 rfl (lv_at hl 1 rfl) ?_
          refine lv_iload_n hx hb dX3_isSpeaker_92 rfl (lv_at hl 2 rfl) ?_
          refine x_callV (As := [.ref (q 0), .int (iI ((n : Nat) : Int))]) (rest := []) ⟨hx, hb, hml, hown, hts⟩ (kX3_isPlate g ((nn : Nat) : Int) TB p49.1 ((p49.2.1 : Nat) : Int) ((p49.2.2.1 : Nat) : Int) a446 q (va_up T (cx n 1) p42.2.2.2) b n nn p49 rfl hn9 hTB ⟨rfl, rfl, rfl, hv_p49⟩ hi_p49 (by omega)) (cwV 2 hts gX3_isSpeaker_X3_isPlate rfl rfl rfl ykVX3_isPlate ⟨Nat.le_of_ble_eq_true rfl, Nat.le_of_ble_eq_true rfl⟩) hP hK hD hS 0 2 rfl rfl rfl [0, 1, 2, 3, 4, 5, 6, 7, 8, 9] rfl (by decide) (fun _ => rfl) (fun u => wTp cB g ((nn : Nat) : Int) TB (jj u.1 u.2.1 u.2.2.1 u.2.2.2.1) ++ (wTab cI q u.2.2.2.2 b)) (fun _ => rfl) rfl hl.1 rfl (Nat.le_of_ble_eq_true rfl) dX3_isSpeaker_93 ⟨Nat.le_of_ble_eq_true rfl, Nat.le_of_ble_eq_true rfl⟩ (fun u55 H locs hp56 hP hD hS => ?_)
          obtain ⟨a150, a251, a352, a453, T154⟩ := u55
          replace hp56 : rsP (plQ TB nn n (va_up T (cx n 1) p42.2.2.2) p49) a150 a251 a352 a453 T154 := hp56
          have hP : va_P D vwCl (wTp cB g ((nn : Nat) : Int) TB (jj a150 a251 a352 a453) ++ (wTab cI q T154 b)) H := hP
          have hD : va_D A (wTp cB g ((nn : Nat) : Int) TB (jj a150 a251 a352 a453) ++ (wTab cI q T154 b)) := hD
          refine W.eq (g2 := F0 m 96 ls [.int (iI (b2 (decide ((plQ TB nn n (va_up T (cx n 1) p42.2.2.2) p49).1 = true))))]) rfl ?_
          have e_3 : spB TB nn n T p = plQ TB nn n (va_up T (cx n 1) p42.2.2.2) p49 := by unfold spB; rw [bR_t e_1, bR_t e_2]; unfold plF; rw [if_pos c_87]
          refine x_ifb_eq (tgt := 103) hx hb dX3_isSpeaker_96 (by decide) (fun c_96 => ?_) (fun c_96 => ?_)
          · refine x_iconst hx hb dX3_isSpeaker_103 ?_
            exact kend (a150, a251, a352, a453, T154) hP hS (by rw [e_3]; exact an_i (b2_f (by exact c_96)).symm) (by rw [e_3]; exact hp56) (by decide) dX3_isSpeaker_104
          · refine x_iconst hx hb dX3_isSpeaker_99 ?_
            refine lv_goto (tgt := 104) hx hb dX3_isSpeaker_100 (by decide) ?_
            exact kend (a150, a251, a352, a453, T154) hP hS (by rw [e_3]; exact an_i (b2_t (by exact c_96)).symm) (by rw [e_3]; exact hp56) (by decide) dX3_isSpeaker_104
      · refine lv_aload_n hx hb dX3_isSpeaker_52 rfl (lv_at hl 0 rfl) ?_
        refine x_callV (As := []) (rest := []) ⟨hx, hb, hml, hown, hts⟩ (kX3_step g ((nn : Nat) : Int) TB p49.1 ((p49.2.1 : Nat) : Int) ((p49.2.2.1 : Nat) : Int) a446 nn p49.2.2.1 rfl hn9 hTB rfl hi_p49.2.1) (cwV 0 hts gX3_isSpeaker_X3_step rfl rfl rfl ykVX3_step ⟨Nat.le_of_ble_eq_true rfl, Nat.le_of_ble_eq_true rfl⟩) hP hK hD hS 0 2 rfl rfl rfl [0, 1] rfl (by decide) (fun _ => rfl) (fun u => wTp cB g ((nn : Nat) : Int) TB (jj u.1 u.2.1 u.2.2.1 u.2.2.2) ++ (wTab cI q (va_up T (cx n 1) p42.2.2.2) b)) (fun _ => rfl) rfl hl.1 rfl (Nat.le_of_ble_eq_true rfl) dX3_isSpeaker_53 ⟨Nat.le_of_ble_eq_true rfl, Nat.le_of_ble_eq_true rfl⟩ (fun u61 H locs hp62 hP hD hS => ?_)
        obtain ⟨a157, a258, a359, a460⟩ := u61
        replace hp62 : tyS a157 a258 a359 a460 (tnF TB nn p49.2.2.1) := hp62
        have hP : va_P D vwCl (wTp cB g ((nn : Nat) : Int) TB (jj a157 a258 a359 a460) ++ (wTab cI q (va_up T (cx n 1) p42.2.2.2) b)) H := hP
        have hD : va_D A (wTp cB g ((nn : Nat) : Int) TB (jj a157 a258 a359 a460) ++ (wTab cI q (va_up T (cx n 1) p42.2.2.2) b)) := hD
        refine W.eq (g2 := F0 m 56 ls []) rfl ?_
        obtain ⟨p63, hp63⟩ : ∃ z, z = nx TB nn p49 := ⟨_, rfl⟩
        have hp62 : tyS a157 a258 a359 a460 p63 := by rw [hp63]; exact hp62
        obtain ⟨rfl, rfl, rfl, hv_p63⟩ := hp62
        have hi_p63 : tkI nn p63 := by rw [hp63]; exact (nx_I hi_p49).1
        refine lv_aload_n hx hb dX3_isSpeaker_56 rfl (lv_at hl 0 rfl) ?_
        refine x_bipush hx hb dX3_isSpeaker_57 (by decide) ?_
        refine x_callV (As := [.int (iI 99)]) (rest := []) ⟨hx, hb, hml, hown, hts⟩ (kX3_isNumber g ((nn : Nat) : Int) TB p63.1 ((p63.2.1 : Nat) : Int) ((p63.2.2.1 : Nat) : Int) a460 99 p63 nn ⟨rfl, rfl, rfl, hv_p63⟩ hi_p63 (by omega)) (cwV 1 hts gX3_isSpeaker_X3_isNumber rfl rfl rfl ykVX3_isNumber ⟨Nat.le_of_ble_eq_true rfl, Nat.le_of_ble_eq_true rfl⟩) hP hK hD hS 0 2 rfl rfl rfl [0, 1] rfl (by decide) (fun _ => rfl) (fun _ => wTp cB g ((nn : Nat) : Int) TB (jj p63.1 ((p63.2.1 : Nat) : Int) ((p63.2.2.1 : Nat) : Int) a460) ++ (wTab cI q (va_up T (cx n 1) p42.2.2.2) b)) (fun _ => rfl) rfl hl.1 rfl (Nat.le_of_ble_eq_true rfl) dX3_isSpeaker_59 ⟨Nat.le_of_ble_eq_true rfl, Nat.le_of_ble_eq_true rfl⟩ (fun _ H locs _ hP hD hS => ?_)
        refine W.eq (g2 := F0 m 62 ls [.int (iI (b2 (decide (nbB p63 99 = true))))]) rfl ?_
        refine x_ifb_ne (tgt := 67) hx hb dX3_isSpeaker_62 (by decide) (fun c_62 => ?_) (fun c_62 => ?_)
        · refine lv_aload_n hx hb dX3_isSpeaker_67 rfl (lv_at hl 1 rfl) ?_
          refine va_get (D := D) (ci := 1) (v := .ref (q 4)) (C := RX2) (T := TX2) (N := 12) hx hb hts (iT_X3_isSpeaker_X2) hown hK hP 2 rfl rfl 8 (by decide) (hts (.fieldLink RX3 97 "WordSupper$Table" "fat" "[I") (by decide +kernel)) (fun _ h9 => h9) rfl dX3_isSpeaker_68 ?_
          refine lv_iload_n hx hb dX3_isSpeaker_71 rfl (lv_at hl 2 rfl) ?_
          refine lv_aload_n hx hb dX3_isSpeaker_72 rfl (lv_at hl 0 rfl) ?_
          refine va_get (D := D) (ci := 2) (v := .int (iI a460)) (C := RX3) (T := TX3) (N := 6) hx hb hts (iT_X3_isSpeaker_X3) hown hK hP 0 rfl rfl 5 (by decide) (hts (.fieldLink RX3 92 "WordSupper$Tape" "value" "I") (by decide +kernel)) (fun _ h9 => h9) rfl dX3_isSpeaker_73 ?_
          have q5 := hv_p63 (nbB_i.mp c_62).1
          refine x_topi p63.2.2.2 q5 ?_
          refine x_iast hx hb hK hP hD hS 6 0 rfl rfl n rfl (by omega) (by decide) (wTp cB g ((nn : Nat) : Int) TB (jj p63.1 ((p63.2.1 : Nat) : Int) ((p63.2.2.1 : Nat) : Int) a460) ++ (wTab cI q (va_up (va_up T (cx n 1) p42.2.2.2) (cx n 2) p63.2.2.2) b)) (by rw [← wT_fat cI q (va_up T (cx n 1) p42.2.2.2) b p63.2.2.2 n (by omega)]; rfl) dX3_isSpeaker_76 (fun H locs hP hD hS => ?_)
          refine lv_aload_n hx hb dX3_isSpeaker_77 rfl (lv_at hl 0 rfl) ?_
          refine x_callV (As := []) (rest := []) ⟨hx, hb, hml, hown, hts⟩ (kX3_step g ((nn : Nat) : Int) TB p63.1 ((p63.2.1 : Nat) : Int) ((p63.2.2.1 : Nat) : Int) a460 nn p63.2.2.1 rfl hn9 hTB rfl hi_p63.2.1) (cwV 0 hts gX3_isSpeaker_X3_step rfl rfl rfl ykVX3_step ⟨Nat.le_of_ble_eq_true rfl, Nat.le_of_ble_eq_true rfl⟩) hP hK hD hS 0 2 rfl rfl rfl [0, 1] rfl (by decide) (fun _ => rfl) (fun u => wTp cB g ((nn : Nat) : Int) TB (jj u.1 u.2.1 u.2.2.1 u.2.2.2) ++ (wTab cI q (va_up (va_up T (cx n 1) p42.2.2.2) (cx n 2) p63.2.2.2) b)) (fun _ => rfl) rfl hl.1 rfl (Nat.le_of_ble_eq_true rfl) dX3_isSpeaker_78 ⟨Nat.le_of_ble_eq_true rfl, Nat.le_of_ble_eq_true rfl⟩ (fun u68 H locs hp69 hP hD hS => ?_)
          obtain ⟨a164, a265, a366, a467⟩ := u68
          replace hp69 : tyS a164 a265 a366 a467 (tnF TB nn p63.2.2.1) := hp69
          have hP : va_P D vwCl (wTp cB g ((nn : Nat) : Int) TB (jj a164 a265 a366 a467) ++ (wTab cI q (va_up (va_up T (cx n 1) p42.2.2.2) (cx n 2) p63.2.2.2) b)) H := hP
          have hD : va_D A (wTp cB g ((nn : Nat) : Int) TB (jj a164 a265 a366 a467) ++ (wTab cI q (va_up (va_up T (cx n 1) p42.2.2.2) (cx n 2) p63.2.2.2) b)) := hD
          refine W.eq (g2 := F0 m 81 ls []) rfl ?_
          obtain ⟨p70, hp70⟩ : ∃ z, z = nx TB nn p63 := ⟨_, rfl⟩
          have hp69 : tyS a164 a265 a366 a467 p70 := by rw [hp70]; exact hp69
          obtain ⟨rfl, rfl, rfl, hv_p70⟩ := hp69
          have hi_p70 : tkI nn p70 := by rw [hp70]; exact (nx_I hi_p63).1
          have e_2 : pkF TB nn (wdB TB p49 (wdA 10)) (cx n 2) 99 (va_up T (cx n 1) p42.2.2.2) p49 = (true, (va_up (va_up T (cx n 1) p42.2.2.2) (cx n 2) p63.2.2.2), p70) := (pk_c c_49).trans (by rw [pk_y (by rw [← hp63]; exact c_62), ← hp63, ← hp70])
          refine lv_aload_n hx hb dX3_isSpeaker_81 rfl (lv_at hl 0 rfl) ?_
          refine va_ldcS hx hb hown (hX.2.1.2.2.2.2.2.2.2.2.2.2.2) dX3_isSpeaker_82 ?_
          refine x_callVS (As := [.ref (kS 11)]) (rest := []) ⟨hx, hb, hml, hown, hts⟩ (kX3_isWord g ((nn : Nat) : Int) TB p70.1 ((p70.2.1 : Nat) : Int) ((p70.2.2.1 : Nat) : Int) a467 nn p70 11 rfl hn9 hTB ⟨rfl, rfl, rfl, hv_p70⟩ hi_p70 (by decide)) (cwV 1 hts gX3_isSpeaker_X3_isWord rfl rfl rfl ykVX3_isWord ⟨Nat.le_of_ble_eq_true rfl, Nat.le_of_ble_eq_true rfl⟩) hP hK hD hS hX 0 2 rfl rfl rfl [0, 1] rfl (by decide) (fun _ => rfl) (fun _ => wTp cB g ((nn : Nat) : Int) TB (jj p70.1 ((p70.2.1 : Nat) : Int) ((p70.2.2.1 : Nat) : Int) a467) ++ (wTab cI q (va_up (va_up T (cx n 1) p42.2.2.2) (cx n 2) p63.2.2.2) b)) (fun _ => rfl) rfl hl.1 rfl (Nat.le_of_ble_eq_true rfl) dX3_isSpeaker_84 ⟨Nat.le_of_ble_eq_true rfl, Nat.le_of_ble_eq_true rfl⟩ (fun _ H locs _ hP hD hS => ?_)
          refine W.eq (g2 := F0 m 87 ls [.int (iI (b2 (decide (wdB TB p70 (wdA 11) = true))))]) rfl ?_
          refine x_ifb_eq (tgt := 99) hx hb dX3_isSpeaker_87 (by decide) (fun c_87 => ?_) (fun c_87 => ?_)
          · refine x_iconst hx hb dX3_isSpeaker_99 ?_
            refine lv_goto (tgt := 104) hx hb dX3_isSpeaker_100 (by decide) ?_
            exact kend (p70.1, ((p70.2.1 : Nat) : Int), ((p70.2.2.1 : Nat) : Int), a467, va_up (va_up T (cx n 1) p42.2.2.2) (cx n 2) p63.2.2.2) hP hS (an_i (b2_z (x := true) (y := (va_up (va_up T (cx n 1) p42.2.2.2) (cx n 2) p63.2.2.2, p70)) (by unfold spB; rw [bR_t e_1, bR_t e_2]; unfold plF; rw [if_neg c_87])).symm) (rs_t (x := true) (by unfold spB; rw [bR_t e_1, bR_t e_2]; unfold plF; rw [if_neg c_87]) ⟨rfl, rfl, rfl, hv_p70⟩) (by decide) dX3_isSpeaker_104
          · refine lv_aload_n hx hb dX3_isSpeaker_90 rfl (lv_at hl 0 rfl) ?_
            refine lv_aload_n hx hb dX3_isSpeaker_91 rfl (lv_at hl 1 rfl) ?_
            refine lv_iload_n hx hb dX3_isSpeaker_92 rfl (lv_at hl 2 rfl) ?_
            refine x_callV (As := [.ref (q 0), .int (iI ((n : Nat) : Int))]) (rest := []) ⟨hx, hb, hml, hown, hts⟩ (kX3_isPlate g ((nn : Nat) : Int) TB p70.1 ((p70.2.1 : Nat) : Int) ((p70.2.2.1 : Nat) : Int) a467 q (va_up (va_up T (cx n 1) p42.2.2.2) (cx n 2) p63.2.2.2) b n nn p70 rfl hn9 hTB ⟨rfl, rfl, rfl, hv_p70⟩ hi_p70 (by omega)) (cwV 2 hts gX3_isSpeaker_X3_isPlate rfl rfl rfl ykVX3_isPlate ⟨Nat.le_of_ble_eq_true rfl, Nat.le_of_ble_eq_true rfl⟩) hP hK hD hS 0 2 rfl rfl rfl [0, 1, 2, 3, 4, 5, 6, 7, 8, 9] rfl (by decide) (fun _ => rfl) (fun u => wTp cB g ((nn : Nat) : Int) TB (jj u.1 u.2.1 u.2.2.1 u.2.2.2.1) ++ (wTab cI q u.2.2.2.2 b)) (fun _ => rfl) rfl hl.1 rfl (Nat.le_of_ble_eq_true rfl) dX3_isSpeaker_93 ⟨Nat.le_of_ble_eq_true rfl, Nat.le_of_ble_eq_true rfl⟩ (fun u76 H locs hp77 hP hD hS => ?_)
            obtain ⟨a171, a272, a373, a474, T175⟩ := u76
            replace hp77 : rsP (plQ TB nn n (va_up (va_up T (cx n 1) p42.2.2.2) (cx n 2) p63.2.2.2) p70) a171 a272 a373 a474 T175 := hp77
            have hP : va_P D vwCl (wTp cB g ((nn : Nat) : Int) TB (jj a171 a272 a373 a474) ++ (wTab cI q T175 b)) H := hP
            have hD : va_D A (wTp cB g ((nn : Nat) : Int) TB (jj a171 a272 a373 a474) ++ (wTab cI q T175 b)) := hD
            refine W.eq (g2 := F0 m 96 ls [.int (iI (b2 (decide ((plQ TB nn n (va_up (va_up T (cx n 1) p42.2.2.2) (cx n 2) p63.2.2.2) p70).1 = true))))]) rfl ?_
            have e_3 : spB TB nn n T p = plQ TB nn n (va_up (va_up T (cx n 1) p42.2.2.2) (cx n 2) p63.2.2.2) p70 := by unfold spB; rw [bR_t e_1, bR_t e_2]; unfold plF; rw [if_pos c_87]
            refine x_ifb_eq (tgt := 103) hx hb dX3_isSpeaker_96 (by decide) (fun c_96 => ?_) (fun c_96 => ?_)
            · refine x_iconst hx hb dX3_isSpeaker_103 ?_
              exact kend (a171, a272, a373, a474, T175) hP hS (by rw [e_3]; exact an_i (b2_f (by exact c_96)).symm) (by rw [e_3]; exact hp77) (by decide) dX3_isSpeaker_104
            · refine x_iconst hx hb dX3_isSpeaker_99 ?_
              refine lv_goto (tgt := 104) hx hb dX3_isSpeaker_100 (by decide) ?_
              exact kend (a171, a272, a373, a474, T175) hP hS (by rw [e_3]; exact an_i (b2_t (by exact c_96)).symm) (by rw [e_3]; exact hp77) (by decide) dX3_isSpeaker_104
        · refine x_iconst hx hb dX3_isSpeaker_65 ?_
          exact kend (p63.1, ((p63.2.1 : Nat) : Int), ((p63.2.2.1 : Nat) : Int), a460, va_up T (cx n 1) p42.2.2.2) hP hS (an_i (b2_z (x := false) (y := (va_up T (cx n 1) p42.2.2.2, p63)) (by unfold spB; rw [bR_t e_1]; exact bR_f ((pk_c c_49).trans (by rw [pk_n (by rw [← hp63]; exact c_62), ← hp63])))).symm) (rs_t (x := false) (by unfold spB; rw [bR_t e_1]; exact bR_f ((pk_c c_49).trans (by rw [pk_n (by rw [← hp63]; exact c_62), ← hp63]))) ⟨rfl, rfl, rfl, hv_p63⟩) (by decide) dX3_isSpeaker_66
    · refine x_iconst hx hb dX3_isSpeaker_27 ?_
      exact kend (p42.1, ((p42.2.1 : Nat) : Int), ((p42.2.2.1 : Nat) : Int), a439, T) hP hS (an_i (b2_z (x := false) (y := (T, p42)) (by unfold spB; exact bR_f (by rw [← hp7]; exact (pk_c c_10).trans (by rw [pk_n (by rw [← hp42]; exact c_24), ← hp42])))).symm) (rs_t (x := false) (by unfold spB; exact bR_f (by rw [← hp7]; exact (pk_c c_10).trans (by rw [pk_n (by rw [← hp42]; exact c_24), ← hp42]))) ⟨rfl, rfl, rfl, hv_p42⟩) (by decide) dX3_isSpeaker_28
