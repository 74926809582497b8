theorem kd_b (TB : Nat → Int) (p : Tk) : -1 ≤ kdF TB p ∧ kdF TB p ≤ 6 := by
  unfold kdF
  (repeat' split) <;> omega
theorem ykSX3_isItem : yX3_isItem.cls ≠ "java/lang/invoke/MethodHandle" ∧ yX3_isItem.cls ≠ "java/lang/invoke/VarHandle" ∧ (parseMethodDescriptor yX3_isItem.desc).map (fun d => d.parameters.length) = some 1 := by decide +kernel
theorem ykVX3_isItem : yX3_isItem.cls = RX3 ∧ yX3_isItem.cls ≠ "java/lang/invoke/MethodHandle" ∧ yX3_isItem.cls ≠ "java/lang/invoke/VarHandle" ∧ (parseMethodDescriptor yX3_isItem.desc).map (fun d => d.parameters.length) = some 1 := ⟨rfl, ykSX3_isItem⟩
set_option maxHeartbeats 4000000 in
set_option maxRecDepth 100000 in
theorem kX3_isItem {l : Launch} {D : va_G} {cI cB : ClassId} {kS vS : Nat → Nat} (g : Nat → Nat) (tn : Int) (TB : Nat → Int) (ct : Int) (cf : Int) (ce : Int) (cv : Int) (q : Nat → Nat) (T : Tb) (b : Int) (nn : Nat) (p : Tk) (hn : tn = ((nn : Nat) : Int)) (hn9 : nn ≤ 120) (hTB : ∀ i : Nat, i < 120 → 0 ≤ TB i ∧ TB i ≤ 255) (hp : tyS ct cf ce cv p) (hi : tkI nn p) (hT8 : 0 ≤ T 0 ∧ T 0 ≤ 8) : CtS l yX3_isItem wsX3_isItem 6 129 D [(cI, .int), (cB, .byte)] kS vS [.ref (g 0), .ref (q 0)] (wTp cB g tn TB (jj ct cf ce cv) ++ (wTab cI q T b)) (S := Int × Int × Int × Int × Tb) (fun u => some (.int (iI (b2 (decide ((itF TB nn T p).1 = true)))))) (fun u => rsP (itF TB nn T p) u.1 u.2.1 u.2.2.1 u.2.2.2.1 u.2.2.2.2) (fun u => wTp cB g tn TB (jj u.1 u.2.1 u.2.2.1 u.2.2.2.1) ++ (wTab cI q u.2.2.2.2 b)) := by
  refine CtSZ.of (cc := cX3_isItem) (maxL := 3) (by decide +kernel) rfl (Nat.le_of_ble_eq_true rfl) ?_
  intro pg e s m args below meth c Q A hx hb hml hts hown hP hK hD hS hX ls hl kend
  have hown : s.vm.findClass RX3 = some m.cls := hown
  have hl : lv_has ls 3 [(0, .ref (g 0)), (1, .ref (q 0))] := hl
  subst hn
  obtain ⟨rfl, rfl, rfl, hv_p⟩ := hp
  refine lv_aload_n hx hb dX3_isItem_0 rfl (lv_at hl 0 rfl) ?_
  refine va_ldcS hx hb hown (hX.2.1.1) dX3_isItem_1 ?_
  refine x_callVS (As := [.ref (kS 0)]) (rest := []) ⟨hx, hb, hml, hown, hts⟩ (kX3_isWord g ((nn : Nat) : Int) TB p.1 ((p.2.1 : Nat) : Int) ((p.2.2.1 : Nat) : Int) cv nn p 0 rfl hn9 hTB ⟨rfl, rfl, rfl, hv_p⟩ hi (by decide)) (cwV 1 hts gX3_isItem_X3_isWord rfl rfl rfl ykVX3_isWord ⟨Nat.le_of_ble_eq_true rfl, Nat.le_of_ble_eq_true rfl⟩) hP hK hD hS hX 0 2 rfl rfl rfl [0, 1] rfl (by decide) (fun _ => rfl) (fun _ => wTp cB g ((nn : Nat) : Int) TB (jj p.1 ((p.2.1 : Nat) : Int) ((p.2.2.1 : Nat) : Int) cv) ++ (wTab cI q T b)) (fun _ => rfl) rfl hl.1 rfl (Nat.le_of_ble_eq_true rfl) dX3_isItem_3 ⟨Nat.le_of_ble_eq_true rfl, Nat.le_of_ble_eq_true rfl⟩ (fun _ H locs _ hP hD hS => ?_)
  refine W.eq (g2 := F0 m 6 ls [.int (iI (b2 (decide (wdB TB p (wdA 0) = true))))]) rfl ?_
  refine x_ifb_eq (tgt := 15) hx hb dX3_isItem_6 (by decide) (fun c_6 => ?_) (fun c_6 => ?_)
  · refine lv_aload_n hx hb dX3_isItem_15 rfl (lv_at hl 0 rfl) ?_
    refine va_ldcS hx hb hown (hX.2.1.2.1) dX3_isItem_16 ?_
    refine x_callVS (As := [.ref (kS 1)]) (rest := []) ⟨hx, hb, hml, hown, hts⟩ (kX3_isWord g ((nn : Nat) : Int) TB p.1 ((p.2.1 : Nat) : Int) ((p.2.2.1 : Nat) : Int) cv nn p 1 rfl hn9 hTB ⟨rfl, rfl, rfl, hv_p⟩ hi (by decide)) (cwV 1 hts gX3_isItem_X3_isWord rfl rfl rfl ykVX3_isWord ⟨Nat.le_of_ble_eq_true rfl, Nat.le_of_ble_eq_true rfl⟩) hP hK hD hS hX 0 2 rfl rfl rfl [0, 1] rfl (by decide) (fun _ => rfl) (fun _ => wTp cB g ((nn : Nat) : Int) TB (jj p.1 ((p.2.1 : Nat) : Int) ((p.2.2.1 : Nat) : Int) cv) ++ (wTab cI q T b)) (fun _ => rfl) rfl hl.1 rfl (Nat.le_of_ble_eq_true rfl) dX3_isItem_18 ⟨Nat.le_of_ble_eq_true rfl, Nat.le_of_ble_eq_true rfl⟩ (fun _ H locs _ hP hD hS => ?_)
    refine W.eq (g2 := F0 m 21 ls [.int (iI (b2 (decide (wdB TB p (wdA 1) = true))))]) rfl ?_
    refine x_ifb_eq (tgt := 30) hx hb dX3_isItem_21 (by decide) (fun c_21 => ?_) (fun c_21 => ?_)
    · refine lv_aload_n hx hb dX3_isItem_30 rfl (lv_at hl 0 rfl) ?_
      have hkb : -1 ≤ kdF TB p ∧ kdF TB p ≤ 6 := kd_b _ _
      refine x_callVS (As := []) (rest := []) ⟨hx, hb, hml, hown, hts⟩ (kX3_kindTold g ((nn : Nat) : Int) TB p.1 ((p.2.1 : Nat) : Int) ((p.2.2.1 : Nat) : Int) cv nn p rfl hn9 hTB ⟨rfl, rfl, rfl, hv_p⟩ hi) (cwV 0 hts gX3_isItem_X3_kindTold rfl rfl rfl ykVX3_kindTold ⟨Nat.le_of_ble_eq_true rfl, Nat.le_of_ble_eq_true rfl⟩) hP hK hD hS hX 0 2 rfl rfl rfl [0, 1] rfl (by decide) (fun _ => rfl) (fun _ => wTp cB g ((nn : Nat) : Int) TB (jj p.1 ((p.2.1 : Nat) : Int) ((p.2.2.1 : Nat) : Int) cv) ++ (wTab cI q T b)) (fun _ => rfl) rfl hl.1 rfl (Nat.le_of_ble_eq_true rfl) dX3_isItem_31 ⟨Nat.le_of_ble_eq_true rfl, Nat.le_of_ble_eq_true rfl⟩ (fun _ H locs _ hP hD hS => ?_)
      refine W.eq (g2 := F0 m 34 ls [.int (iI (kdF TB p))]) rfl ?_
      refine lv_istore_n (lv' := [(2, .int (iI (kdF TB p))), (0, .ref (g 0)), (1, .ref (q 0))]) hx hb dX3_isItem_34 rfl hl (by decide) rfl (fun ls hl => ?_)
      refine lv_iload_n hx hb dX3_isItem_35 rfl (lv_at hl 0 rfl) ?_
      refine x_if_lt (tgt := 46) hx hb (by omega) dX3_isItem_36 (by decide) (fun c_36 => ?_) (fun c_36 => ?_)
      · refine x_iconst hx hb dX3_isItem_46 ?_
        exact kend (p.1, ((p.2.1 : Nat) : Int), ((p.2.2.1 : Nat) : Int), cv, T) hP hS (an_i (b2_z (x := false) (y := (T, p)) (by unfold itF; rw [if_neg c_6, if_neg c_21, if_pos (by omega)])).symm) (rs_t (x := false) (by unfold itF; rw [if_neg c_6, if_neg c_21, if_pos (by omega)]) ⟨rfl, rfl, rfl, hv_p⟩) (by decide) dX3_isItem_47
      · refine lv_aload_n hx hb dX3_isItem_39 rfl (lv_at hl 2 rfl) ?_
        refine x_callV (As := []) (rest := []) ⟨hx, hb, hml, hown, hts⟩ (kX2_isFull q T b hT8) (cwV 0 hts gX3_isItem_X2_isFull rfl rfl rfl ykVX2_isFull ⟨Nat.le_of_ble_eq_true rfl, Nat.le_of_ble_eq_true rfl⟩) hP hK hD hS 2 1 rfl rfl rfl [2, 3, 4, 5, 6, 7, 8, 9] rfl (by decide) (fun _ => rfl) (fun _ => wTp cB g ((nn : Nat) : Int) TB (jj p.1 ((p.2.1 : Nat) : Int) ((p.2.2.1 : Nat) : Int) cv) ++ (wTab cI q T b)) (fun _ => rfl) rfl hl.1 rfl (Nat.le_of_ble_eq_true rfl) dX3_isItem_40 ⟨Nat.le_of_ble_eq_true rfl, Nat.le_of_ble_eq_true rfl⟩ (fun _ H locs _ hP hD hS => ?_)
        refine W.eq (g2 := F0 m 43 ls [.int (iI (b2 (decide (8 ≤ T 0))))]) rfl ?_
        refine x_ifb_eq (tgt := 48) hx hb dX3_isItem_43 (by decide) (fun c_43 => ?_) (fun c_43 => ?_)
        · refine lv_aload_n hx hb dX3_isItem_48 rfl (lv_at hl 1 rfl) ?_
          refine lv_aload_n hx hb dX3_isItem_49 rfl (lv_at hl 2 rfl) ?_
          refine lv_aload_n hx hb dX3_isItem_50 rfl (lv_at hl 2 rfl) ?_
          refine lv_iload_n hx hb dX3_isItem_51 rfl (lv_at hl 0 rfl) ?_
          refine x_callV (As := [.int (iI (kdF TB p))]) (rest := [.ref (q 0), .ref (g 0)]) ⟨hx, hb, hml, hown, hts⟩ (kX2_seat q T b (kdF TB p) (T 0).toNat (by omega) (by omega) (by omega)) (cwV 1 hts gX3_isItem_X2_seat rfl rfl rfl ykVX2_seat ⟨Nat.le_of_ble_eq_true rfl, Nat.le_of_ble_eq_true rfl⟩) hP hK hD hS 2 1 rfl rfl rfl [2, 3, 4, 5, 6, 7, 8, 9] rfl (by decide) (fun _ => rfl) (fun u => wTp cB g ((nn : Nat) : Int) TB (jj p.1 ((p.2.1 : Nat) : Int) ((p.2.2.1 : Nat) : Int) cv) ++ (wTab cI q u b)) (fun _ => rfl) rfl hl.1 rfl (Nat.le_of_ble_eq_true rfl) dX3_isItem_52 ⟨Nat.le_of_ble_eq_true rfl, Nat.le_of_ble_eq_true rfl⟩ (fun u2 H locs hp3 hP hD hS => ?_)
          obtain ⟨T11, rfl⟩ : ∃ z, z = u2 := ⟨_, rfl⟩
          replace hp3 : T11 = stF (kdF TB p) (T 0).toNat T := hp3
          have hP : va_P D vwCl (wTp cB g ((nn : Nat) : Int) TB (jj p.1 ((p.2.1 : Nat) : Int) ((p.2.2.1 : Nat) : Int) cv) ++ (wTab cI q T11 b)) H := hP
          have hD : va_D A (wTp cB g ((nn : Nat) : Int) TB (jj p.1 ((p.2.1 : Nat) : Int) ((p.2.2.1 : Nat) : Int) cv) ++ (wTab cI q T11 b)) := hD
          refine W.eq (g2 := F0 m 55 ls [.int (iI (((T 0).toNat : Nat) : Int)), .ref (q 0), .ref (g 0)]) rfl ?_
          rw [hp3] at hP hD
          refine x_callVS (As := [.ref (q 0), .int (iI (((T 0).toNat : Nat) : Int))]) (rest := []) ⟨hx, hb, hml, hown, hts⟩ (kX3_isSpeaker g ((nn : Nat) : Int) TB p.1 ((p.2.1 : Nat) : Int) ((p.2.2.1 : Nat) : Int) cv q (stF (kdF TB p) (T 0).toNat T) b ((T 0).toNat) nn p rfl hn9 hTB ⟨rfl, rfl, rfl, hv_p⟩ hi (by omega)) (cwV 2 hts gX3_isItem_X3_isSpeaker rfl rfl rfl ykVX3_isSpeaker ⟨Nat.le_of_ble_eq_true rfl, Nat.le_of_ble_eq_true rfl⟩) hP hK hD hS hX 0 2 rfl rfl rfl [0, 1, 2, 3, 4, 5, 6, 7, 8, 9] rfl (by decide) (fun _ => rfl) (fun u => wTp cB g ((nn : Nat) : Int) TB (jj u.1 u.2.1 u.2.2.1 u.2.2.2.1) ++ (wTab cI q u.2.2.2.2 b)) (fun _ => rfl) rfl hl.1 rfl (Nat.le_of_ble_eq_true rfl) dX3_isItem_55 ⟨Nat.le_of_ble_eq_true rfl, Nat.le_of_ble_eq_true rfl⟩ (fun u9 H locs hp10 hP hD hS => ?_)
          obtain ⟨a14, a25, a36, a47, T18⟩ := u9
          replace hp10 : rsP (spB TB nn ((T 0).toNat) (stF (kdF TB p) (T 0).toNat T) p) a14 a25 a36 a47 T18 := hp10
          have hP : va_P D vwCl (wTp cB g ((nn : Nat) : Int) TB (jj a14 a25 a36 a47) ++ (wTab cI q T18 b)) H := hP
          have hD : va_D A (wTp cB g ((nn : Nat) : Int) TB (jj a14 a25 a36 a47) ++ (wTab cI q T18 b)) := hD
          refine W.eq (g2 := F0 m 58 ls [.int (iI (b2 (decide ((spB TB nn ((T 0).toNat) (stF (kdF TB p) (T 0).toNat T) p).1 = true))))]) rfl ?_
          have e_i : itF TB nn T p = spB TB nn (T 0).toNat (stF (kdF TB p) (T 0).toNat T) p := by unfold itF; rw [if_neg c_6, if_neg c_21, if_neg (by omega)]
          exact kend (a14, a25, a36, a47, T18) hP hS (by rw [e_i]) (by rw [e_i]; exact hp10) (b2_01 _) dX3_isItem_58
        · refine x_iconst hx hb dX3_isItem_46 ?_
          exact kend (p.1, ((p.2.1 : Nat) : Int), ((p.2.2.1 : Nat) : Int), cv, T) hP hS (an_i (b2_z (x := false) (y := (T, p)) (by unfold itF; rw [if_neg c_6, if_neg c_21, if_pos (by omega)])).symm) (rs_t (x := false) (by unfold itF; rw [if_neg c_6, if_neg c_21, if_pos (by omega)]) ⟨rfl, rfl, rfl, hv_p⟩) (by decide) dX3_isItem_47
    · refine lv_aload_n hx hb dX3_isItem_24 rfl (lv_at hl 0 rfl) ?_
      refine lv_aload_n hx hb dX3_isItem_25 rfl (lv_at hl 1 rfl) ?_
      refine x_callV (As := [.ref (q 0)]) (rest := []) ⟨hx, hb, hml, hown, hts⟩ (kX3_isVinegar g ((nn : Nat) : Int) TB p.1 ((p.2.1 : Nat) : Int) ((p.2.2.1 : Nat) : Int) cv q T b nn p rfl hn9 hTB ⟨rfl, rfl, rfl, hv_p⟩ hi) (cwV 1 hts gX3_isItem_X3_isVinegar rfl rfl rfl ykVX3_isVinegar ⟨Nat.le_of_ble_eq_true rfl, Nat.le_of_ble_eq_true rfl⟩) hP hK hD hS 0 2 rfl rfl rfl [0, 1, 2, 3, 4, 5, 6, 7, 8, 9] rfl (by decide) (fun _ => rfl) (fun u => wTp cB g ((nn : Nat) : Int) TB (jj u.1 u.2.1 u.2.2.1 u.2.2.2.1) ++ (wTab cI q u.2.2.2.2 b)) (fun _ => rfl) rfl hl.1 rfl (Nat.le_of_ble_eq_true rfl) dX3_isItem_26 ⟨Nat.le_of_ble_eq_true rfl, Nat.le_of_ble_eq_true rfl⟩ (fun u16 H locs hp17 hP hD hS => ?_)
      obtain ⟨a111, a212, a313, a414, T115⟩ := u16
      replace hp17 : rsP (pkF TB nn true 3 9 T p) a111 a212 a313 a414 T115 := hp17
      have hP : va_P D vwCl (wTp cB g ((nn : Nat) : Int) TB (jj a111 a212 a313 a414) ++ (wTab cI q T115 b)) H := hP
      have hD : va_D A (wTp cB g ((nn : Nat) : Int) TB (jj a111 a212 a313 a414) ++ (wTab cI q T115 b)) := hD
      refine W.eq (g2 := F0 m 29 ls [.int (iI (b2 (decide ((pkF TB nn true 3 9 T p).1 = true))))]) rfl ?_
      have e_i : itF TB nn T p = pkF TB nn true 3 9 T p := by unfold itF; rw [if_neg c_6, if_pos c_21]
      exact kend (a111, a212, a313, a414, T115) hP hS (by rw [e_i]) (by rw [e_i]; exact hp17) (b2_01 _) dX3_isItem_29
  · refine lv_aload_n hx hb dX3_isItem_9 rfl (lv_at hl 0 rfl) ?_
    refine lv_aload_n hx hb dX3_isItem_10 rfl (lv_at hl 1 rfl) ?_
    refine x_callV (As := [.ref (q 0)]) (rest := []) ⟨hx, hb, hml, hown, hts⟩ (kX3_isList g ((nn : Nat) : Int) TB p.1 ((p.2.1 : Nat) : Int) ((p.2.2.1 : Nat) : Int) cv q T b nn p rfl hn9 hTB ⟨rfl, rfl, rfl, hv_p⟩ hi) (cwV 1 hts gX3_isItem_X3_isList rfl rfl rfl ykVX3_isList ⟨Nat.le_of_ble_eq_true rfl, Nat.le_of_ble_eq_true rfl⟩) hP hK hD hS 0 2 rfl rfl rfl [0, 1, 2, 3, 4, 5, 6, 7, 8, 9] rfl (by decide) (fun _ => rfl) (fun u => wTp cB g ((nn : Nat) : Int) TB (jj u.1 u.2.1 u.2.2.1 u.2.2.2.1) ++ (wTab cI q u.2.2.2.2 b)) (fun _ => rfl) rfl hl.1 rfl (Nat.le_of_ble_eq_true rfl) dX3_isItem_11 ⟨Nat.le_of_ble_eq_true rfl, Nat.le_of_ble_eq_true rfl⟩ (fun u23 H locs hp24 hP hD hS => ?_)
    obtain ⟨a118, a219, a320, a421, T122⟩ := u23
    replace hp24 : rsP (liF TB nn T p) a118 a219 a320 a421 T122 := hp24
    have hP : va_P D vwCl (wTp cB g ((nn : Nat) : Int) TB (jj a118 a219 a320 a421) ++ (wTab cI q T122 b)) H := hP
    have hD : va_D A (wTp cB g ((nn : Nat) : Int) TB (jj a118 a219 a320 a421) ++ (wTab cI q T122 b)) := hD
    refine W.eq (g2 := F0 m 14 ls [.int (iI (b2 (decide ((liF TB nn T p).1 = true))))]) rfl ?_
    have e_i : itF TB nn T p = liF TB nn T p := by unfold itF; rw [if_pos c_6]
    exact kend (a118, a219, a320, a421, T122) hP hS (by rw [e_i]) (by rw [e_i]; exact hp24) (b2_01 _) dX3_isItem_14
