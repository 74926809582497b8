theorem ykSX3_kindTold : yX3_kindTold.cls ≠ "java/lang/invoke/MethodHandle" ∧ yX3_kindTold.cls ≠ "java/lang/invoke/VarHandle" ∧ (parseMethodDescriptor yX3_kindTold.desc).map (fun d => d.parameters.length) = some 0 := by decide +kernel
theorem ykVX3_kindTold : yX3_kindTold.cls = RX3 ∧ yX3_kindTold.cls ≠ "java/lang/invoke/MethodHandle" ∧ yX3_kindTold.cls ≠ "java/lang/invoke/VarHandle" ∧ (parseMethodDescriptor yX3_kindTold.desc).map (fun d => d.parameters.length) = some 0 := ⟨rfl, ykSX3_kindTold⟩
set_option maxHeartbeats 4000000 in
set_option maxRecDepth 100000 in
theorem kX3_kindTold {l : Launch} {D : va_G} {cI cB : ClassId} {kS vS : Nat → Nat} (g : Nat → Nat) (tn : Int) (TB : Nat → Int) (ct : Int) (cf : Int) (ce : Int) (cv : Int) (nn : Nat) (p : Tk) (hn : tn = ((nn : Nat) : Int)) (hn9 : nn ≤ 120) (hTB : ∀ i : Nat, i < 120 → 0 ≤ TB i ∧ TB i ≤ 255) (hp : tyS ct cf ce cv p) (hi : tkI nn p) : CtS l yX3_kindTold wsX3_kindTold 5 107 D [(cI, .int), (cB, .byte)] kS vS [.ref (g 0)] (wTp cB g tn TB (jj ct cf ce cv)) (S := Unit) (fun _ => some (.int (iI (kdF TB p)))) (fun _ => True) (fun _ => wTp cB g tn TB (jj ct cf ce cv)) := by
  refine CtSI.of (cc := cX3_kindTold) (maxL := 1) (by decide +kernel) rfl (Nat.le_of_ble_eq_true rfl) ?_
  intro pg e s m args below meth c Q A hx hb hml hts hown hP hK hD hS hX ls hl kend
  have hown : s.vm.findClass RX3 = some m.cls := hown
  have hl : lv_has ls 1 [(0, .ref (g 0))] := hl
  subst hn
  obtain ⟨rfl, rfl, rfl, hv_p⟩ := hp
  refine lv_aload_n hx hb dX3_kindTold_0 rfl (lv_at hl 0 rfl) ?_
  refine va_ldcS hx hb hown (hX.2.1.2.2.1) dX3_kindTold_1 ?_
  refine x_callVS (As := [.ref (kS 2)]) (rest := []) ⟨hx, hb, hml, hown, hts⟩ (kX3_isWord g ((nn : Nat) : Int) TB p.1 ((p.2.1 : Nat) : Int) ((p.2.2.1 : Nat) : Int) cv nn p 2 rfl hn9 hTB ⟨rfl, rfl, rfl, hv_p⟩ hi (by decide)) (cwV 1 hts gX3_kindTold_X3_isWord rfl rfl rfl ykVX3_isWord ⟨Nat.le_of_ble_eq_true rfl, Nat.le_of_ble_eq_true rfl⟩) hP hK hD hS hX 0 2 rfl rfl rfl [0, 1] rfl (by decide) (fun _ => rfl) (fun _ => wTp cB g ((nn : Nat) : Int) TB (jj p.1 ((p.2.1 : Nat) : Int) ((p.2.2.1 : Nat) : Int) cv)) (fun _ => rfl) rfl hl.1 rfl (Nat.le_of_ble_eq_true rfl) dX3_kindTold_3 ⟨Nat.le_of_ble_eq_true rfl, Nat.le_of_ble_eq_true rfl⟩ (fun _ H locs _ hP hD hS => ?_)
  refine W.eq (g2 := F0 m 6 ls [.int (iI (b2 (decide (wdB TB p (wdA 2) = true))))]) rfl ?_
  refine x_ifb_eq (tgt := 11) hx hb dX3_kindTold_6 (by decide) (fun c_6 => ?_) (fun c_6 => ?_)
  · refine lv_aload_n hx hb dX3_kindTold_11 rfl (lv_at hl 0 rfl) ?_
    refine va_ldcS hx hb hown (hX.2.1.2.2.2.1) dX3_kindTold_12 ?_
    refine x_callVS (As := [.ref (kS 3)]) (rest := []) ⟨hx, hb, hml, hown, hts⟩ (kX3_isWord g ((nn : Nat) : Int) TB p.1 ((p.2.1 : Nat) : Int) ((p.2.2.1 : Nat) : Int) cv nn p 3 rfl hn9 hTB ⟨rfl, rfl, rfl, hv_p⟩ hi (by decide)) (cwV 1 hts gX3_kindTold_X3_isWord rfl rfl rfl ykVX3_isWord ⟨Nat.le_of_ble_eq_true rfl, Nat.le_of_ble_eq_true rfl⟩) hP hK hD hS hX 0 2 rfl rfl rfl [0, 1] rfl (by decide) (fun _ => rfl) (fun _ => wTp cB g ((nn : Nat) : Int) TB (jj p.1 ((p.2.1 : Nat) : Int) ((p.2.2.1 : Nat) : Int) cv)) (fun _ => rfl) rfl hl.1 rfl (Nat.le_of_ble_eq_true rfl) dX3_kindTold_14 ⟨Nat.le_of_ble_eq_true rfl, Nat.le_of_ble_eq_true rfl⟩ (fun _ H locs _ hP hD hS => ?_)
    refine W.eq (g2 := F0 m 17 ls [.int (iI (b2 (decide (wdB TB p (wdA 3) = true))))]) rfl ?_
    refine x_ifb_eq (tgt := 22) hx hb dX3_kindTold_17 (by decide) (fun c_17 => ?_) (fun c_17 => ?_)
    · refine lv_aload_n hx hb dX3_kindTold_22 rfl (lv_at hl 0 rfl) ?_
      refine va_ldcS hx hb hown (hX.2.1.2.2.2.2.1) dX3_kindTold_23 ?_
      refine x_callVS (As := [.ref (kS 4)]) (rest := []) ⟨hx, hb, hml, hown, hts⟩ (kX3_isWord g ((nn : Nat) : Int) TB p.1 ((p.2.1 : Nat) : Int) ((p.2.2.1 : Nat) : Int) cv nn p 4 rfl hn9 hTB ⟨rfl, rfl, rfl, hv_p⟩ hi (by decide)) (cwV 1 hts gX3_kindTold_X3_isWord rfl rfl rfl ykVX3_isWord ⟨Nat.le_of_ble_eq_true rfl, Nat.le_of_ble_eq_true rfl⟩) hP hK hD hS hX 0 2 rfl rfl rfl [0, 1] rfl (by decide) (fun _ => rfl) (fun _ => wTp cB g ((nn : Nat) : Int) TB (jj p.1 ((p.2.1 : Nat) : Int) ((p.2.2.1 : Nat) : Int) cv)) (fun _ => rfl) rfl hl.1 rfl (Nat.le_of_ble_eq_true rfl) dX3_kindTold_25 ⟨Nat.le_of_ble_eq_true rfl, Nat.le_of_ble_eq_true rfl⟩ (fun _ H locs _ hP hD hS => ?_)
      refine W.eq (g2 := F0 m 28 ls [.int (iI (b2 (decide (wdB TB p (wdA 4) = true))))]) rfl ?_
      refine x_ifb_eq (tgt := 33) hx hb dX3_kindTold_28 (by decide) (fun c_28 => ?_) (fun c_28 => ?_)
      · refine lv_aload_n hx hb dX3_kindTold_33 rfl (lv_at hl 0 rfl) ?_
        refine va_ldcS hx hb hown (hX.2.1.2.2.2.2.2.1) dX3_kindTold_34 ?_
        refine x_callVS (As := [.ref (kS 5)]) (rest := []) ⟨hx, hb, hml, hown, hts⟩ (kX3_isWord g ((nn : Nat) : Int) TB p.1 ((p.2.1 : Nat) : Int) ((p.2.2.1 : Nat) : Int) cv nn p 5 rfl hn9 hTB ⟨rfl, rfl, rfl, hv_p⟩ hi (by decide)) (cwV 1 hts gX3_kindTold_X3_isWord rfl rfl rfl ykVX3_isWord ⟨Nat.le_of_ble_eq_true rfl, Nat.le_of_ble_eq_true rfl⟩) hP hK hD hS hX 0 2 rfl rfl rfl [0, 1] rfl (by decide) (fun _ => rfl) (fun _ => wTp cB g ((nn : Nat) : Int) TB (jj p.1 ((p.2.1 : Nat) : Int) ((p.2.2.1 : Nat) : Int) cv)) (fun _ => rfl) rfl hl.1 rfl (Nat.le_of_ble_eq_true rfl) dX3_kindTold_36 ⟨Nat.le_of_ble_eq_true rfl, Nat.le_of_ble_eq_true rfl⟩ (fun _ H locs _ hP hD hS => ?_)
        refine W.eq (g2 := F0 m 39 ls [.int (iI (b2 (decide (wdB TB p (wdA 5) = true))))]) rfl ?_
        refine x_ifb_eq (tgt := 44) hx hb dX3_kindTold_39 (by decide) (fun c_39 => ?_) (fun c_39 => ?_)
        · refine lv_aload_n hx hb dX3_kindTold_44 rfl (lv_at hl 0 rfl) ?_
          refine va_ldcS hx hb hown (hX.2.1.2.2.2.2.2.2.1) dX3_kindTold_45 ?_
          refine x_callVS (As := [.ref (kS 6)]) (rest := []) ⟨hx, hb, hml, hown, hts⟩ (kX3_isWord g ((nn : Nat) : Int) TB p.1 ((p.2.1 : Nat) : Int) ((p.2.2.1 : Nat) : Int) cv nn p 6 rfl hn9 hTB ⟨rfl, rfl, rfl, hv_p⟩ hi (by decide)) (cwV 1 hts gX3_kindTold_X3_isWord rfl rfl rfl ykVX3_isWord ⟨Nat.le_of_ble_eq_true rfl, Nat.le_of_ble_eq_true rfl⟩) hP hK hD hS hX 0 2 rfl rfl rfl [0, 1] rfl (by decide) (fun _ => rfl) (fun _ => wTp cB g ((nn : Nat) : Int) TB (jj p.1 ((p.2.1 : Nat) : Int) ((p.2.2.1 : Nat) : Int) cv)) (fun _ => rfl) rfl hl.1 rfl (Nat.le_of_ble_eq_true rfl) dX3_kindTold_47 ⟨Nat.le_of_ble_eq_true rfl, Nat.le_of_ble_eq_true rfl⟩ (fun _ H locs _ hP hD hS => ?_)
          refine W.eq (g2 := F0 m 50 ls [.int (iI (b2 (decide (wdB TB p (wdA 6) = true))))]) rfl ?_
          refine x_ifb_eq (tgt := 55) hx hb dX3_kindTold_50 (by decide) (fun c_50 => ?_) (fun c_50 => ?_)
          · refine lv_aload_n hx hb dX3_kindTold_55 rfl (lv_at hl 0 rfl) ?_
            refine va_ldcS hx hb hown (hX.2.1.2.2.2.2.2.2.2.1) dX3_kindTold_56 ?_
            refine x_callVS (As := [.ref (kS 7)]) (rest := []) ⟨hx, hb, hml, hown, hts⟩ (kX3_isWord g ((nn : Nat) : Int) TB p.1 ((p.2.1 : Nat) : Int) ((p.2.2.1 : Nat) : Int) cv nn p 7 rfl hn9 hTB ⟨rfl, rfl, rfl, hv_p⟩ hi (by decide)) (cwV 1 hts gX3_kindTold_X3_isWord rfl rfl rfl ykVX3_isWord ⟨Nat.le_of_ble_eq_true rfl, Nat.le_of_ble_eq_true rfl⟩) hP hK hD hS hX 0 2 rfl rfl rfl [0, 1] rfl (by decide) (fun _ => rfl) (fun _ => wTp cB g ((nn : Nat) : Int) TB (jj p.1 ((p.2.1 : Nat) : Int) ((p.2.2.1 : Nat) : Int) cv)) (fun _ => rfl) rfl hl.1 rfl (Nat.le_of_ble_eq_true rfl) dX3_kindTold_58 ⟨Nat.le_of_ble_eq_true rfl, Nat.le_of_ble_eq_true rfl⟩ (fun _ H locs _ hP hD hS => ?_)
            refine W.eq (g2 := F0 m 61 ls [.int (iI (b2 (decide (wdB TB p (wdA 7) = true))))]) rfl ?_
            refine x_ifb_eq (tgt := 66) hx hb dX3_kindTold_61 (by decide) (fun c_61 => ?_) (fun c_61 => ?_)
            · refine lv_aload_n hx hb dX3_kindTold_66 rfl (lv_at hl 0 rfl) ?_
              refine va_ldcS hx hb hown (hX.2.1.2.2.2.2.2.2.2.2.1) dX3_kindTold_67 ?_
              refine x_callVS (As := [.ref (kS 8)]) (rest := []) ⟨hx, hb, hml, hown, hts⟩ (kX3_isWord g ((nn : Nat) : Int) TB p.1 ((p.2.1 : Nat) : Int) ((p.2.2.1 : Nat) : Int) cv nn p 8 rfl hn9 hTB ⟨rfl, rfl, rfl, hv_p⟩ hi (by decide)) (cwV 1 hts gX3_kindTold_X3_isWord rfl rfl rfl ykVX3_isWord ⟨Nat.le_of_ble_eq_true rfl, Nat.le_of_ble_eq_true rfl⟩) hP hK hD hS hX 0 2 rfl rfl rfl [0, 1] rfl (by decide) (fun _ => rfl) (fun _ => wTp cB g ((nn : Nat) : Int) TB (jj p.1 ((p.2.1 : Nat) : Int) ((p.2.2.1 : Nat) : Int) cv)) (fun _ => rfl) rfl hl.1 rfl (Nat.le_of_ble_eq_true rfl) dX3_kindTold_69 ⟨Nat.le_of_ble_eq_true rfl, Nat.le_of_ble_eq_true rfl⟩ (fun _ H locs _ hP hD hS => ?_)
              refine W.eq (g2 := F0 m 72 ls [.int (iI (b2 (decide (wdB TB p (wdA 8) = true))))]) rfl ?_
              refine x_ifb_eq (tgt := 80) hx hb dX3_kindTold_72 (by decide) (fun c_72 => ?_) (fun c_72 => ?_)
              · refine x_iconst hx hb dX3_kindTold_80 ?_
                exact kend () hP hS (an_i (by unfold kdF; rw [if_neg c_6, if_neg c_17, if_neg c_28, if_neg c_39, if_neg c_50, if_neg c_61, if_neg c_72])) trivial dX3_kindTold_81
              · refine x_bipush hx hb dX3_kindTold_75 (by decide) ?_
                refine lv_goto (tgt := 81) hx hb dX3_kindTold_77 (by decide) ?_
                exact kend () hP hS (an_i (by unfold kdF; rw [if_neg c_6, if_neg c_17, if_neg c_28, if_neg c_39, if_neg c_50, if_neg c_61, if_pos c_72])) trivial dX3_kindTold_81
            · refine x_iconst hx hb dX3_kindTold_64 ?_
              exact kend () hP hS (an_i (by unfold kdF; rw [if_neg c_6, if_neg c_17, if_neg c_28, if_neg c_39, if_neg c_50, if_pos c_61])) trivial dX3_kindTold_65
          · refine x_iconst hx hb dX3_kindTold_53 ?_
            exact kend () hP hS (an_i (by unfold kdF; rw [if_neg c_6, if_neg c_17, if_neg c_28, if_neg c_39, if_pos c_50])) trivial dX3_kindTold_54
        · refine x_iconst hx hb dX3_kindTold_42 ?_
          exact kend () hP hS (an_i (by unfold kdF; rw [if_neg c_6, if_neg c_17, if_neg c_28, if_pos c_39])) trivial dX3_kindTold_43
      · refine x_iconst hx hb dX3_kindTold_31 ?_
        exact kend () hP hS (an_i (by unfold kdF; rw [if_neg c_6, if_neg c_17, if_pos c_28])) trivial dX3_kindTold_32
    · refine x_iconst hx hb dX3_kindTold_20 ?_
      exact kend () hP hS (an_i (by unfold kdF; rw [if_neg c_6, if_pos c_17])) trivial dX3_kindTold_21
  · refine x_iconst hx hb dX3_kindTold_9 ?_
    exact kend () hP hS (an_i (by unfold kdF; rw [if_pos c_6])) trivial dX3_kindTold_10
def rsP (r : Rs) (a b c d : Int) (T : Tb) : Prop := T = r.2.1 ∧ tyS a b c d r.2.2
theorem pk_y {TB : Nat → Int} {nn i : Nat} {m : Int} {T : Tb} {p : Tk} (h : nbB (nx TB nn p) m = true) : pkF TB nn true i m T p = (true, va_up T i (nx TB nn p).2.2.2, nx TB nn (nx TB nn p)) := by
  unfold pkF
  rw [if_pos rfl, if_pos h]
theorem pk_n {TB : Nat → Int} {nn i : Nat} {m : Int} {T : Tb} {p : Tk} (h : ¬ nbB (nx TB nn p) m = true) : pkF TB nn true i m T p = (false, T, nx TB nn p) := by
  unfold pkF
  rw [if_pos rfl, if_neg h]
theorem pk_o {TB : Nat → Int} {nn i : Nat} {m : Int} {T : Tb} {p : Tk} {cnd : Bool} (h : ¬ cnd = true) : pkF TB nn cnd i m T p = (true, T, p) := by
  unfold pkF
  rw [if_neg h]
theorem pk_c {TB : Nat → Int} {nn i : Nat} {m : Int} {T : Tb} {p : Tk} {cnd : Bool} (h : cnd = true) : pkF TB nn cnd i m T p = pkF TB nn true i m T p := by rw [h]
theorem rs_t {r : Rs} {a b c d : Int} {T : Tb} {p : Tk} {x : Bool} (e : r = (x, T, p)) (h : tyS a b c d p) : rsP r a b c d T := by rw [e]; exact ⟨rfl, h⟩
theorem b2_z {r : Rs} {x : Bool} {y : Tb × Tk} (e : r = (x, y)) : b2 (decide (r.1 = true)) = b2 x := by rw [e]; cases x <;> rfl
theorem ykSX3_isList : yX3_isList.cls ≠ "java/lang/invoke/MethodHandle" ∧ yX3_isList.cls ≠ "java/lang/invoke/VarHandle" ∧ (parseMethodDescriptor yX3_isList.desc).map (fun d => d.parameters.length) = some 1 := by decide +kernel
theorem ykVX3_isList : yX3_isList.cls = RX3 ∧ yX3_isList.cls ≠ "java/lang/invoke/MethodHandle" ∧ yX3_isList.cls ≠ "java/lang/invoke/VarHandle" ∧ (parseMethodDescriptor yX3_isList.desc).map (fun d => d.parameters.length) = some 1 := ⟨rfl, ykSX3_isList⟩
set_option maxRecDepth 20000 in
theorem iT_X3_isList_X3 : ∀ w ∈ u_ws RX3 TX3 6, w ∈ wsX3_isList := by decide +kernel
set_option maxRecDepth 20000 in
theorem iT_X3_isList_X2 : ∀ w ∈ u_ws RX2 TX2 12, w ∈ wsX3_isList := by decide +kernel
set_option maxHeartbeats 4000000 in
set_option maxRecDepth 100000 in
theorem kX3_isList {l : Launch} {D : va_G} {cI cB : ClassId} (g : Nat → Nat) (tn : Int) (TB : Nat → Int) (ct : Int) (cf : Int) (ce : Int) (cv : Int) (q : Nat → Nat) (T : Tb) (b : Int) (nn : Nat) (p : Tk) (hn : tn = ((nn : Nat) : Int)) (hn9 : nn ≤ 120) (hTB : ∀ i : Nat, i < 120 → 0 ≤ TB i ∧ TB i ≤ 255) (hp : tyS ct cf ce cv p) (hi : tkI nn p) : Ct l yX3_isList wsX3_isList 2 41 D [(cI, .int), (cB, .byte)] [.ref (g 0), .ref (q 0)] (wTp cB g tn TB (jj ct cf ce cv) ++ (wTab cI q T b)) (S := Int × Int × Int × Int × Tb) (fun u => some (.int (iI (b2 (decide ((liF TB nn T p).1 = true)))))) (fun u => rsP (liF TB nn T p) u.1 u.2.1 u.2.2.1 u.2.2.2.1 u.2.2.2.2) (fun u => wTp cB g tn TB (jj u.1 u.2.1 u.2.2.1 u.2.2.2.1) ++ (wTab cI q u.2.2.2.2 b)) := by
  refine CtZ.of (cc := cX3_isList) (maxL := 3) (by decide +kernel) rfl (Nat.le_of_ble_eq_true rfl) ?_
  intro pg e s m args below meth c Q A hx hb hml hts hown hP hK hD hS ls hl kend
  have hown : s.vm.findClass RX3 = some m.cls := hown
  have hl : lv_has ls 3 [(0, .ref (g 0)), (1, .ref (q 0))] := hl
  subst hn
  obtain ⟨rfl, rfl, rfl, hv_p⟩ := hp
  refine lv_aload_n hx hb dX3_isList_0 rfl (lv_at hl 0 rfl) ?_
  refine x_callV (As := []) (rest := []) ⟨hx, hb, hml, hown, hts⟩ (kX3_step g ((nn : Nat) : Int) TB p.1 ((p.2.1 : Nat) : Int) ((p.2.2.1 : Nat) : Int) cv nn p.2.2.1 rfl hn9 hTB rfl hi.2.1) (cwV 0 hts gX3_isList_X3_step rfl rfl rfl ykVX3_step ⟨Nat.le_of_ble_eq_true rfl, Nat.le_of_ble_eq_true rfl⟩) hP hK hD hS 0 2 rfl rfl rfl [0, 1] rfl (by decide) (fun _ => rfl) (fun u => wTp cB g ((nn : Nat) : Int) TB (jj u.1 u.2.1 u.2.2.1 u.2.2.2) ++ (wTab cI q T b)) (fun _ => rfl) rfl hl.1 rfl (Nat.le_of_ble_eq_true rfl) dX3_isList_1 ⟨Nat.le_of_ble_eq_true rfl, Nat.le_of_ble_eq_true rfl⟩ (fun u5 H locs hp6 hP hD hS => ?_)
  obtain ⟨a11, a22, a33, a44⟩ := u5
  replace hp6 : tyS a11 a22 a33 a44 (tnF TB nn p.2.2.1) := hp6
  have hP : va_P D vwCl (wTp cB g ((nn : Nat) : Int) TB (jj a11 a22 a33 a44) ++ (wTab cI q T b)) H := hP
  have hD : va_D A (wTp cB g ((nn : Nat) : Int) TB (jj a11 a22 a33 a44) ++ (wTab cI q T b)) := hD
  refine W.eq (g2 := F0 m 4 ls []) rfl ?_
  obtain ⟨p7, hp7⟩ : ∃ z, z = nx TB nn p := ⟨_, rfl⟩
  have hp6 : tyS a11 a22 a33 a44 p7 := by rw [hp7]; exact hp6
  obtain ⟨rfl, rfl, rfl, hv_p7⟩ := hp6
  have hi_p7 : tkI nn p7 := by rw [hp7]; exact (nx_I hi).1
  refine lv_aload_n hx hb dX3_isList_4 rfl (lv_at hl 0 rfl) ?_
  refine x_iconst hx hb dX3_isList_5 ?_
  refine x_callV (As := [.int (iI 5)]) (rest := []) ⟨hx, hb, hml, hown, hts⟩ (kX3_isNumber g ((nn : Nat) : Int) TB p7.1 ((p7.2.1 : Nat) : Int) ((p7.2.2.1 : Nat) : Int) a44 5 p7 nn ⟨rfl, rfl, rfl, hv_p7⟩ hi_p7 (by omega)) (cwV 1 hts gX3_isList_X3_isNumber rfl rfl rfl ykVX3_isNumber ⟨Nat.le_of_ble_eq_true rfl, Nat.le_of_ble_eq_true rfl⟩) hP hK hD hS 0 2 rfl rfl rfl [0, 1] rfl (by decide) (fun _ => rfl) (fun _ => wTp cB g ((nn : Nat) : Int) TB (jj p7.1 ((p7.2.1 : Nat) : Int) ((p7.2.2.1 : Nat) : Int) a44) ++ (wTab cI q T b)) (fun _ => rfl) rfl hl.1 rfl (Nat.le_of_ble_eq_true rfl) dX3_isList_6 ⟨Nat.le_of_ble_eq_true rfl, Nat.le_of_ble_eq_true rfl⟩ (fun _ H locs _ hP hD hS => ?_)
  refine W.eq (g2 := F0 m 9 ls [.int (iI (b2 (decide (nbB p7 5 = true))))]) rfl ?_
  refine x_ifb_ne (tgt := 14) hx hb dX3_isList_9 (by decide) (fun c_9 => ?_) (fun c_9 => ?_)
  · refine lv_aload_n hx hb dX3_isList_14 rfl (lv_at hl 0 rfl) ?_
    refine va_get (D := D) (ci := 2) (v := .int (iI a44)) (C := RX3) (T := TX3) (N := 6) hx hb hts (iT_X3_isList_X3) hown hK hP 0 rfl rfl 5 (by decide) (hts (.fieldLink RX3 92 "WordSupper$Tape" "value" "I") (by decide +kernel)) (fun _ h9 => h9) rfl dX3_isList_15 ?_
    have q7 := nbB_i.mp c_9
    have q6 := hv_p7 q7.1
    obtain ⟨z1, z2, z3, z4, z5, z6⟩ := id hi_p7
    refine x_topi ((p7.2.2.2.toNat : Nat) : Int) (by omega) ?_
    refine lv_istore_n (lv' := [(2, .int (iI ((p7.2.2.2.toNat : Nat) : Int))), (0, .ref (g 0)), (1, .ref (q 0))]) hx hb dX3_isList_18 rfl hl (by decide) rfl (fun ls hl => ?_)
    refine lv_aload_n hx hb dX3_isList_19 rfl (lv_at hl 1 rfl) ?_
    refine x_callV (As := []) (rest := []) ⟨hx, hb, hml, hown, hts⟩ (kX3_step g ((nn : Nat) : Int) TB p7.1 ((p7.2.1 : Nat) : Int) ((p7.2.2.1 : Nat) : Int) a44 nn p7.2.2.1 rfl hn9 hTB rfl hi_p7.2.1) (cwV 0 hts gX3_isList_X3_step rfl rfl rfl ykVX3_step ⟨Nat.le_of_ble_eq_true rfl, Nat.le_of_ble_eq_true rfl⟩) hP hK hD hS 0 2 rfl rfl rfl [0, 1] rfl (by decide) (fun _ => rfl) (fun u => wTp cB g ((nn : Nat) : Int) TB (jj u.1 u.2.1 u.2.2.1 u.2.2.2) ++ (wTab cI q T b)) (fun _ => rfl) rfl hl.1 rfl (Nat.le_of_ble_eq_true rfl) dX3_isList_20 ⟨Nat.le_of_ble_eq_true rfl, Nat.le_of_ble_eq_true rfl⟩ (fun u12 H locs hp13 hP hD hS => ?_)
    obtain ⟨a18, a29, a310, a411⟩ := u12
    replace hp13 : tyS a18 a29 a310 a411 (tnF TB nn p7.2.2.1) := hp13
    have hP : va_P D vwCl (wTp cB g ((nn : Nat) : Int) TB (jj a18 a29 a310 a411) ++ (wTab cI q T b)) H := hP
    have hD : va_D A (wTp cB g ((nn : Nat) : Int) TB (jj a18 a29 a310 a411) ++ (wTab cI q T b)) := hD
    refine W.eq (g2 := F0 m 23 ls []) rfl ?_
    obtain ⟨p14, hp14⟩ : ∃ z, z = nx TB nn p7 := ⟨_, rfl⟩
    have hp13 : tyS a18 a29 a310 a411 p14 := by rw [hp14]; exact hp13
    obtain ⟨rfl, rfl, rfl, hv_p14⟩ := hp13
    have hi_p14 : tkI nn p14 := by rw [hp14]; exact (nx_I hi_p7).1
    refine lv_aload_n hx hb dX3_isList_23 rfl (lv_at hl 1 rfl) ?_
    refine x_bipush hx hb dX3_isList_24 (by decide) ?_
    refine x_callV (As := [.int (iI 20)]) (rest := []) ⟨hx, hb, hml, hown, hts⟩ (kX3_isNumber g ((nn : Nat) : Int) TB p14.1 ((p14.2.1 : Nat) : Int) ((p14.2.2.1 : Nat) : Int) a411 20 p14 nn ⟨rfl, rfl, rfl, hv_p14⟩ hi_p14 (by omega)) (cwV 1 hts gX3_isList_X3_isNumber rfl rfl rfl ykVX3_isNumber ⟨Nat.le_of_ble_eq_true rfl, Nat.le_of_ble_eq_true rfl⟩) hP hK hD hS 0 2 rfl rfl rfl [0, 1] rfl (by decide) (fun _ => rfl) (fun _ => wTp cB g ((nn : Nat) : Int) TB (jj p14.1 ((p14.2.1 : Nat) : Int) ((p14.2.2.1 : Nat) : Int) a411) ++ (wTab cI q T b)) (fun _ => rfl) rfl hl.1 rfl (Nat.le_of_ble_eq_true rfl) dX3_isList_26 ⟨Nat.le_of_ble_eq_true rfl, Nat.le_of_ble_eq_true rfl⟩ (fun _ H locs _ hP hD hS => ?_)
    refine W.eq (g2 := F0 m 29 ls [.int (iI (b2 (decide (nbB p14 20 = true))))]) rfl ?_
    refine x_ifb_ne (tgt := 34) hx hb dX3_isList_29 (by decide) (fun c_29 => ?_) (fun c_29 => ?_)
    · refine lv_aload_n hx hb dX3_isList_34 rfl (lv_at hl 2 rfl) ?_
      refine va_get (D := D) (ci := 1) (v := .ref (q 1)) (C := RX2) (T := TX2) (N := 12) hx hb hts (iT_X3_isList_X2) hown hK hP 2 rfl rfl 5 (by decide) (hts (.fieldLink RX3 111 "WordSupper$Table" "listed" "[I") (by decide +kernel)) (fun _ h9 => h9) rfl dX3_isList_35 ?_
      refine lv_iload_n hx hb dX3_isList_38 rfl (lv_at hl 0 rfl) ?_
      refine lv_aload_n hx hb dX3_isList_39 rfl (lv_at hl 1 rfl) ?_
      refine va_get (D := D) (ci := 2) (v := .int (iI a411)) (C := RX3) (T := TX3) (N := 6) hx hb hts (iT_X3_isList_X3) hown hK hP 0 rfl rfl 5 (by decide) (hts (.fieldLink RX3 92 "WordSupper$Tape" "value" "I") (by decide +kernel)) (fun _ h9 => h9) rfl dX3_isList_40 ?_
      have q5 := hv_p14 (nbB_i.mp c_29).1
      refine x_topi p14.2.2.2 q5 ?_
      refine x_iast hx hb hK hP hD hS 3 0 rfl rfl p7.2.2.2.toNat rfl (by omega) (by decide) (wTp cB g ((nn : Nat) : Int) TB (jj p14.1 ((p14.2.1 : Nat) : Int) ((p14.2.2.1 : Nat) : Int) a411) ++ (wTab cI q (va_up T (4 + p7.2.2.2.toNat) p14.2.2.2) b)) (by rw [← wT_listed cI q T b p14.2.2.2 p7.2.2.2.toNat (by omega)]; rfl) dX3_isList_43 (fun H locs hP hD hS => ?_)
      refine lv_aload_n hx hb dX3_isList_44 rfl (lv_at hl 1 rfl) ?_
      refine x_callV (As := []) (rest := []) ⟨hx, hb, hml, hown, hts⟩ (kX3_step g ((nn : Nat) : Int) TB p14.1 ((p14.2.1 : Nat) : Int) ((p14.2.2.1 : Nat) : Int) a411 nn p14.2.2.1 rfl hn9 hTB rfl hi_p14.2.1) (cwV 0 hts gX3_isList_X3_step rfl rfl rfl ykVX3_step ⟨Nat.le_of_ble_eq_true rfl, Nat.le_of_ble_eq_true rfl⟩) hP hK hD hS 0 2 rfl rfl rfl [0, 1] rfl (by decide) (fun _ => rfl) (fun u => wTp cB g ((nn : Nat) : Int) TB (jj u.1 u.2.1 u.2.2.1 u.2.2.2) ++ (wTab cI q (va_up T (4 + p7.2.2.2.toNat) p14.2.2.2) b)) (fun _ => rfl) rfl hl.1 rfl (Nat.le_of_ble_eq_true rfl) dX3_isList_45 ⟨Nat.le_of_ble_eq_true rfl, Nat.le_of_ble_eq_true rfl⟩ (fun u19 H locs hp20 hP hD hS => ?_)
      obtain ⟨a115, a216, a317, a418⟩ := u19
      replace hp20 : tyS a115 a216 a317 a418 (tnF TB nn p14.2.2.1) := hp20
      have hP : va_P D vwCl (wTp cB g ((nn : Nat) : Int) TB (jj a115 a216 a317 a418) ++ (wTab cI q (va_up T (4 + p7.2.2.2.toNat) p14.2.2.2) b)) H := hP
      have hD : va_D A (wTp cB g ((nn : Nat) : Int) TB (jj a115 a216 a317 a418) ++ (wTab cI q (va_up T (4 + p7.2.2.2.toNat) p14.2.2.2) b)) := hD
      refine W.eq (g2 := F0 m 48 ls []) rfl ?_
      obtain ⟨p21, hp21⟩ : ∃ z, z = nx TB nn p14 := ⟨_, rfl⟩
      have hp20 : tyS a115 a216 a317 a418 p21 := by rw [hp21]; exact hp20
      obtain ⟨rfl, rfl, rfl, hv_p21⟩ := hp20
      have hi_p21 : tkI nn p21 := by rw [hp21]; exact (nx_I hi_p14).1
      refine x_iconst hx hb dX3_isList_48 ?_
      exact kend (p21.1, ((p21.2.1 : Nat) : Int), ((p21.2.2.1 : Nat) : Int), a418, va_up T (4 + p7.2.2.2.toNat) p14.2.2.2) hP hS (an_i (b2_z (x := true) (y := (va_up T (4 + p7.2.2.2.toNat) p14.2.2.2, p21)) (by unfold liF; rw [← hp7, if_pos c_9, pk_y (by rw [← hp14]; exact c_29), ← hp14, ← hp21])).symm) (rs_t (x := true) (by unfold liF; rw [← hp7, if_pos c_9, pk_y (by rw [← hp14]; exact c_29), ← hp14, ← hp21]) ⟨rfl, rfl, rfl, hv_p21⟩) (by decide) dX3_isList_49
    · refine x_iconst hx hb dX3_isList_32 ?_
      exact kend (p14.1, ((p14.2.1 : Nat) : Int), ((p14.2.2.1 : Nat) : Int), a411, T) hP hS (an_i (b2_z (x := false) (y := (T, p14)) (by unfold liF; rw [← hp7, if_pos c_9, pk_n (by rw [← hp14]; exact c_29), ← hp14])).symm) (rs_t (x := false) (by unfold liF; rw [← hp7, if_pos c_9, pk_n (by rw [← hp14]; exact c_29), ← hp14]) ⟨rfl, rfl, rfl, hv_p14⟩) (by decide) dX3_isList_33
  · refine x_iconst hx hb dX3_isList_12 ?_
    exact kend (p7.1, ((p7.2.1 : Nat) : Int), ((p7.2.2.1 : Nat) : Int), a44, T) hP hS (an_i (b2_z (x := false) (y := (T, p7)) (by unfold liF; rw [← hp7, if_neg c_9])).symm) (rs_t (x := false) (by unfold liF; rw [← hp7, if_neg c_9]) ⟨rfl, rfl, rfl, hv_p7⟩) (by decide) dX3_isList_13
theorem ykSX3_isVinegar : yX3_isVinegar.cls ≠ "java/lang/invoke/MethodHandle" ∧ yX3_isVinegar.cls ≠ "java/lang/invoke/VarHandle" ∧ (parseMethodDescriptor yX3_isVinegar.desc).map (fun d => d.parameters.length) = some 1 := by decide +kernel
theorem ykVX3_isVinegar : yX3_isVinegar.cls = RX3 ∧ yX3_isVinegar.cls ≠ "java/lang/invoke/MethodHandle" ∧ yX3_isVinegar.cls ≠ "java/lang/invoke/VarHandle" ∧ (parseMethodDescriptor yX3_isVinegar.desc).map (fun d => d.parameters.length) = some 1 := ⟨rfl, ykSX3_isVinegar⟩
set_option maxRecDepth 20000 in
theorem iT_X3_isVinegar_X3 : ∀ w ∈ u_ws RX3 TX3 6, w ∈ wsX3_isVinegar := by decide +kernel
set_option maxRecDepth 20000 in
theorem iT_X3_isVinegar_X2 : ∀ w ∈ u_ws RX2 TX2 12, w ∈ wsX3_isVinegar := by decide +kernel
set_option maxHeartbeats 4000000 in
set_option maxRecDepth 100000 in
theorem kX3_isVinegar {l : Launch} {D : va_G} {cI cB : ClassId} (g : Nat → Nat) (tn : Int) (TB : Nat → Int) (ct : Int) (cf : Int) (ce : Int) (cv : Int) (q : Nat → Nat) (T : Tb) (b : Int) (nn : Nat) (p : Tk) (hn : tn = ((nn : Nat) : Int)) (hn9 : nn ≤ 120) (hTB : ∀ i : Nat, i < 120 → 0 ≤ TB i ∧ TB i ≤ 255) (hp : tyS ct cf ce cv p) (hi : tkI nn p) : Ct l yX3_isVinegar wsX3_isVinegar 2 41 D [(cI, .int), (cB, .byte)] [.ref (g 0), .ref (q 0)] (wTp cB g tn TB (jj ct cf ce cv) ++ (wTab cI q T b)) (S := Int × Int × Int × Int × Tb) (fun u => some (.int (iI (b2 (decide ((pkF TB nn true 3 9 T p).1 = true)))))) (fun u => rsP (pkF TB nn true 3 9 T p) u.1 u.2.1 u.2.2.1 u.2.2.2.1 u.2.2.2.2) (fun u => wTp cB g tn TB (jj u.1 u.2.1 u.2.2.1 u.2.2.2.1) ++ (wTab cI q u.2.2.2.2 b)) := by
  refine CtZ.of (cc := cX3_isVinegar) (maxL := 2) (by decide +kernel) rfl (Nat.le_of_ble_eq_true rfl) ?_
  intro pg e s m args below meth c Q A hx hb hml hts hown hP hK hD hS ls hl kend
  have hown : s.vm.findClass RX3 = some m.cls := hown
  have hl : lv_has ls 2 [(0, .ref (g 0)), (1, .ref (q 0))] := hl
  subst hn
  obtain ⟨rfl, rfl, rfl, hv_p⟩ := hp
  refine lv_aload_n hx hb dX3_isVinegar_0 rfl (lv_at hl 0 rfl) ?_
  refine x_callV (As := []) (rest := []) ⟨hx, hb, hml, hown, hts⟩ (kX3_step g ((nn : Nat) : Int) TB p.1 ((p.2.1 : Nat) : Int) ((p.2.2.1 : Nat) : Int) cv nn p.2.2.1 rfl hn9 hTB rfl hi.2.1) (cwV 0 hts gX3_isVinegar_X3_step rfl rfl rfl ykVX3_step ⟨Nat.le_of_ble_eq_true rfl, Nat.le_of_ble_eq_true rfl⟩) hP hK hD hS 0 2 rfl rfl rfl [0, 1] rfl (by decide) (fun _ => rfl) (fun u => wTp cB g ((nn : Nat) : Int) TB (jj u.1 u.2.1 u.2.2.1 u.2.2.2) ++ (wTab cI q T b)) (fun _ => rfl) rfl hl.1 rfl (Nat.le_of_ble_eq_true rfl) dX3_isVinegar_1 ⟨Nat.le_of_ble_eq_true rfl, Nat.le_of_ble_eq_true rfl⟩ (fun u5 H locs hp6 hP hD hS => ?_)
  obtain ⟨a11, a22, a33, a44⟩ := u5
  replace hp6 : tyS a11 a22 a33 a44 (tnF TB nn p.2.2.1) := hp6
  have hP : va_P D vwCl (wTp cB g ((nn : Nat) : Int) TB (jj a11 a22 a33 a44) ++ (wTab cI q T b)) H := hP
  have hD : va_D A (wTp cB g ((nn : Nat) : Int) TB (jj a11 a22 a33 a44) ++ (wTab cI q T b)) := hD
  refine W.eq (g2 := F0 m 4 ls []) rfl ?_
  obtain ⟨p7, hp7⟩ : ∃ z, z = nx TB nn p := ⟨_, rfl⟩
  have hp6 : tyS a11 a22 a33 a44 p7 := by rw [hp7]; exact hp6
  obtain ⟨rfl, rfl, rfl, hv_p7⟩ := hp6
  have hi_p7 : tkI nn p7 := by rw [hp7]; exact (nx_I hi).1
  refine lv_aload_n hx hb dX3_isVinegar_4 rfl (lv_at hl 0 rfl) ?_
  refine x_bipush hx hb dX3_isVinegar_5 (by decide) ?_
  refine x_callV (As := [.int (iI 9)]) (rest := []) ⟨hx, hb, hml, hown, hts⟩ (kX3_isNumber g ((nn : Nat) : Int) TB p7.1 ((p7.2.1 : Nat) : Int) ((p7.2.2.1 : Nat) : Int) a44 9 p7 nn ⟨rfl, rfl, rfl, hv_p7⟩ hi_p7 (by omega)) (cwV 1 hts gX3_isVinegar_X3_isNumber rfl rfl rfl ykVX3_isNumber ⟨Nat.le_of_ble_eq_true rfl, Nat.le_of_ble_eq_true rfl⟩) hP hK hD hS 0 2 rfl rfl rfl [0, 1] rfl (by decide) (fun _ => rfl) (fun _ => wTp cB g ((nn : Nat) : Int) TB (jj p7.1 ((p7.2.1 : Nat) : Int) ((p7.2.2.1 : Nat) : Int) a44) ++ (wTab cI q T b)) (fun _ => rfl) rfl hl.1 rfl (Nat.le_of_ble_eq_true rfl) dX3_isVinegar_7 ⟨Nat.le_of_ble_eq_true rfl, Nat.le_of_ble_eq_true rfl⟩ (fun _ H locs _ hP hD hS => ?_)
  refine W.eq (g2 := F0 m 10 ls [.int (iI (b2 (decide (nbB p7 9 = true))))]) rfl ?_
  refine x_ifb_ne (tgt := 15) hx hb dX3_isVinegar_10 (by decide) (fun c_10 => ?_) (fun c_10 => ?_)
  · refine lv_aload_n hx hb dX3_isVinegar_15 rfl (lv_at hl 1 rfl) ?_
    refine lv_aload_n hx hb dX3_isVinegar_16 rfl (lv_at hl 0 rfl) ?_
    refine va_get (D := D) (ci := 2) (v := .int (iI a44)) (C := RX3) (T := TX3) (N := 6) hx hb hts (iT_X3_isVinegar_X3) hown hK hP 0 rfl rfl 5 (by decide) (hts (.fieldLink RX3 92 "WordSupper$Tape" "value" "I") (by decide +kernel)) (fun _ h9 => h9) rfl dX3_isVinegar_17 ?_
    have q5 := hv_p7 (nbB_i.mp c_10).1
    refine x_topi p7.2.2.2 q5 ?_
    refine x_putI (D := D) (ty := .int) (C := RX2) (T := TX2) (N := 12) hx hb 1 hts (iT_X3_isVinegar_X2) tyX2 tyX2_ok nmX2 hown hK hP hD hS 2 rfl rfl 1 (by decide) (hts (.fieldLink RX3 114 "WordSupper$Table" "vinegar" "I") (by decide +kernel)) (fun _ h9 => h9) rfl (by decide +kernel) rfl rfl (Nat.le_of_ble_eq_true rfl) (wTp cB g ((nn : Nat) : Int) TB (jj p7.1 ((p7.2.1 : Nat) : Int) ((p7.2.2.1 : Nat) : Int) a44) ++ (wTab cI q (va_up T 3 p7.2.2.2) b)) (by rw [← wT_vin cI q T b p7.2.2.2]; rfl) dX3_isVinegar_20 (fun H locs hP hD hS => ?_)
    refine lv_aload_n hx hb dX3_isVinegar_23 rfl (lv_at hl 0 rfl) ?_
    refine x_callV (As := []) (rest := []) ⟨hx, hb, hml, hown, hts⟩ (kX3_step g ((nn : Nat) : Int) TB p7.1 ((p7.2.1 : Nat) : Int) ((p7.2.2.1 : Nat) : Int) a44 nn p7.2.2.1 rfl hn9 hTB rfl hi_p7.2.1) (cwV 0 hts gX3_isVinegar_X3_step rfl rfl rfl ykVX3_step ⟨Nat.le_of_ble_eq_true rfl, Nat.le_of_ble_eq_true rfl⟩) hP hK hD hS 0 2 rfl rfl rfl [0, 1] rfl (by decide) (fun _ => rfl) (fun u => wTp cB g ((nn : Nat) : Int) TB (jj u.1 u.2.1 u.2.2.1 u.2.2.2) ++ (wTab cI q (va_up T 3 p7.2.2.2) b)) (fun _ => rfl) rfl hl.1 rfl (Nat.le_of_ble_eq_true rfl) dX3_isVinegar_24 ⟨Nat.le_of_ble_eq_true rfl, Nat.le_of_ble_eq_true rfl⟩ (fun u12 H locs hp13 hP hD hS => ?_)
    obtain ⟨a18, a29, a310, a411⟩ := u12
    replace hp13 : tyS a18 a29 a310 a411 (tnF TB nn p7.2.2.1) := hp13
    have hP : va_P D vwCl (wTp cB g ((nn : Nat) : Int) TB (jj a18 a29 a310 a411) ++ (wTab cI q (va_up T 3 p7.2.2.2) b)) H := hP
    have hD : va_D A (wTp cB g ((nn : Nat) : Int) TB (jj a18 a29 a310 a411) ++ (wTab cI q (va_up T 3 p7.2.2.2) b)) := hD
    refine W.eq (g2 := F0 m 27 ls []) rfl ?_
    obtain ⟨p14, hp14⟩ : ∃ z, z = nx TB nn p7 := ⟨_, rfl⟩
    have hp13 : tyS a18 a29 a310 a411 p14 := by rw [hp14]; exact hp13
    obtain ⟨rfl, rfl, rfl, hv_p14⟩ := hp13
    have hi_p14 : tkI nn p14 := by rw [hp14]; exact (nx_I hi_p7).1
    refine x_iconst hx hb dX3_isVinegar_27 ?_
    exact kend (p14.1, ((p14.2.1 : Nat) : Int), ((p14.2.2.1 : Nat) : Int), a411, va_up T 3 p7.2.2.2) hP hS (an_i (b2_z (x := true) (y := (va_up T 3 p7.2.2.2, p14)) (by rw [pk_y (by rw [← hp7]; exact c_10), ← hp7, ← hp14])).symm) (rs_t (x := true) (by rw [pk_y (by rw [← hp7]; exact c_10), ← hp7, ← hp14]) ⟨rfl, rfl, rfl, hv_p14⟩) (by decide) dX3_isVinegar_28
  · refine x_iconst hx hb dX3_isVinegar_13 ?_
    exact kend (p7.1, ((p7.2.1 : Nat) : Int), ((p7.2.2.1 : Nat) : Int), a44, T) hP hS (an_i (b2_z (x := false) (y := (T, p7)) (by rw [pk_n (by rw [← hp7]; exact c_10), ← hp7])).symm) (rs_t (x := false) (by rw [pk_n (by rw [← hp7]; exact c_10), ← hp7]) ⟨rfl, rfl, rfl, hv_p7⟩) (by decide) dX3_isVinegar_14
