theorem it_sp {TB : Nat → Int} {nn : Nat} {T : Tb} {p : Tk} (h0 : ¬ wdB TB p (wdA 0) = true) (h1 : ¬ wdB TB p (wdA 1) = true) (h2 : 0 ≤ kdF TB p) : itF TB nn T p = spR TB nn (kdF TB p) T p := by
  unfold itF spR
  rw [if_neg h0, if_neg h1]
  by_cases q9 : 8 ≤ T 0
  · rw [if_pos (Or.inr q9), if_pos q9]
  · rw [if_neg (by omega), if_neg q9]
theorem ykSX5_itemHere : yX5_itemHere.cls ≠ "java/lang/invoke/MethodHandle" ∧ yX5_itemHere.cls ≠ "java/lang/invoke/VarHandle" ∧ (parseMethodDescriptor yX5_itemHere.desc).map (fun d => d.parameters.length) = some 0 := by decide +kernel
theorem ykVX5_itemHere : yX5_itemHere.cls = RX5 ∧ yX5_itemHere.cls ≠ "java/lang/invoke/MethodHandle" ∧ yX5_itemHere.cls ≠ "java/lang/invoke/VarHandle" ∧ (parseMethodDescriptor yX5_itemHere.desc).map (fun d => d.parameters.length) = some 0 := ⟨rfl, ykSX5_itemHere⟩
set_option maxHeartbeats 4000000 in
set_option maxRecDepth 100000 in
theorem kX5_itemHere {l : Launch} {D : va_G} {cI cB : ClassId} (r : Nat → Nat) (ik : Int) (tn : Int) (b0 : Int) (b1 : Int) (ct : Int) (cf : Int) (ce : Int) (cv : Int) (fa : Int) (T : Tb) (TB : Nat → Int) (nn : Nat) (p : Tk) (hn : tn = ((nn : Nat) : Int)) (hn9 : nn ≤ 120) (hTB : ∀ i : Nat, i < 120 → 0 ≤ TB i ∧ TB i ≤ 255) (hp : tyR ct cf ce cv p) (hi : tkI nn p) (hT8 : 0 ≤ T 0 ∧ T 0 ≤ 8) : Ct l yX5_itemHere wsX5_itemHere 5 114 D [(cI, .int), (cB, .byte)] [.ref (r 0)] (wRo r ik tn (jk b0 b1 ct cf ce cv fa) ++ (wA cI (r 1) 100 T ++ (wA cI (r 6) 120 TB))) (S := Int × Int × Int × Int × Int × Tb × Bool) (fun u => some (.int (iI (b2 (decide (u.2.2.2.2.2.2 = true)))))) (fun u => rqP (itF TB nn T p) u.1 u.2.1 u.2.2.1 u.2.2.2.1 u.2.2.2.2.1 u.2.2.2.2.2.1 u.2.2.2.2.2.2) (fun u => wRo r ik tn (jk b0 b1 u.1 u.2.1 u.2.2.1 u.2.2.2.1 u.2.2.2.2.1) ++ (wA cI (r 1) 100 u.2.2.2.2.2.1 ++ (wA cI (r 6) 120 TB))) := by
  refine CtZ.of (cc := cX5_itemHere) (maxL := 2) (by decide +kernel) rfl (Nat.le_of_ble_eq_true rfl) ?_
  intro pg e s m args below meth c Q A hx hb hml hts hown hP hK hD hS ls hl kend
  have hown : s.vm.findClass RX5 = some m.cls := hown
  have hl : lv_has ls 2 [(0, .ref (r 0))] := hl
  subst hn
  have hkb := kd_b TB p
  obtain ⟨rfl, rfl, rfl, hv_p⟩ := hp
  refine lv_aload_n hx hb dX5_itemHere_0 rfl (lv_at hl 0 rfl) ?_
  refine x_callV (As := []) (rest := []) ⟨hx, hb, hml, hown, hts⟩ (kX5_kindHere r ik ((nn : Nat) : Int) b0 b1 p.1 ((p.2.1 : Nat) : Int) ((p.2.2.1 : Nat) : Int) cv fa TB nn p rfl hn9 hTB ⟨rfl, rfl, rfl, hv_p⟩ hi) (cwV 0 hts gX5_itemHere_X5_kindHere rfl rfl rfl ykVX5_kindHere ⟨Nat.le_of_ble_eq_true rfl, Nat.le_of_ble_eq_true rfl⟩) hP hK hD hS 0 4 rfl rfl rfl [0, 2] rfl (by decide) (fun _ => rfl) (fun _ => wRo r ik ((nn : Nat) : Int) (jk b0 b1 p.1 ((p.2.1 : Nat) : Int) ((p.2.2.1 : Nat) : Int) cv fa) ++ (wA cI (r 1) 100 T ++ (wA cI (r 6) 120 TB))) (fun _ => rfl) rfl hl.1 rfl (Nat.le_of_ble_eq_true rfl) dX5_itemHere_1 ⟨Nat.le_of_ble_eq_true rfl, Nat.le_of_ble_eq_true rfl⟩ (fun _ H locs _ hP hD hS => ?_)
  refine W.eq (g2 := F0 m 4 ls [.int (iI (kdF TB p))]) rfl ?_
  refine lv_istore_n (lv' := [(1, .int (iI (kdF TB p))), (0, .ref (r 0))]) hx hb dX5_itemHere_4 rfl hl (by decide) rfl (fun ls hl => ?_)
  refine lv_iload_n hx hb dX5_itemHere_5 rfl (lv_at hl 0 rfl) ?_
  refine x_if_lt (tgt := 15) hx hb (by omega) dX5_itemHere_6 (by decide) (fun c_6 => ?_) (fun c_6 => ?_)
  · refine lv_aload_n hx hb dX5_itemHere_15 rfl (lv_at hl 1 rfl) ?_
    refine x_bipush hx hb dX5_itemHere_16 (by decide) ?_
    refine x_bipush hx hb dX5_itemHere_18 (by decide) ?_
    refine x_bipush hx hb dX5_itemHere_20 (by decide) ?_
    refine x_bipush hx hb dX5_itemHere_22 (by decide) ?_
    refine x_callV (As := [.int (iI 108), .int (iI 105), .int (iI 115), .int (iI 116)]) (rest := []) ⟨hx, hb, hml, hown, hts⟩ (kX5_isFour r ik ((nn : Nat) : Int) b0 b1 p.1 ((p.2.1 : Nat) : Int) ((p.2.2.1 : Nat) : Int) cv fa TB 108 105 115 116 nn p rfl hn9 hTB ⟨rfl, rfl, rfl, hv_p⟩ hi (by decide) (by decide) (by decide) (by decide)) (cwV 4 hts gX5_itemHere_X5_isFour rfl rfl rfl ykVX5_isFour ⟨Nat.le_of_ble_eq_true rfl, Nat.le_of_ble_eq_true rfl⟩) hP hK hD hS 0 4 rfl rfl rfl [0, 2] rfl (by decide) (fun _ => rfl) (fun _ => wRo r ik ((nn : Nat) : Int) (jk b0 b1 p.1 ((p.2.1 : Nat) : Int) ((p.2.2.1 : Nat) : Int) cv fa) ++ (wA cI (r 1) 100 T ++ (wA cI (r 6) 120 TB))) (fun _ => rfl) rfl hl.1 rfl (Nat.le_of_ble_eq_true rfl) dX5_itemHere_24 ⟨Nat.le_of_ble_eq_true rfl, Nat.le_of_ble_eq_true rfl⟩ (fun _ H locs _ hP hD hS => ?_)
    refine W.eq (g2 := F0 m 27 ls [.int (iI (b2 (decide (wdB TB p [108, 105, 115, 116] = true))))]) rfl ?_
    refine x_ifb_eq (tgt := 35) hx hb dX5_itemHere_27 (by decide) (fun c_27 => ?_) (fun c_27 => ?_)
    · have c_27 : ¬ wdB TB p (wdA 0) = true := c_27
      refine lv_aload_n hx hb dX5_itemHere_35 rfl (lv_at hl 1 rfl) ?_
      refine x_bipush hx hb dX5_itemHere_36 (by decide) ?_
      refine x_callV (As := [.int (iI 7)]) (rest := []) ⟨hx, hb, hml, hown, hts⟩ (kX5_isWord r ik ((nn : Nat) : Int) b0 b1 p.1 ((p.2.1 : Nat) : Int) ((p.2.2.1 : Nat) : Int) cv fa 7 nn p ⟨rfl, rfl, rfl, hv_p⟩ hi (by decide) hn9) (cwV 1 hts gX5_itemHere_X5_isWord rfl rfl rfl ykVX5_isWord ⟨Nat.le_of_ble_eq_true rfl, Nat.le_of_ble_eq_true rfl⟩) hP hK hD hS 0 4 rfl rfl rfl [0] rfl (by decide) (fun _ => rfl) (fun _ => wRo r ik ((nn : Nat) : Int) (jk b0 b1 p.1 ((p.2.1 : Nat) : Int) ((p.2.2.1 : Nat) : Int) cv fa) ++ (wA cI (r 1) 100 T ++ (wA cI (r 6) 120 TB))) (fun _ => rfl) rfl hl.1 rfl (Nat.le_of_ble_eq_true rfl) dX5_itemHere_38 ⟨Nat.le_of_ble_eq_true rfl, Nat.le_of_ble_eq_true rfl⟩ (fun _ H locs _ hP hD hS => ?_)
      refine W.eq (g2 := F0 m 41 ls [.int (iI (b2 (decide ((p.1 = 1 ∧ p.2.2.1 = p.2.1 + 7)))))]) rfl ?_
      refine x_ifb_eq (tgt := 97) hx hb dX5_itemHere_41 (by decide) (fun c_41 => ?_) (fun c_41 => ?_)
      · have h_nv : ¬ wdB TB p (wdA 1) = true := fun q9 => c_41 ((wd_7 hi).mpr q9).1
        refine lv_aload_n hx hb dX5_itemHere_97 rfl (lv_at hl 1 rfl) ?_
        refine x_callV (As := []) (rest := []) ⟨hx, hb, hml, hown, hts⟩ (kX5_fails r ik ((nn : Nat) : Int) b0 b1 p.1 ((p.2.1 : Nat) : Int) ((p.2.2.1 : Nat) : Int) cv fa nn p ⟨rfl, rfl, rfl, hv_p⟩ hi) (cwV 0 hts gX5_itemHere_X5_fails rfl rfl rfl ykVX5_fails ⟨Nat.le_of_ble_eq_true rfl, Nat.le_of_ble_eq_true rfl⟩) hP hK hD hS 0 4 rfl rfl rfl [0] rfl (by decide) (fun _ => rfl) (fun _ => wRo r ik ((nn : Nat) : Int) (jk b0 b1 p.1 ((p.2.1 : Nat) : Int) ((p.2.2.1 : Nat) : Int) cv ((p.2.1 : Nat) : Int)) ++ (wA cI (r 1) 100 T ++ (wA cI (r 6) 120 TB))) (fun _ => rfl) rfl hl.1 rfl (Nat.le_of_ble_eq_true rfl) dX5_itemHere_98 ⟨Nat.le_of_ble_eq_true rfl, Nat.le_of_ble_eq_true rfl⟩ (fun _ H locs _ hP hD hS => ?_)
        refine W.eq (g2 := F0 m 101 ls [.int (iI 0)]) rfl ?_
        exact kend (p.1, ((p.2.1 : Nat) : Int), ((p.2.2.1 : Nat) : Int), cv, ((p.2.1 : Nat) : Int), T, false) hP hS rfl (rq_t (x := false) (by unfold itF; rw [if_neg c_27, if_neg h_nv, if_pos (by omega)]) ⟨rfl, rfl, rfl, hv_p⟩ (ok_f rfl)) (by decide) dX5_itemHere_101
      · refine lv_aload_n hx hb dX5_itemHere_44 rfl (lv_at hl 1 rfl) ?_
        refine x_iconst hx hb dX5_itemHere_45 ?_
        refine x_bipush hx hb dX5_itemHere_46 (by decide) ?_
        refine x_bipush hx hb dX5_itemHere_48 (by decide) ?_
        refine x_bipush hx hb dX5_itemHere_50 (by decide) ?_
        refine x_callV (As := [.int (iI 0), .int (iI 118), .int (iI 105), .int (iI 110)]) (rest := []) ⟨hx, hb, hml, hown, hts⟩ (kX5_has3 r ik ((nn : Nat) : Int) b0 b1 p.1 ((p.2.1 : Nat) : Int) ((p.2.2.1 : Nat) : Int) cv fa TB 0 118 105 110 nn p rfl hn9 hTB ⟨rfl, rfl, rfl, hv_p⟩ hi (by decide) (by decide) (by decide) (by decide)) (cwV 4 hts gX5_itemHere_X5_has3 rfl rfl rfl ykVX5_has3 ⟨Nat.le_of_ble_eq_true rfl, Nat.le_of_ble_eq_true rfl⟩) hP hK hD hS 0 4 rfl rfl rfl [0, 2] rfl (by decide) (fun _ => rfl) (fun _ => wRo r ik ((nn : Nat) : Int) (jk b0 b1 p.1 ((p.2.1 : Nat) : Int) ((p.2.2.1 : Nat) : Int) cv fa) ++ (wA cI (r 1) 100 T ++ (wA cI (r 6) 120 TB))) (fun _ => rfl) rfl hl.1 rfl (Nat.le_of_ble_eq_true rfl) dX5_itemHere_52 ⟨Nat.le_of_ble_eq_true rfl, Nat.le_of_ble_eq_true rfl⟩ (fun _ H locs _ hP hD hS => ?_)
        refine W.eq (g2 := F0 m 55 ls [.int (iI (b2 (decide (((byF TB nn (p.2.1 + 0) = 118 ∧ byF TB nn (p.2.1 + 0 + 1) = 105) ∧ byF TB nn (p.2.1 + 0 + 2) = 110)))))]) rfl ?_
        refine x_ifb_eq (tgt := 97) hx hb dX5_itemHere_55 (by decide) (fun c_55 => ?_) (fun c_55 => ?_)
        · have h_nv : ¬ wdB TB p (wdA 1) = true := fun q9 => c_55 ((wd_7 hi).mpr q9).2.1
          refine lv_aload_n hx hb dX5_itemHere_97 rfl (lv_at hl 1 rfl) ?_
          refine x_callV (As := []) (rest := []) ⟨hx, hb, hml, hown, hts⟩ (kX5_fails r ik ((nn : Nat) : Int) b0 b1 p.1 ((p.2.1 : Nat) : Int) ((p.2.2.1 : Nat) : Int) cv fa nn p ⟨rfl, rfl, rfl, hv_p⟩ hi) (cwV 0 hts gX5_itemHere_X5_fails rfl rfl rfl ykVX5_fails ⟨Nat.le_of_ble_eq_true rfl, Nat.le_of_ble_eq_true rfl⟩) hP hK hD hS 0 4 rfl rfl rfl [0] rfl (by decide) (fun _ => rfl) (fun _ => wRo r ik ((nn : Nat) : Int) (jk b0 b1 p.1 ((p.2.1 : Nat) : Int) ((p.2.2.1 : Nat) : Int) cv ((p.2.1 : Nat) : Int)) ++ (wA cI (r 1) 100 T ++ (wA cI (r 6) 120 TB))) (fun _ => rfl) rfl hl.1 rfl (Nat.le_of_ble_eq_true rfl) dX5_itemHere_98 ⟨Nat.le_of_ble_eq_true rfl, Nat.le_of_ble_eq_true rfl⟩ (fun _ H locs _ hP hD hS => ?_)
          refine W.eq (g2 := F0 m 101 ls [.int (iI 0)]) rfl ?_
          exact kend (p.1, ((p.2.1 : Nat) : Int), ((p.2.2.1 : Nat) : Int), cv, ((p.2.1 : Nat) : Int), T, false) hP hS rfl (rq_t (x := false) (by unfold itF; rw [if_neg c_27, if_neg h_nv, if_pos (by omega)]) ⟨rfl, rfl, rfl, hv_p⟩ (ok_f rfl)) (by decide) dX5_itemHere_101
        · refine lv_aload_n hx hb dX5_itemHere_58 rfl (lv_at hl 1 rfl) ?_
          refine x_iconst hx hb dX5_itemHere_59 ?_
          refine x_bipush hx hb dX5_itemHere_60 (by decide) ?_
          refine x_bipush hx hb dX5_itemHere_62 (by decide) ?_
          refine x_bipush hx hb dX5_itemHere_64 (by decide) ?_
          refine x_callV (As := [.int (iI 3), .int (iI 101), .int (iI 103), .int (iI 97)]) (rest := []) ⟨hx, hb, hml, hown, hts⟩ (kX5_has3 r ik ((nn : Nat) : Int) b0 b1 p.1 ((p.2.1 : Nat) : Int) ((p.2.2.1 : Nat) : Int) cv fa TB 3 101 103 97 nn p rfl hn9 hTB ⟨rfl, rfl, rfl, hv_p⟩ hi (by decide) (by decide) (by decide) (by decide)) (cwV 4 hts gX5_itemHere_X5_has3 rfl rfl rfl ykVX5_has3 ⟨Nat.le_of_ble_eq_true rfl, Nat.le_of_ble_eq_true rfl⟩) hP hK hD hS 0 4 rfl rfl rfl [0, 2] rfl (by decide) (fun _ => rfl) (fun _ => wRo r ik ((nn : Nat) : Int) (jk b0 b1 p.1 ((p.2.1 : Nat) : Int) ((p.2.2.1 : Nat) : Int) cv fa) ++ (wA cI (r 1) 100 T ++ (wA cI (r 6) 120 TB))) (fun _ => rfl) rfl hl.1 rfl (Nat.le_of_ble_eq_true rfl) dX5_itemHere_66 ⟨Nat.le_of_ble_eq_true rfl, Nat.le_of_ble_eq_true rfl⟩ (fun _ H locs _ hP hD hS => ?_)
          refine W.eq (g2 := F0 m 69 ls [.int (iI (b2 (decide (((byF TB nn (p.2.1 + 3) = 101 ∧ byF TB nn (p.2.1 + 3 + 1) = 103) ∧ byF TB nn (p.2.1 + 3 + 2) = 97)))))]) rfl ?_
          refine x_ifb_eq (tgt := 97) hx hb dX5_itemHere_69 (by decide) (fun c_69 => ?_) (fun c_69 => ?_)
          · have h_nv : ¬ wdB TB p (wdA 1) = true := fun q9 => c_69 ((wd_7 hi).mpr q9).2.2.1
            refine lv_aload_n hx hb dX5_itemHere_97 rfl (lv_at hl 1 rfl) ?_
            refine x_callV (As := []) (rest := []) ⟨hx, hb, hml, hown, hts⟩ (kX5_fails r ik ((nn : Nat) : Int) b0 b1 p.1 ((p.2.1 : Nat) : Int) ((p.2.2.1 : Nat) : Int) cv fa nn p ⟨rfl, rfl, rfl, hv_p⟩ hi) (cwV 0 hts gX5_itemHere_X5_fails rfl rfl rfl ykVX5_fails ⟨Nat.le_of_ble_eq_true rfl, Nat.le_of_ble_eq_true rfl⟩) hP hK hD hS 0 4 rfl rfl rfl [0] rfl (by decide) (fun _ => rfl) (fun _ => wRo r ik ((nn : Nat) : Int) (jk b0 b1 p.1 ((p.2.1 : Nat) : Int) ((p.2.2.1 : Nat) : Int) cv ((p.2.1 : Nat) : Int)) ++ (wA cI (r 1) 100 T ++ (wA cI (r 6) 120 TB))) (fun _ => rfl) rfl hl.1 rfl (Nat.le_of_ble_eq_true rfl) dX5_itemHere_98 ⟨Nat.le_of_ble_eq_true rfl, Nat.le_of_ble_eq_true rfl⟩ (fun _ H locs _ hP hD hS => ?_)
            refine W.eq (g2 := F0 m 101 ls [.int (iI 0)]) rfl ?_
            exact kend (p.1, ((p.2.1 : Nat) : Int), ((p.2.2.1 : Nat) : Int), cv, ((p.2.1 : Nat) : Int), T, false) hP hS rfl (rq_t (x := false) (by unfold itF; rw [if_neg c_27, if_neg h_nv, if_pos (by omega)]) ⟨rfl, rfl, rfl, hv_p⟩ (ok_f rfl)) (by decide) dX5_itemHere_101
          · refine lv_aload_n hx hb dX5_itemHere_72 rfl (lv_at hl 1 rfl) ?_
            refine x_iconst hx hb dX5_itemHere_73 ?_
            refine x_bipush hx hb dX5_itemHere_74 (by decide) ?_
            refine x_bipush hx hb dX5_itemHere_76 (by decide) ?_
            refine x_bipush hx hb dX5_itemHere_78 (by decide) ?_
            refine x_callV (As := [.int (iI 4), .int (iI 103), .int (iI 97), .int (iI 114)]) (rest := []) ⟨hx, hb, hml, hown, hts⟩ (kX5_has3 r ik ((nn : Nat) : Int) b0 b1 p.1 ((p.2.1 : Nat) : Int) ((p.2.2.1 : Nat) : Int) cv fa TB 4 103 97 114 nn p rfl hn9 hTB ⟨rfl, rfl, rfl, hv_p⟩ hi (by decide) (by decide) (by decide) (by decide)) (cwV 4 hts gX5_itemHere_X5_has3 rfl rfl rfl ykVX5_has3 ⟨Nat.le_of_ble_eq_true rfl, Nat.le_of_ble_eq_true rfl⟩) hP hK hD hS 0 4 rfl rfl rfl [0, 2] rfl (by decide) (fun _ => rfl) (fun _ => wRo r ik ((nn : Nat) : Int) (jk b0 b1 p.1 ((p.2.1 : Nat) : Int) ((p.2.2.1 : Nat) : Int) cv fa) ++ (wA cI (r 1) 100 T ++ (wA cI (r 6) 120 TB))) (fun _ => rfl) rfl hl.1 rfl (Nat.le_of_ble_eq_true rfl) dX5_itemHere_80 ⟨Nat.le_of_ble_eq_true rfl, Nat.le_of_ble_eq_true rfl⟩ (fun _ H locs _ hP hD hS => ?_)
            refine W.eq (g2 := F0 m 83 ls [.int (iI (b2 (decide (((byF TB nn (p.2.1 + 4) = 103 ∧ byF TB nn (p.2.1 + 4 + 1) = 97) ∧ byF TB nn (p.2.1 + 4 + 2) = 114)))))]) rfl ?_
            refine x_ifb_eq (tgt := 97) hx hb dX5_itemHere_83 (by decide) (fun c_83 => ?_) (fun c_83 => ?_)
            · have h_nv : ¬ wdB TB p (wdA 1) = true := fun q9 => c_83 ((wd_7 hi).mpr q9).2.2.2
              refine lv_aload_n hx hb dX5_itemHere_97 rfl (lv_at hl 1 rfl) ?_
              refine x_callV (As := []) (rest := []) ⟨hx, hb, hml, hown, hts⟩ (kX5_fails r ik ((nn : Nat) : Int) b0 b1 p.1 ((p.2.1 : Nat) : Int) ((p.2.2.1 : Nat) : Int) cv fa nn p ⟨rfl, rfl, rfl, hv_p⟩ hi) (cwV 0 hts gX5_itemHere_X5_fails rfl rfl rfl ykVX5_fails ⟨Nat.le_of_ble_eq_true rfl, Nat.le_of_ble_eq_true rfl⟩) hP hK hD hS 0 4 rfl rfl rfl [0] rfl (by decide) (fun _ => rfl) (fun _ => wRo r ik ((nn : Nat) : Int) (jk b0 b1 p.1 ((p.2.1 : Nat) : Int) ((p.2.2.1 : Nat) : Int) cv ((p.2.1 : Nat) : Int)) ++ (wA cI (r 1) 100 T ++ (wA cI (r 6) 120 TB))) (fun _ => rfl) rfl hl.1 rfl (Nat.le_of_ble_eq_true rfl) dX5_itemHere_98 ⟨Nat.le_of_ble_eq_true rfl, Nat.le_of_ble_eq_true rfl⟩ (fun _ H locs _ hP hD hS => ?_)
              refine W.eq (g2 := F0 m 101 ls [.int (iI 0)]) rfl ?_
              exact kend (p.1, ((p.2.1 : Nat) : Int), ((p.2.2.1 : Nat) : Int), cv, ((p.2.1 : Nat) : Int), T, false) hP hS rfl (rq_t (x := false) (by unfold itF; rw [if_neg c_27, if_neg h_nv, if_pos (by omega)]) ⟨rfl, rfl, rfl, hv_p⟩ (ok_f rfl)) (by decide) dX5_itemHere_101
            · have c_v : wdB TB p (wdA 1) = true := (wd_7 hi).mp ⟨c_41, c_55, c_69, c_83⟩
              have e_i : itF TB nn T p = pkF TB nn true 3 9 T p := by unfold itF; rw [if_neg c_27, if_pos c_v]
              refine lv_aload_n hx hb dX5_itemHere_86 rfl (lv_at hl 1 rfl) ?_
              refine x_iconst hx hb dX5_itemHere_87 ?_
              refine x_iconst hx hb dX5_itemHere_88 ?_
              refine x_bipush hx hb dX5_itemHere_89 (by decide) ?_
              refine x_callV (As := [.int (iI 1), .int (iI 3), .int (iI 9)]) (rest := []) ⟨hx, hb, hml, hown, hts⟩ (kX5_perhaps r ik ((nn : Nat) : Int) b0 b1 p.1 ((p.2.1 : Nat) : Int) ((p.2.2.1 : Nat) : Int) cv fa T TB 1 3 9 nn p true rfl hn9 hTB ⟨rfl, rfl, rfl, hv_p⟩ hi rfl (by decide) (by decide)) (cwV 3 hts gX5_itemHere_X5_perhaps rfl rfl rfl ykVX5_perhaps ⟨Nat.le_of_ble_eq_true rfl, Nat.le_of_ble_eq_true rfl⟩) hP hK hD hS 0 4 rfl rfl rfl [0, 1, 2] rfl (by decide) (fun _ => rfl) (fun u => wRo r ik ((nn : Nat) : Int) (jk b0 b1 u.1 u.2.1 u.2.2.1 u.2.2.2.1 u.2.2.2.2.1) ++ (wA cI (r 1) 100 u.2.2.2.2.2 ++ (wA cI (r 6) 120 TB))) (fun _ => rfl) rfl hl.1 rfl (Nat.le_of_ble_eq_true rfl) dX5_itemHere_91 ⟨Nat.le_of_ble_eq_true rfl, Nat.le_of_ble_eq_true rfl⟩ (fun u7 H locs hp8 hP hD hS => ?_)
              obtain ⟨a11, a22, a33, a44, fa15, T16⟩ := u7
              replace hp8 : rsR (pkF TB nn true 3 9 T p) a11 a22 a33 a44 fa15 T16 := hp8
              have hP : va_P D vwCl (wRo r ik ((nn : Nat) : Int) (jk b0 b1 a11 a22 a33 a44 fa15) ++ (wA cI (r 1) 100 T16 ++ (wA cI (r 6) 120 TB))) H := hP
              have hD : va_D A (wRo r ik ((nn : Nat) : Int) (jk b0 b1 a11 a22 a33 a44 fa15) ++ (wA cI (r 1) 100 T16 ++ (wA cI (r 6) 120 TB))) := hD
              refine W.eq (g2 := F0 m 94 ls [.int (iI (b2 (decide ((pkF TB nn true 3 9 T p).1 = true))))]) rfl ?_
              refine lv_goto (tgt := 101) hx hb dX5_itemHere_94 (by decide) ?_
              exact kend (a11, a22, a33, a44, fa15, T16, (pkF TB nn true 3 9 T p).1) hP hS (an_i rfl) (by rw [e_i]; exact rr_q hp8) (b2_01 _) dX5_itemHere_101
    · have c_27 : wdB TB p (wdA 0) = true := c_27
      have e_i : itF TB nn T p = liF TB nn T p := if_pos c_27
      refine lv_aload_n hx hb dX5_itemHere_30 rfl (lv_at hl 1 rfl) ?_
      refine x_callV (As := []) (rest := []) ⟨hx, hb, hml, hown, hts⟩ (kX5_listHere r ik ((nn : Nat) : Int) b0 b1 p.1 ((p.2.1 : Nat) : Int) ((p.2.2.1 : Nat) : Int) cv fa T TB nn p rfl hn9 hTB ⟨rfl, rfl, rfl, hv_p⟩ hi) (cwV 0 hts gX5_itemHere_X5_listHere rfl rfl rfl ykVX5_listHere ⟨Nat.le_of_ble_eq_true rfl, Nat.le_of_ble_eq_true rfl⟩) hP hK hD hS 0 4 rfl rfl rfl [0, 1, 2] rfl (by decide) (fun _ => rfl) (fun u => wRo r ik ((nn : Nat) : Int) (jk b0 b1 u.1 u.2.1 u.2.2.1 u.2.2.2.1 u.2.2.2.2.1) ++ (wA cI (r 1) 100 u.2.2.2.2.2 ++ (wA cI (r 6) 120 TB))) (fun _ => rfl) rfl hl.1 rfl (Nat.le_of_ble_eq_true rfl) dX5_itemHere_31 ⟨Nat.le_of_ble_eq_true rfl, Nat.le_of_ble_eq_true rfl⟩ (fun u15 H locs hp16 hP hD hS => ?_)
      obtain ⟨a19, a210, a311, a412, fa113, T114⟩ := u15
      replace hp16 : rsR (liF TB nn T p) a19 a210 a311 a412 fa113 T114 := hp16
      have hP : va_P D vwCl (wRo r ik ((nn : Nat) : Int) (jk b0 b1 a19 a210 a311 a412 fa113) ++ (wA cI (r 1) 100 T114 ++ (wA cI (r 6) 120 TB))) H := hP
      have hD : va_D A (wRo r ik ((nn : Nat) : Int) (jk b0 b1 a19 a210 a311 a412 fa113) ++ (wA cI (r 1) 100 T114 ++ (wA cI (r 6) 120 TB))) := hD
      refine W.eq (g2 := F0 m 34 ls [.int (iI (b2 (decide ((liF TB nn T p).1 = true))))]) rfl ?_
      exact kend (a19, a210, a311, a412, fa113, T114, (liF TB nn T p).1) hP hS (an_i rfl) (by rw [e_i]; exact rr_q hp16) (b2_01 _) dX5_itemHere_34
  · have hx9 := kd_x (TB := TB) (p := p) (by omega)
    have e_i : itF TB nn T p = spR TB nn (kdF TB p) T p := it_sp hx9.1 hx9.2 (by omega)
    refine lv_aload_n hx hb dX5_itemHere_9 rfl (lv_at hl 1 rfl) ?_
    refine lv_iload_n hx hb dX5_itemHere_10 rfl (lv_at hl 0 rfl) ?_
    refine x_callV (As := [.int (iI (kdF TB p))]) (rest := []) ⟨hx, hb, hml, hown, hts⟩ (kX5_speakerHere r ik ((nn : Nat) : Int) b0 b1 p.1 ((p.2.1 : Nat) : Int) ((p.2.2.1 : Nat) : Int) cv fa T TB (kdF TB p) nn p rfl hn9 hTB ⟨rfl, rfl, rfl, hv_p⟩ hi hT8 (by omega)) (cwV 1 hts gX5_itemHere_X5_speakerHere rfl rfl rfl ykVX5_speakerHere ⟨Nat.le_of_ble_eq_true rfl, Nat.le_of_ble_eq_true rfl⟩) hP hK hD hS 0 4 rfl rfl rfl [0, 1, 2] rfl (by decide) (fun _ => rfl) (fun u => wRo r ik ((nn : Nat) : Int) (jk b0 b1 u.1 u.2.1 u.2.2.1 u.2.2.2.1 u.2.2.2.2.1) ++ (wA cI (r 1) 100 u.2.2.2.2.2.1 ++ (wA cI (r 6) 120 TB))) (fun _ => rfl) rfl hl.1 rfl (Nat.le_of_ble_eq_true rfl) dX5_itemHere_11 ⟨Nat.le_of_ble_eq_true rfl, Nat.le_of_ble_eq_true rfl⟩ (fun u24 H locs hp25 hP hD hS => ?_)
    obtain ⟨a117, a218, a319, a420, fa121, T122, ok23⟩ := u24
    replace hp25 : rqP (spR TB nn (kdF TB p) T p) a117 a218 a319 a420 fa121 T122 ok23 := hp25
    have hP : va_P D vwCl (wRo r ik ((nn : Nat) : Int) (jk b0 b1 a117 a218 a319 a420 fa121) ++ (wA cI (r 1) 100 T122 ++ (wA cI (r 6) 120 TB))) H := hP
    have hD : va_D A (wRo r ik ((nn : Nat) : Int) (jk b0 b1 a117 a218 a319 a420 fa121) ++ (wA cI (r 1) 100 T122 ++ (wA cI (r 6) 120 TB))) := hD
    refine W.eq (g2 := F0 m 14 ls [.int (iI (b2 (decide (ok23 = true))))]) rfl ?_
    exact kend (a117, a218, a319, a420, fa121, T122, ok23) hP hS (an_i rfl) (by rw [e_i]; exact hp25) (b2_01 _) dX5_itemHere_14
