theorem kdF_e (TB : Nat → Int) (p : Tk) : kdF TB p = (if wdB TB p [115, 112, 101, 97, 107, 101, 114] = true then 0 else if wdB TB p [108, 97, 119, 121, 101, 114] = true then 1 else if wdB TB p [99, 104, 105, 108, 100] = true then 2 else if wdB TB p [115, 97, 105, 110, 116] = true then 3 else if wdB TB p [114, 101, 97, 100, 101, 114] = true then 4 else if wdB TB p [99, 111, 111, 107] = true then 5 else if wdB TB p [108, 105, 97, 114] = true then 6 else -1) := rfl
theorem ykSX5_kindHere : yX5_kindHere.cls ≠ "java/lang/invoke/MethodHandle" ∧ yX5_kindHere.cls ≠ "java/lang/invoke/VarHandle" ∧ (parseMethodDescriptor yX5_kindHere.desc).map (fun d => d.parameters.length) = some 0 := by decide +kernel
theorem ykVX5_kindHere : yX5_kindHere.cls = RX5 ∧ yX5_kindHere.cls ≠ "java/lang/invoke/MethodHandle" ∧ yX5_kindHere.cls ≠ "java/lang/invoke/VarHandle" ∧ (parseMethodDescriptor yX5_kindHere.desc).map (fun d => d.parameters.length) = some 0 := ⟨rfl, ykSX5_kindHere⟩
set_option maxHeartbeats 4000000 in
set_option maxRecDepth 100000 in
theorem kX5_kindHere {l : Launch} {D : va_G} {cI cB : ClassId} (r : Nat → Nat) (ik : Int) (tn : Int) (b0 : Int) (b1 : Int) (ct : Int) (cf : Int) (ce : Int) (cv : Int) (fa : Int) (TB : Nat → Int) (nn : Nat) (p : Tk) (hn : tn = ((nn : Nat) : Int)) (hn9 : nn ≤ 120) (hTB : ∀ i : Nat, i < 120 → 0 ≤ TB i ∧ TB i ≤ 255) (hp : tyR ct cf ce cv p) (hi : tkI nn p) : Ct l yX5_kindHere wsX5_kindHere 3 71 D [(cI, .int), (cB, .byte)] [.ref (r 0)] (wRo r ik tn (jk b0 b1 ct cf ce cv fa) ++ (wA cI (r 6) 120 TB)) (S := Unit) (fun _ => some (.int (iI (kdF TB p)))) (fun _ => True) (fun _ => wRo r ik tn (jk b0 b1 ct cf ce cv fa) ++ (wA cI (r 6) 120 TB)) := by
  refine CtI.of (cc := cX5_kindHere) (maxL := 1) (by decide +kernel) rfl (Nat.le_of_ble_eq_true rfl) ?_
  intro pg e s m args below meth c Q A hx hb hml hts hown hP hK hD hS ls hl kend
  have hown : s.vm.findClass RX5 = some m.cls := hown
  have hl : lv_has ls 1 [(0, .ref (r 0))] := hl
  subst hn
  obtain ⟨rfl, rfl, rfl, hv_p⟩ := hp
  refine lv_aload_n hx hb dX5_kindHere_0 rfl (lv_at hl 0 rfl) ?_
  refine x_bipush hx hb dX5_kindHere_1 (by decide) ?_
  refine x_callV (As := [.int (iI 7)]) (rest := []) ⟨hx, hb, hml, hown, hts⟩ (kX5_isWord r ik ((nn : Nat) : Int) b0 b1 p.1 ((p.2.1 : Nat) : Int) ((p.2.2.1 : Nat) : Int) cv fa 7 nn p ⟨rfl, rfl, rfl, hv_p⟩ hi (by decide) hn9) (cwV 1 hts gX5_kindHere_X5_isWord rfl rfl rfl ykVX5_isWord ⟨Nat.le_of_ble_eq_true rfl, Nat.le_of_ble_eq_true rfl⟩) hP hK hD hS 0 4 rfl rfl rfl [0] rfl (by decide) (fun _ => rfl) (fun _ => wRo r ik ((nn : Nat) : Int) (jk b0 b1 p.1 ((p.2.1 : Nat) : Int) ((p.2.2.1 : Nat) : Int) cv fa) ++ (wA cI (r 6) 120 TB)) (fun _ => rfl) rfl hl.1 rfl (Nat.le_of_ble_eq_true rfl) dX5_kindHere_3 ⟨Nat.le_of_ble_eq_true rfl, Nat.le_of_ble_eq_true rfl⟩ (fun _ H locs _ hP hD hS => ?_)
  refine W.eq (g2 := F0 m 6 ls [.int (iI (b2 (decide ((p.1 = 1 ∧ p.2.2.1 = p.2.1 + 7)))))]) rfl ?_
  refine x_ifb_eq (tgt := 53) hx hb dX5_kindHere_6 (by decide) (fun c_6 => ?_) (fun c_6 => ?_)
  · refine lv_aload_n hx hb dX5_kindHere_53 rfl (lv_at hl 0 rfl) ?_
    refine x_bipush hx hb dX5_kindHere_54 (by decide) ?_
    refine x_bipush hx hb dX5_kindHere_56 (by decide) ?_
    refine x_bipush hx hb dX5_kindHere_58 (by decide) ?_
    refine x_bipush hx hb dX5_kindHere_60 (by decide) ?_
    refine x_bipush hx hb dX5_kindHere_62 (by decide) ?_
    refine x_bipush hx hb dX5_kindHere_64 (by decide) ?_
    refine x_callV (As := [.int (iI 108), .int (iI 97), .int (iI 119), .int (iI 121), .int (iI 101), .int (iI 114)]) (rest := []) ⟨hx, hb, hml, hown, hts⟩ (kX5_isSix r ik ((nn : Nat) : Int) b0 b1 p.1 ((p.2.1 : Nat) : Int) ((p.2.2.1 : Nat) : Int) cv fa TB 108 97 119 121 101 114 nn p rfl hn9 hTB ⟨rfl, rfl, rfl, hv_p⟩ hi (by decide) (by decide) (by decide) (by decide) (by decide) (by decide)) (cwV 6 hts gX5_kindHere_X5_isSix rfl rfl rfl ykVX5_isSix ⟨Nat.le_of_ble_eq_true rfl, Nat.le_of_ble_eq_true rfl⟩) hP hK hD hS 0 4 rfl rfl rfl [0, 1] rfl (by decide) (fun _ => rfl) (fun _ => wRo r ik ((nn : Nat) : Int) (jk b0 b1 p.1 ((p.2.1 : Nat) : Int) ((p.2.2.1 : Nat) : Int) cv fa) ++ (wA cI (r 6) 120 TB)) (fun _ => rfl) rfl hl.1 rfl (Nat.le_of_ble_eq_true rfl) dX5_kindHere_66 ⟨Nat.le_of_ble_eq_true rfl, Nat.le_of_ble_eq_true rfl⟩ (fun _ H locs _ hP hD hS => ?_)
    refine W.eq (g2 := F0 m 69 ls [.int (iI (b2 (decide (wdB TB p [108, 97, 119, 121, 101, 114] = true))))]) rfl ?_
    refine x_ifb_eq (tgt := 74) hx hb dX5_kindHere_69 (by decide) (fun c_69 => ?_) (fun c_69 => ?_)
    · refine lv_aload_n hx hb dX5_kindHere_74 rfl (lv_at hl 0 rfl) ?_
      refine x_bipush hx hb dX5_kindHere_75 (by decide) ?_
      refine x_bipush hx hb dX5_kindHere_77 (by decide) ?_
      refine x_bipush hx hb dX5_kindHere_79 (by decide) ?_
      refine x_bipush hx hb dX5_kindHere_81 (by decide) ?_
      refine x_bipush hx hb dX5_kindHere_83 (by decide) ?_
      refine x_callV (As := [.int (iI 99), .int (iI 104), .int (iI 105), .int (iI 108), .int (iI 100)]) (rest := []) ⟨hx, hb, hml, hown, hts⟩ (kX5_isFive r ik ((nn : Nat) : Int) b0 b1 p.1 ((p.2.1 : Nat) : Int) ((p.2.2.1 : Nat) : Int) cv fa TB 99 104 105 108 100 nn p rfl hn9 hTB ⟨rfl, rfl, rfl, hv_p⟩ hi (by decide) (by decide) (by decide) (by decide) (by decide)) (cwV 5 hts gX5_kindHere_X5_isFive rfl rfl rfl ykVX5_isFive ⟨Nat.le_of_ble_eq_true rfl, Nat.le_of_ble_eq_true rfl⟩) hP hK hD hS 0 4 rfl rfl rfl [0, 1] rfl (by decide) (fun _ => rfl) (fun _ => wRo r ik ((nn : Nat) : Int) (jk b0 b1 p.1 ((p.2.1 : Nat) : Int) ((p.2.2.1 : Nat) : Int) cv fa) ++ (wA cI (r 6) 120 TB)) (fun _ => rfl) rfl hl.1 rfl (Nat.le_of_ble_eq_true rfl) dX5_kindHere_85 ⟨Nat.le_of_ble_eq_true rfl, Nat.le_of_ble_eq_true rfl⟩ (fun _ H locs _ hP hD hS => ?_)
      refine W.eq (g2 := F0 m 88 ls [.int (iI (b2 (decide (wdB TB p [99, 104, 105, 108, 100] = true))))]) rfl ?_
      refine x_ifb_eq (tgt := 93) hx hb dX5_kindHere_88 (by decide) (fun c_88 => ?_) (fun c_88 => ?_)
      · refine lv_aload_n hx hb dX5_kindHere_93 rfl (lv_at hl 0 rfl) ?_
        refine x_bipush hx hb dX5_kindHere_94 (by decide) ?_
        refine x_bipush hx hb dX5_kindHere_96 (by decide) ?_
        refine x_bipush hx hb dX5_kindHere_98 (by decide) ?_
        refine x_bipush hx hb dX5_kindHere_100 (by decide) ?_
        refine x_bipush hx hb dX5_kindHere_102 (by decide) ?_
        refine x_callV (As := [.int (iI 115), .int (iI 97), .int (iI 105), .int (iI 110), .int (iI 116)]) (rest := []) ⟨hx, hb, hml, hown, hts⟩ (kX5_isFive r ik ((nn : Nat) : Int) b0 b1 p.1 ((p.2.1 : Nat) : Int) ((p.2.2.1 : Nat) : Int) cv fa TB 115 97 105 110 116 nn p rfl hn9 hTB ⟨rfl, rfl, rfl, hv_p⟩ hi (by decide) (by decide) (by decide) (by decide) (by decide)) (cwV 5 hts gX5_kindHere_X5_isFive rfl rfl rfl ykVX5_isFive ⟨Nat.le_of_ble_eq_true rfl, Nat.le_of_ble_eq_true rfl⟩) hP hK hD hS 0 4 rfl rfl rfl [0, 1] rfl (by decide) (fun _ => rfl) (fun _ => wRo r ik ((nn : Nat) : Int) (jk b0 b1 p.1 ((p.2.1 : Nat) : Int) ((p.2.2.1 : Nat) : Int) cv fa) ++ (wA cI (r 6) 120 TB)) (fun _ => rfl) rfl hl.1 rfl (Nat.le_of_ble_eq_true rfl) dX5_kindHere_104 ⟨Nat.le_of_ble_eq_true rfl, Nat.le_of_ble_eq_true rfl⟩ (fun _ H locs _ hP hD hS => ?_)
        refine W.eq (g2 := F0 m 107 ls [.int (iI (b2 (decide (wdB TB p [115, 97, 105, 110, 116] = true))))]) rfl ?_
        refine x_ifb_eq (tgt := 112) hx hb dX5_kindHere_107 (by decide) (fun c_107 => ?_) (fun c_107 => ?_)
        · refine lv_aload_n hx hb dX5_kindHere_112 rfl (lv_at hl 0 rfl) ?_
          refine x_bipush hx hb dX5_kindHere_113 (by decide) ?_
          refine x_bipush hx hb dX5_kindHere_115 (by decide) ?_
          refine x_bipush hx hb dX5_kindHere_117 (by decide) ?_
          refine x_bipush hx hb dX5_kindHere_119 (by decide) ?_
          refine x_bipush hx hb dX5_kindHere_121 (by decide) ?_
          refine x_bipush hx hb dX5_kindHere_123 (by decide) ?_
          refine x_callV (As := [.int (iI 114), .int (iI 101), .int (iI 97), .int (iI 100), .int (iI 101), .int (iI 114)]) (rest := []) ⟨hx, hb, hml, hown, hts⟩ (kX5_isSix r ik ((nn : Nat) : Int) b0 b1 p.1 ((p.2.1 : Nat) : Int) ((p.2.2.1 : Nat) : Int) cv fa TB 114 101 97 100 101 114 nn p rfl hn9 hTB ⟨rfl, rfl, rfl, hv_p⟩ hi (by decide) (by decide) (by decide) (by decide) (by decide) (by decide)) (cwV 6 hts gX5_kindHere_X5_isSix rfl rfl rfl ykVX5_isSix ⟨Nat.le_of_ble_eq_true rfl, Nat.le_of_ble_eq_true rfl⟩) hP hK hD hS 0 4 rfl rfl rfl [0, 1] rfl (by decide) (fun _ => rfl) (fun _ => wRo r ik ((nn : Nat) : Int) (jk b0 b1 p.1 ((p.2.1 : Nat) : Int) ((p.2.2.1 : Nat) : Int) cv fa) ++ (wA cI (r 6) 120 TB)) (fun _ => rfl) rfl hl.1 rfl (Nat.le_of_ble_eq_true rfl) dX5_kindHere_125 ⟨Nat.le_of_ble_eq_true rfl, Nat.le_of_ble_eq_true rfl⟩ (fun _ H locs _ hP hD hS => ?_)
          refine W.eq (g2 := F0 m 128 ls [.int (iI (b2 (decide (wdB TB p [114, 101, 97, 100, 101, 114] = true))))]) rfl ?_
          refine x_ifb_eq (tgt := 133) hx hb dX5_kindHere_128 (by decide) (fun c_128 => ?_) (fun c_128 => ?_)
          · refine lv_aload_n hx hb dX5_kindHere_133 rfl (lv_at hl 0 rfl) ?_
            refine x_bipush hx hb dX5_kindHere_134 (by decide) ?_
            refine x_bipush hx hb dX5_kindHere_136 (by decide) ?_
            refine x_bipush hx hb dX5_kindHere_138 (by decide) ?_
            refine x_bipush hx hb dX5_kindHere_140 (by decide) ?_
            refine x_callV (As := [.int (iI 99), .int (iI 111), .int (iI 111), .int (iI 107)]) (rest := []) ⟨hx, hb, hml, hown, hts⟩ (kX5_isFour r ik ((nn : Nat) : Int) b0 b1 p.1 ((p.2.1 : Nat) : Int) ((p.2.2.1 : Nat) : Int) cv fa TB 99 111 111 107 nn p rfl hn9 hTB ⟨rfl, rfl, rfl, hv_p⟩ hi (by decide) (by decide) (by decide) (by decide)) (cwV 4 hts gX5_kindHere_X5_isFour rfl rfl rfl ykVX5_isFour ⟨Nat.le_of_ble_eq_true rfl, Nat.le_of_ble_eq_true rfl⟩) hP hK hD hS 0 4 rfl rfl rfl [0, 1] rfl (by decide) (fun _ => rfl) (fun _ => wRo r ik ((nn : Nat) : Int) (jk b0 b1 p.1 ((p.2.1 : Nat) : Int) ((p.2.2.1 : Nat) : Int) cv fa) ++ (wA cI (r 6) 120 TB)) (fun _ => rfl) rfl hl.1 rfl (Nat.le_of_ble_eq_true rfl) dX5_kindHere_142 ⟨Nat.le_of_ble_eq_true rfl, Nat.le_of_ble_eq_true rfl⟩ (fun _ H locs _ hP hD hS => ?_)
            refine W.eq (g2 := F0 m 145 ls [.int (iI (b2 (decide (wdB TB p [99, 111, 111, 107] = true))))]) rfl ?_
            refine x_ifb_eq (tgt := 150) hx hb dX5_kindHere_145 (by decide) (fun c_145 => ?_) (fun c_145 => ?_)
            · refine lv_aload_n hx hb dX5_kindHere_150 rfl (lv_at hl 0 rfl) ?_
              refine x_bipush hx hb dX5_kindHere_151 (by decide) ?_
              refine x_bipush hx hb dX5_kindHere_153 (by decide) ?_
              refine x_bipush hx hb dX5_kindHere_155 (by decide) ?_
              refine x_bipush hx hb dX5_kindHere_157 (by decide) ?_
              refine x_callV (As := [.int (iI 108), .int (iI 105), .int (iI 97), .int (iI 114)]) (rest := []) ⟨hx, hb, hml, hown, hts⟩ (kX5_isFour r ik ((nn : Nat) : Int) b0 b1 p.1 ((p.2.1 : Nat) : Int) ((p.2.2.1 : Nat) : Int) cv fa TB 108 105 97 114 nn p rfl hn9 hTB ⟨rfl, rfl, rfl, hv_p⟩ hi (by decide) (by decide) (by decide) (by decide)) (cwV 4 hts gX5_kindHere_X5_isFour rfl rfl rfl ykVX5_isFour ⟨Nat.le_of_ble_eq_true rfl, Nat.le_of_ble_eq_true rfl⟩) hP hK hD hS 0 4 rfl rfl rfl [0, 1] rfl (by decide) (fun _ => rfl) (fun _ => wRo r ik ((nn : Nat) : Int) (jk b0 b1 p.1 ((p.2.1 : Nat) : Int) ((p.2.2.1 : Nat) : Int) cv fa) ++ (wA cI (r 6) 120 TB)) (fun _ => rfl) rfl hl.1 rfl (Nat.le_of_ble_eq_true rfl) dX5_kindHere_159 ⟨Nat.le_of_ble_eq_true rfl, Nat.le_of_ble_eq_true rfl⟩ (fun _ H locs _ hP hD hS => ?_)
              refine W.eq (g2 := F0 m 162 ls [.int (iI (b2 (decide (wdB TB p [108, 105, 97, 114] = true))))]) rfl ?_
              refine x_ifb_eq (tgt := 170) hx hb dX5_kindHere_162 (by decide) (fun c_162 => ?_) (fun c_162 => ?_)
              · refine x_iconst hx hb dX5_kindHere_170 ?_
                exact kend () hP hS (an_i (by rw [kdF_e, if_neg (fun q9 => c_6 ((wd_7 hi).mpr q9).1), if_neg c_69, if_neg c_88, if_neg c_107, if_neg c_128, if_neg c_145, if_neg c_162])) trivial dX5_kindHere_171
              · refine x_bipush hx hb dX5_kindHere_165 (by decide) ?_
                refine lv_goto (tgt := 171) hx hb dX5_kindHere_167 (by decide) ?_
                exact kend () hP hS (an_i (by rw [kdF_e, if_neg (fun q9 => c_6 ((wd_7 hi).mpr q9).1), if_neg c_69, if_neg c_88, if_neg c_107, if_neg c_128, if_neg c_145, if_pos c_162])) trivial dX5_kindHere_171
            · refine x_iconst hx hb dX5_kindHere_148 ?_
              exact kend () hP hS (an_i (by rw [kdF_e, if_neg (fun q9 => c_6 ((wd_7 hi).mpr q9).1), if_neg c_69, if_neg c_88, if_neg c_107, if_neg c_128, if_pos c_145])) trivial dX5_kindHere_149
          · refine x_iconst hx hb dX5_kindHere_131 ?_
            exact kend () hP hS (an_i (by rw [kdF_e, if_neg (fun q9 => c_6 ((wd_7 hi).mpr q9).1), if_neg c_69, if_neg c_88, if_neg c_107, if_pos c_128])) trivial dX5_kindHere_132
        · refine x_iconst hx hb dX5_kindHere_110 ?_
          exact kend () hP hS (an_i (by rw [kdF_e, if_neg (fun q9 => c_6 ((wd_7 hi).mpr q9).1), if_neg c_69, if_neg c_88, if_pos c_107])) trivial dX5_kindHere_111
      · refine x_iconst hx hb dX5_kindHere_91 ?_
        exact kend () hP hS (an_i (by rw [kdF_e, if_neg (fun q9 => c_6 ((wd_7 hi).mpr q9).1), if_neg c_69, if_pos c_88])) trivial dX5_kindHere_92
    · refine x_iconst hx hb dX5_kindHere_72 ?_
      exact kend () hP hS (an_i (by rw [kdF_e, if_neg (fun q9 => c_6 ((wd_7 hi).mpr q9).1), if_pos c_69])) trivial dX5_kindHere_73
  · refine lv_aload_n hx hb dX5_kindHere_9 rfl (lv_at hl 0 rfl) ?_
    refine x_iconst hx hb dX5_kindHere_10 ?_
    refine x_bipush hx hb dX5_kindHere_11 (by decide) ?_
    refine x_bipush hx hb dX5_kindHere_13 (by decide) ?_
    refine x_bipush hx hb dX5_kindHere_15 (by decide) ?_
    refine x_callV (As := [.int (iI 0), .int (iI 115), .int (iI 112), .int (iI 101)]) (rest := []) ⟨hx, hb, hml, hown, hts⟩ (kX5_has3 r ik ((nn : Nat) : Int) b0 b1 p.1 ((p.2.1 : Nat) : Int) ((p.2.2.1 : Nat) : Int) cv fa TB 0 115 112 101 nn p rfl hn9 hTB ⟨rfl, rfl, rfl, hv_p⟩ hi (by decide) (by decide) (by decide) (by decide)) (cwV 4 hts gX5_kindHere_X5_has3 rfl rfl rfl ykVX5_has3 ⟨Nat.le_of_ble_eq_true rfl, Nat.le_of_ble_eq_true rfl⟩) hP hK hD hS 0 4 rfl rfl rfl [0, 1] rfl (by decide) (fun _ => rfl) (fun _ => wRo r ik ((nn : Nat) : Int) (jk b0 b1 p.1 ((p.2.1 : Nat) : Int) ((p.2.2.1 : Nat) : Int) cv fa) ++ (wA cI (r 6) 120 TB)) (fun _ => rfl) rfl hl.1 rfl (Nat.le_of_ble_eq_true rfl) dX5_kindHere_17 ⟨Nat.le_of_ble_eq_true rfl, Nat.le_of_ble_eq_true rfl⟩ (fun _ H locs _ hP hD hS => ?_)
    refine W.eq (g2 := F0 m 20 ls [.int (iI (b2 (decide (((byF TB nn (p.2.1 + 0) = 115 ∧ byF TB nn (p.2.1 + 0 + 1) = 112) ∧ byF TB nn (p.2.1 + 0 + 2) = 101)))))]) rfl ?_
    refine x_ifb_eq (tgt := 53) hx hb dX5_kindHere_20 (by decide) (fun c_20 => ?_) (fun c_20 => ?_)
    · refine lv_aload_n hx hb dX5_kindHere_53 rfl (lv_at hl 0 rfl) ?_
      refine x_bipush hx hb dX5_kindHere_54 (by decide) ?_
      refine x_bipush hx hb dX5_kindHere_56 (by decide) ?_
      refine x_bipush hx hb dX5_kindHere_58 (by decide) ?_
      refine x_bipush hx hb dX5_kindHere_60 (by decide) ?_
      refine x_bipush hx hb dX5_kindHere_62 (by decide) ?_
      refine x_bipush hx hb dX5_kindHere_64 (by decide) ?_
      refine x_callV (As := [.int (iI 108), .int (iI 97), .int (iI 119), .int (iI 121), .int (iI 101), .int (iI 114)]) (rest := []) ⟨hx, hb, hml, hown, hts⟩ (kX5_isSix r ik ((nn : Nat) : Int) b0 b1 p.1 ((p.2.1 : Nat) : Int) ((p.2.2.1 : Nat) : Int) cv fa TB 108 97 119 121 101 114 nn p rfl hn9 hTB ⟨rfl, rfl, rfl, hv_p⟩ hi (by decide) (by decide) (by decide) (by decide) (by decide) (by decide)) (cwV 6 hts gX5_kindHere_X5_isSix rfl rfl rfl ykVX5_isSix ⟨Nat.le_of_ble_eq_true rfl, Nat.le_of_ble_eq_true rfl⟩) hP hK hD hS 0 4 rfl rfl rfl [0, 1] rfl (by decide) (fun _ => rfl) (fun _ => wRo r ik ((nn : Nat) : Int) (jk b0 b1 p.1 ((p.2.1 : Nat) : Int) ((p.2.2.1 : Nat) : Int) cv fa) ++ (wA cI (r 6) 120 TB)) (fun _ => rfl) rfl hl.1 rfl (Nat.le_of_ble_eq_true rfl) dX5_kindHere_66 ⟨Nat.le_of_ble_eq_true rfl, Nat.le_of_ble_eq_true rfl⟩ (fun _ H locs _ hP hD hS => ?_)
      refine W.eq (g2 := F0 m 69 ls [.int (iI (b2 (decide (wdB TB p [108, 97, 119, 121, 101, 114] = true))))]) rfl ?_
      refine x_ifb_eq (tgt := 74) hx hb dX5_kindHere_69 (by decide) (fun c_69 => ?_) (fun c_69 => ?_)
      · refine lv_aload_n hx hb dX5_kindHere_74 rfl (lv_at hl 0 rfl) ?_
        refine x_bipush hx hb dX5_kindHere_75 (by decide) ?_
        refine x_bipush hx hb dX5_kindHere_77 (by decide) ?_
        refine x_bipush hx hb dX5_kindHere_79 (by decide) ?_
        refine x_bipush hx hb dX5_kindHere_81 (by decide) ?_
        refine x_bipush hx hb dX5_kindHere_83 (by decide) ?_
        refine x_callV (As := [.int (iI 99), .int (iI 104), .int (iI 105), .int (iI 108), .int (iI 100)]) (rest := []) ⟨hx, hb, hml, hown, hts⟩ (kX5_isFive r ik ((nn : Nat) : Int) b0 b1 p.1 ((p.2.1 : Nat) : Int) ((p.2.2.1 : Nat) : Int) cv fa TB 99 104 105 108 100 nn p rfl hn9 hTB ⟨rfl, rfl, rfl, hv_p⟩ hi (by decide) (by decide) (by decide) (by decide) (by decide)) (cwV 5 hts gX5_kindHere_X5_isFive rfl rfl rfl ykVX5_isFive ⟨Nat.le_of_ble_eq_true rfl, Nat.le_of_ble_eq_true rfl⟩) hP hK hD hS 0 4 rfl rfl rfl [0, 1] rfl (by decide) (fun _ => rfl) (fun _ => wRo r ik ((nn : Nat) : Int) (jk b0 b1 p.1 ((p.2.1 : Nat) : Int) ((p.2.2.1 : Nat) : Int) cv fa) ++ (wA cI (r 6) 120 TB)) (fun _ => rfl) rfl hl.1 rfl (Nat.le_of_ble_eq_true rfl) dX5_kindHere_85 ⟨Nat.le_of_ble_eq_true rfl, Nat.le_of_ble_eq_true rfl⟩ (fun _ H locs _ hP hD hS => ?_)
        refine W.eq (g2 := F0 m 88 ls [.int (iI (b2 (decide (wdB TB p [99, 104, 105, 108, 100] = true))))]) rfl ?_
        refine x_ifb_eq (tgt := 93) hx hb dX5_kindHere_88 (by decide) (fun c_88 => ?_) (fun c_88 => ?_)
        · refine lv_aload_n hx hb dX5_kindHere_93 rfl (lv_at hl 0 rfl) ?_
          refine x_bipush hx hb dX5_kindHere_94 (by decide) ?_
          refine x_bipush hx hb dX5_kindHere_96 (by decide) ?_
          refine x_bipush hx hb dX5_kindHere_98 (by decide) ?_
          refine x_bipush hx hb dX5_kindHere_100 (by decide) ?_
          refine x_bipush hx hb dX5_kindHere_102 (by decide) ?_
          refine x_callV (As := [.int (iI 115), .int (iI 97), .int (iI 105), .int (iI 110), .int (iI 116)]) (rest := []) ⟨hx, hb, hml, hown, hts⟩ (kX5_isFive r ik ((nn : Nat) : Int) b0 b1 p.1 ((p.2.1 : Nat) : Int) ((p.2.2.1 : Nat) : Int) cv fa TB 115 97 105 110 116 nn p rfl hn9 hTB ⟨rfl, rfl, rfl, hv_p⟩ hi (by decide) (by decide) (by decide) (by decide) (by decide)) (cwV 5 hts gX5_kindHere_X5_isFive rfl rfl rfl ykVX5_isFive ⟨Nat.le_of_ble_eq_true rfl, Nat.le_of_ble_eq_true rfl⟩) hP hK hD hS 0 4 rfl rfl rfl [0, 1] rfl (by decide) (fun _ => rfl) (fun _ => wRo r ik ((nn : Nat) : Int) (jk b0 b1 p.1 ((p.2.1 : Nat) : Int) ((p.2.2.1 : Nat) : Int) cv fa) ++ (wA cI (r 6) 120 TB)) (fun _ => rfl) rfl hl.1 rfl (Nat.le_of_ble_eq_true rfl) dX5_kindHere_104 ⟨Nat.le_of_ble_eq_true rfl, Nat.le_of_ble_eq_true rfl⟩ (fun _ H locs _ hP hD hS => ?_)
          refine W.eq (g2 := F0 m 107 ls [.int (iI (b2 (decide (wdB TB p [115, 97, 105, 110, 116] = true))))]) rfl ?_
          refine x_ifb_eq (tgt := 112) hx hb dX5_kindHere_107 (by decide) (fun c_107 => ?_) (fun c_107 => ?_)
          · refine lv_aload_n hx hb dX5_kindHere_112 rfl (lv_at hl 0 rfl) ?_
            refine x_bipush hx hb dX5_kindHere_113 (by decide) ?_
            refine x_bipush hx hb dX5_kindHere_115 (by decide) ?_
            refine x_bipush hx hb dX5_kindHere_117 (by decide) ?_
            refine x_bipush hx hb dX5_kindHere_119 (by decide) ?_
            refine x_bipush hx hb dX5_kindHere_121 (by decide) ?_
            refine x_bipush hx hb dX5_kindHere_123 (by decide) ?_
            refine x_callV (As := [.int (iI 114), .int (iI 101), .int (iI 97), .int (iI 100), .int (iI 101), .int (iI 114)]) (rest := []) ⟨hx, hb, hml, hown, hts⟩ (kX5_isSix r ik ((nn : Nat) : Int) b0 b1 p.1 ((p.2.1 : Nat) : Int) ((p.2.2.1 : Nat) : Int) cv fa TB 114 101 97 100 101 114 nn p rfl hn9 hTB ⟨rfl, rfl, rfl, hv_p⟩ hi (by decide) (by decide) (by decide) (by decide) (by decide) (by decide)) (cwV 6 hts gX5_kindHere_X5_isSix rfl rfl rfl ykVX5_isSix ⟨Nat.le_of_ble_eq_true rfl, Nat.le_of_ble_eq_true rfl⟩) hP hK hD hS 0 4 rfl rfl rfl [0, 1] rfl (by decide) (fun _ => rfl) (fun _ => wRo r ik ((nn : Nat) : Int) (jk b0 b1 p.1 ((p.2.1 : Nat) : Int) ((p.2.2.1 : Nat) : Int) cv fa) ++ (wA cI (r 6) 120 TB)) (fun _ => rfl) rfl hl.1 rfl (Nat.le_of_ble_eq_true rfl) dX5_kindHere_125 ⟨Nat.le_of_ble_eq_true rfl, Nat.le_of_ble_eq_true rfl⟩ (fun _ H locs _ hP hD hS => ?_)
            refine W.eq (g2 := F0 m 128 ls [.int (iI (b2 (decide (wdB TB p [114, 101, 97, 100, 101, 114] = true))))]) rfl ?_
            refine x_ifb_eq (tgt := 133) hx hb dX5_kindHere_128 (by decide) (fun c_128 => ?_) (fun c_128 => ?_)
            · refine lv_aload_n hx hb dX5_kindHere_133 rfl (lv_at hl 0 rfl) ?_
              refine x_bipush hx hb dX5_kindHere_134 (by decide) ?_
              refine x_bipush hx hb dX5_kindHere_136 (by decide) ?_
              refine x_bipush hx hb dX5_kindHere_138 (by decide) ?_
              refine x_bipush hx hb dX5_kindHere_140 (by decide) ?_
              refine x_callV (As := [.int (iI 99), .int (iI 111), .int (iI 111), .int (iI 107)]) (rest := []) ⟨hx, hb, hml, hown, hts⟩ (kX5_isFour r ik ((nn : Nat) : Int) b0 b1 p.1 ((p.2.1 : Nat) : Int) ((p.2.2.1 : Nat) : Int) cv fa TB 99 111 111 107 nn p rfl hn9 hTB ⟨rfl, rfl, rfl, hv_p⟩ hi (by decide) (by decide) (by decide) (by decide)) (cwV 4 hts gX5_kindHere_X5_isFour rfl rfl rfl ykVX5_isFour ⟨Nat.le_of_ble_eq_true rfl, Nat.le_of_ble_eq_true rfl⟩) hP hK hD hS 0 4 rfl rfl rfl [0, 1] rfl (by decide) (fun _ => rfl) (fun _ => wRo r ik ((nn : Nat) : Int) (jk b0 b1 p.1 ((p.2.1 : Nat) : Int) ((p.2.2.1 : Nat) : Int) cv fa) ++ (wA cI (r 6) 120 TB)) (fun _ => rfl) rfl hl.1 rfl (Nat.le_of_ble_eq_true rfl) dX5_kindHere_142 ⟨Nat.le_of_ble_eq_true rfl, Nat.le_of_ble_eq_true rfl⟩ (fun _ H locs _ hP hD hS => ?_)
              refine W.eq (g2 := F0 m 145 ls [.int (iI (b2 (decide (wdB TB p [99, 111, 111, 107] = true))))]) rfl ?_
              refine x_ifb_eq (tgt := 150) hx hb dX5_kindHere_145 (by decide) (fun c_145 => ?_) (fun c_145 => ?_)
              · refine lv_aload_n hx hb dX5_kindHere_150 rfl (lv_at hl 0 rfl) ?_
                refine x_bipush hx hb dX5_kindHere_151 (by decide) ?_
                refine x_bipush hx hb dX5_kindHere_153 (by decide) ?_
                refine x_bipush hx hb dX5_kindHere_155 (by decide) ?_
                refine x_bipush hx hb dX5_kindHere_157 (by decide) ?_
                refine x_callV (As := [.int (iI 108), .int (iI 105), .int (iI 97), .int (iI 114)]) (rest := []) ⟨hx, hb, hml, hown, hts⟩ (kX5_isFour r ik ((nn : Nat) : Int) b0 b1 p.1 ((p.2.1 : Nat) : Int) ((p.2.2.1 : Nat) : Int) cv fa TB 108 105 97 114 nn p rfl hn9 hTB ⟨rfl, rfl, rfl, hv_p⟩ hi (by decide) (by decide) (by decide) (by decide)) (cwV 4 hts gX5_kindHere_X5_isFour rfl rfl rfl ykVX5_isFour ⟨Nat.le_of_ble_eq_true rfl, Nat.le_of_ble_eq_true rfl⟩) hP hK hD hS 0 4 rfl rfl rfl [0, 1] rfl (by decide) (fun _ => rfl) (fun _ => wRo r ik ((nn : Nat) : Int) (jk b0 b1 p.1 ((p.2.1 : Nat) : Int) ((p.2.2.1 : Nat) : Int) cv fa) ++ (wA cI (r 6) 120 TB)) (fun _ => rfl) rfl hl.1 rfl (Nat.le_of_ble_eq_true rfl) dX5_kindHere_159 ⟨Nat.le_of_ble_eq_true rfl, Nat.le_of_ble_eq_true rfl⟩ (fun _ H locs _ hP hD hS => ?_)
                refine W.eq (g2 := F0 m 162 ls [.int (iI (b2 (decide (wdB TB p [108, 105, 97, 114] = true))))]) rfl ?_
                refine x_ifb_eq (tgt := 170) hx hb dX5_kindHere_162 (by decide) (fun c_162 => ?_) (fun c_162 => ?_)
                · refine x_iconst hx hb dX5_kindHere_170 ?_
                  exact kend () hP hS (an_i (by rw [kdF_e, if_neg (fun q9 => c_20 ((wd_7 hi).mpr q9).2.1), if_neg c_69, if_neg c_88, if_neg c_107, if_neg c_128, if_neg c_145, if_neg c_162])) trivial dX5_kindHere_171
                · refine x_bipush hx hb dX5_kindHere_165 (by decide) ?_
                  refine lv_goto (tgt := 171) hx hb dX5_kindHere_167 (by decide) ?_
                  exact kend () hP hS (an_i (by rw [kdF_e, if_neg (fun q9 => c_20 ((wd_7 hi).mpr q9).2.1), if_neg c_69, if_neg c_88, if_neg c_107, if_neg c_128, if_neg c_145, if_pos c_162])) trivial dX5_kindHere_171
              · refine x_iconst hx hb dX5_kindHere_148 ?_
                exact kend () hP hS (an_i (by rw [kdF_e, if_neg (fun q9 => c_20 ((wd_7 hi).mpr q9).2.1), if_neg c_69, if_neg c_88, if_neg c_107, if_neg c_128, if_pos c_145])) trivial dX5_kindHere_149
            · refine x_iconst hx hb dX5_kindHere_131 ?_
              exact kend () hP hS (an_i (by rw [kdF_e, if_neg (fun q9 => c_20 ((wd_7 hi).mpr q9).2.1), if_neg c_69, if_neg c_88, if_neg c_107, if_pos c_128])) trivial dX5_kindHere_132
          · refine x_iconst hx hb dX5_kindHere_110 ?_
            exact kend () hP hS (an_i (by rw [kdF_e, if_neg (fun q9 => c_20 ((wd_7 hi).mpr q9).2.1), if_neg c_69, if_neg c_88, if_pos c_107])) trivial dX5_kindHere_111
        · refine x_iconst hx hb dX5_kindHere_91 ?_
          exact kend () hP hS (an_i (by rw [kdF_e, if_neg (fun q9 => c_20 ((wd_7 hi).mpr q9).2.1), if_neg c_69, if_pos c_88])) trivial dX5_kindHere_92
      · refine x_iconst hx hb dX5_kindHere_72 ?_
        exact kend () hP hS (an_i (by rw [kdF_e, if_neg (fun q9 => c_20 ((wd_7 hi).mpr q9).2.1), if_pos c_69])) trivial dX5_kindHere_73
    · refine lv_aload_n hx hb dX5_kindHere_23 rfl (lv_at hl 0 rfl) ?_
      refine x_iconst hx hb dX5_kindHere_24 ?_
      refine x_bipush hx hb dX5_kindHere_25 (by decide) ?_
      refine x_bipush hx hb dX5_kindHere_27 (by decide) ?_
      refine x_bipush hx hb dX5_kindHere_29 (by decide) ?_
      refine x_callV (As := [.int (iI 3), .int (iI 97), .int (iI 107), .int (iI 101)]) (rest := []) ⟨hx, hb, hml, hown, hts⟩ (kX5_has3 r ik ((nn : Nat) : Int) b0 b1 p.1 ((p.2.1 : Nat) : Int) ((p.2.2.1 : Nat) : Int) cv fa TB 3 97 107 101 nn p rfl hn9 hTB ⟨rfl, rfl, rfl, hv_p⟩ hi (by decide) (by decide) (by decide) (by decide)) (cwV 4 hts gX5_kindHere_X5_has3 rfl rfl rfl ykVX5_has3 ⟨Nat.le_of_ble_eq_true rfl, Nat.le_of_ble_eq_true rfl⟩) hP hK hD hS 0 4 rfl rfl rfl [0, 1] rfl (by decide) (fun _ => rfl) (fun _ => wRo r ik ((nn : Nat) : Int) (jk b0 b1 p.1 ((p.2.1 : Nat) : Int) ((p.2.2.1 : Nat) : Int) cv fa) ++ (wA cI (r 6) 120 TB)) (fun _ => rfl) rfl hl.1 rfl (Nat.le_of_ble_eq_true rfl) dX5_kindHere_31 ⟨Nat.le_of_ble_eq_true rfl, Nat.le_of_ble_eq_true rfl⟩ (fun _ H locs _ hP hD hS => ?_)
      refine W.eq (g2 := F0 m 34 ls [.int (iI (b2 (decide (((byF TB nn (p.2.1 + 3) = 97 ∧ byF TB nn (p.2.1 + 3 + 1) = 107) ∧ byF TB nn (p.2.1 + 3 + 2) = 101)))))]) rfl ?_
      refine x_ifb_eq (tgt := 53) hx hb dX5_kindHere_34 (by decide) (fun c_34 => ?_) (fun c_34 => ?_)
      · refine lv_aload_n hx hb dX5_kindHere_53 rfl (lv_at hl 0 rfl) ?_
        refine x_bipush hx hb dX5_kindHere_54 (by decide) ?_
        refine x_bipush hx hb dX5_kindHere_56 (by decide) ?_
        refine x_bipush hx hb dX5_kindHere_58 (by decide) ?_
        refine x_bipush hx hb dX5_kindHere_60 (by decide) ?_
        refine x_bipush hx hb dX5_kindHere_62 (by decide) ?_
        refine x_bipush hx hb dX5_kindHere_64 (by decide) ?_
        refine x_callV (As := [.int (iI 108), .int (iI 97), .int (iI 119), .int (iI 121), .int (iI 101), .int (iI 114)]) (rest := []) ⟨hx, hb, hml, hown, hts⟩ (kX5_isSix r ik ((nn : Nat) : Int) b0 b1 p.1 ((p.2.1 : Nat) : Int) ((p.2.2.1 : Nat) : Int) cv fa TB 108 97 119 121 101 114 nn p rfl hn9 hTB ⟨rfl, rfl, rfl, hv_p⟩ hi (by decide) (by decide) (by decide) (by decide) (by decide) (by decide)) (cwV 6 hts gX5_kindHere_X5_isSix rfl rfl rfl ykVX5_isSix ⟨Nat.le_of_ble_eq_true rfl, Nat.le_of_ble_eq_true rfl⟩) hP hK hD hS 0 4 rfl rfl rfl [0, 1] rfl (by decide) (fun _ => rfl) (fun _ => wRo r ik ((nn : Nat) : Int) (jk b0 b1 p.1 ((p.2.1 : Nat) : Int) ((p.2.2.1 : Nat) : Int) cv fa) ++ (wA cI (r 6) 120 TB)) (fun _ => rfl) rfl hl.1 rfl (Nat.le_of_ble_eq_true rfl) dX5_kindHere_66 ⟨Nat.le_of_ble_eq_true rfl, Nat.le_of_ble_eq_true rfl⟩ (fun _ H locs _ hP hD hS => ?_)
        refine W.eq (g2 := F0 m 69 ls [.int (iI (b2 (decide (wdB TB p [108, 97, 119, 121, 101, 114] = true))))]) rfl ?_
        refine x_ifb_eq (tgt := 74) hx hb dX5_kindHere_69 (by decide) (fun c_69 => ?_) (fun c_69 => ?_)
        · refine lv_aload_n hx hb dX5_kindHere_74 rfl (lv_at hl 0 rfl) ?_
          refine x_bipush hx hb dX5_kindHere_75 (by decide) ?_
          refine x_bipush hx hb dX5_kindHere_77 (by decide) ?_
          refine x_bipush hx hb dX5_kindHere_79 (by decide) ?_
          refine x_bipush hx hb dX5_kindHere_81 (by decide) ?_
          refine x_bipush hx hb dX5_kindHere_83 (by decide) ?_
          refine x_callV (As := [.int (iI 99), .int (iI 104), .int (iI 105), .int (iI 108), .int (iI 100)]) (rest := []) ⟨hx, hb, hml, hown, hts⟩ (kX5_isFive r ik ((nn : Nat) : Int) b0 b1 p.1 ((p.2.1 : Nat) : Int) ((p.2.2.1 : Nat) : Int) cv fa TB 99 104 105 108 100 nn p rfl hn9 hTB ⟨rfl, rfl, rfl, hv_p⟩ hi (by decide) (by decide) (by decide) (by decide) (by decide)) (cwV 5 hts gX5_kindHere_X5_isFive rfl rfl rfl ykVX5_isFive ⟨Nat.le_of_ble_eq_true rfl, Nat.le_of_ble_eq_true rfl⟩) hP hK hD hS 0 4 rfl rfl rfl [0, 1] rfl (by decide) (fun _ => rfl) (fun _ => wRo r ik ((nn : Nat) : Int) (jk b0 b1 p.1 ((p.2.1 : Nat) : Int) ((p.2.2.1 : Nat) : Int) cv fa) ++ (wA cI (r 6) 120 TB)) (fun _ => rfl) rfl hl.1 rfl (Nat.le_of_ble_eq_true rfl) dX5_kindHere_85 ⟨Nat.le_of_ble_eq_true rfl, Nat.le_of_ble_eq_true rfl⟩ (fun _ H locs _ hP hD hS => ?_)
          refine W.eq (g2 := F0 m 88 ls [.int (iI (b2 (decide (wdB TB p [99, 104, 105, 108, 100] = true))))]) rfl ?_
          refine x_ifb_eq (tgt := 93) hx hb dX5_kindHere_88 (by decide) (fun c_88 => ?_) (fun c_88 => ?_)
          · refine lv_aload_n hx hb dX5_kindHere_93 rfl (lv_at hl 0 rfl) ?_
            refine x_bipush hx hb dX5_kindHere_94 (by decide) ?_
            refine x_bipush hx hb dX5_kindHere_96 (by decide) ?_
            refine x_bipush hx hb dX5_kindHere_98 (by decide) ?_
            refine x_bipush hx hb dX5_kindHere_100 (by decide) ?_
            refine x_bipush hx hb dX5_kindHere_102 (by decide) ?_
            refine x_callV (As := [.int (iI 115), .int (iI 97), .int (iI 105), .int (iI 110), .int (iI 116)]) (rest := []) ⟨hx, hb, hml, hown, hts⟩ (kX5_isFive r ik ((nn : Nat) : Int) b0 b1 p.1 ((p.2.1 : Nat) : Int) ((p.2.2.1 : Nat) : Int) cv fa TB 115 97 105 110 116 nn p rfl hn9 hTB ⟨rfl, rfl, rfl, hv_p⟩ hi (by decide) (by decide) (by decide) (by decide) (by decide)) (cwV 5 hts gX5_kindHere_X5_isFive rfl rfl rfl ykVX5_isFive ⟨Nat.le_of_ble_eq_true rfl, Nat.le_of_ble_eq_true rfl⟩) hP hK hD hS 0 4 rfl rfl rfl [0, 1] rfl (by decide) (fun _ => rfl) (fun _ => wRo r ik ((nn : Nat) : Int) (jk b0 b1 p.1 ((p.2.1 : Nat) : Int) ((p.2.2.1 : Nat) : Int) cv fa) ++ (wA cI (r 6) 120 TB)) (fun _ => rfl) rfl hl.1 rfl (Nat.le_of_ble_eq_true rfl) dX5_kindHere_104 ⟨Nat.le_of_ble_eq_true rfl, Nat.le_of_ble_eq_true rfl⟩ (fun _ H locs _ hP hD hS => ?_)
            refine W.eq (g2 := F0 m 107 ls [.int (iI (b2 (decide (wdB TB p [115, 97, 105, 110, 116] = true))))]) rfl ?_
            refine x_ifb_eq (tgt := 112) hx hb dX5_kindHere_107 (by decide) (fun c_107 => ?_) (fun c_107 => ?_)
            · refine lv_aload_n hx hb dX5_kindHere_112 rfl (lv_at hl 0 rfl) ?_
              refine x_bipush hx hb dX5_kindHere_113 (by decide) ?_
              refine x_bipush hx hb dX5_kindHere_115 (by decide) ?_
              refine x_bipush hx hb dX5_kindHere_117 (by decide) ?_
              refine x_bipush hx hb dX5_kindHere_119 (by decide) ?_
              refine x_bipush hx hb dX5_kindHere_121 (by decide) ?_
              refine x_bipush hx hb dX5_kindHere_123 (by decide) ?_
              refine x_callV (As := [.int (iI 114), .int (iI 101), .int (iI 97), .int (iI 100), .int (iI 101), .int (iI 114)]) (rest := []) ⟨hx, hb, hml, hown, hts⟩ (kX5_isSix r ik ((nn : Nat) : Int) b0 b1 p.1 ((p.2.1 : Nat) : Int) ((p.2.2.1 : Nat) : Int) cv fa TB 114 101 97 100 101 114 nn p rfl hn9 hTB ⟨rfl, rfl, rfl, hv_p⟩ hi (by decide) (by decide) (by decide) (by decide) (by decide) (by decide)) (cwV 6 hts gX5_kindHere_X5_isSix rfl rfl rfl ykVX5_isSix ⟨Nat.le_of_ble_eq_true rfl, Nat.le_of_ble_eq_true rfl⟩) hP hK hD hS 0 4 rfl rfl rfl [0, 1] rfl (by decide) (fun _ => rfl) (fun _ => wRo r ik ((nn : Nat) : Int) (jk b0 b1 p.1 ((p.2.1 : Nat) : Int) ((p.2.2.1 : Nat) : Int) cv fa) ++ (wA cI (r 6) 120 TB)) (fun _ => rfl) rfl hl.1 rfl (Nat.le_of_ble_eq_true rfl) dX5_kindHere_125 ⟨Nat.le_of_ble_eq_true rfl, Nat.le_of_ble_eq_true rfl⟩ (fun _ H locs _ hP hD hS => ?_)
              refine W.eq (g2 := F0 m 128 ls [.int (iI (b2 (decide (wdB TB p [114, 101, 97, 100, 101, 114] = true))))]) rfl ?_
              refine x_ifb_eq (tgt := 133) hx hb dX5_kindHere_128 (by decide) (fun c_128 => ?_) (fun c_128 => ?_)
              · refine lv_aload_n hx hb dX5_kindHere_133 rfl (lv_at hl 0 rfl) ?_
                refine x_bipush hx hb dX5_kindHere_134 (by decide) ?_
                refine x_bipush hx hb dX5_kindHere_136 (by decide) ?_
                refine x_bipush hx hb dX5_kindHere_138 (by decide) ?_
                refine x_bipush hx hb dX5_kindHere_140 (by decide) ?_
                refine x_callV (As := [.int (iI 99), .int (iI 111), .int (iI 111), .int (iI 107)]) (rest := []) ⟨hx, hb, hml, hown, hts⟩ (kX5_isFour r ik ((nn : Nat) : Int) b0 b1 p.1 ((p.2.1 : Nat) : Int) ((p.2.2.1 : Nat) : Int) cv fa TB 99 111 111 107 nn p rfl hn9 hTB ⟨rfl, rfl, rfl, hv_p⟩ hi (by decide) (by decide) (by decide) (by decide)) (cwV 4 hts gX5_kindHere_X5_isFour rfl rfl rfl ykVX5_isFour ⟨Nat.le_of_ble_eq_true rfl, Nat.le_of_ble_eq_true rfl⟩) hP hK hD hS 0 4 rfl rfl rfl [0, 1] rfl (by decide) (fun _ => rfl) (fun _ => wRo r ik ((nn : Nat) : Int) (jk b0 b1 p.1 ((p.2.1 : Nat) : Int) ((p.2.2.1 : Nat) : Int) cv fa) ++ (wA cI (r 6) 120 TB)) (fun _ => rfl) rfl hl.1 rfl (Nat.le_of_ble_eq_true rfl) dX5_kindHere_142 ⟨Nat.le_of_ble_eq_true rfl, Nat.le_of_ble_eq_true rfl⟩ (fun _ H locs _ hP hD hS => ?_)
                refine W.eq (g2 := F0 m 145 ls [.int (iI (b2 (decide (wdB TB p [99, 111, 111, 107] = true))))]) rfl ?_
                refine x_ifb_eq (tgt := 150) hx hb dX5_kindHere_145 (by decide) (fun c_145 => ?_) (fun c_145 => ?_)
                · refine lv_aload_n hx hb dX5_kindHere_150 rfl (lv_at hl 0 rfl) ?_
                  refine x_bipush hx hb dX5_kindHere_151 (by decide) ?_
                  refine x_bipush hx hb dX5_kindHere_153 (by decide) ?_
                  refine x_bipush hx hb dX5_kindHere_155 (by decide) ?_
                  refine x_bipush hx hb dX5_kindHere_157 (by decide) ?_
                  refine x_callV (As := [.int (iI 108), .int (iI 105), .int (iI 97), .int (iI 114)]) (rest := []) ⟨hx, hb, hml, hown, hts⟩ (kX5_isFour r ik ((nn : Nat) : Int) b0 b1 p.1 ((p.2.1 : Nat) : Int) ((p.2.2.1 : Nat) : Int) cv fa TB 108 105 97 114 nn p rfl hn9 hTB ⟨rfl, rfl, rfl, hv_p⟩ hi (by decide) (by decide) (by decide) (by decide)) (cwV 4 hts gX5_kindHere_X5_isFour rfl rfl rfl ykVX5_isFour ⟨Nat.le_of_ble_eq_true rfl, Nat.le_of_ble_eq_true rfl⟩) hP hK hD hS 0 4 rfl rfl rfl [0, 1] rfl (by decide) (fun _ => rfl) (fun _ => wRo r ik ((nn : Nat) : Int) (jk b0 b1 p.1 ((p.2.1 : Nat) : Int) ((p.2.2.1 : Nat) : Int) cv fa) ++ (wA cI (r 6) 120 TB)) (fun _ => rfl) rfl hl.1 rfl (Nat.le_of_ble_eq_true rfl) dX5_kindHere_159 ⟨Nat.le_of_ble_eq_true rfl, Nat.le_of_ble_eq_true rfl⟩ (fun _ H locs _ hP hD hS => ?_)
                  refine W.eq (g2 := F0 m 162 ls [.int (iI (b2 (decide (wdB TB p [108, 105, 97, 114] = true))))]) rfl ?_
                  refine x_ifb_eq (tgt := 170) hx hb dX5_kindHere_162 (by decide) (fun c_162 => ?_) (fun c_162 => ?_)
                  · refine x_iconst hx hb dX5_kindHere_170 ?_
                    exact kend () hP hS (an_i (by rw [kdF_e, if_neg (fun q9 => c_34 ((wd_7 hi).mpr q9).2.2.1), if_neg c_69, if_neg c_88, if_neg c_107, if_neg c_128, if_neg c_145, if_neg c_162])) trivial dX5_kindHere_171
                  · refine x_bipush hx hb dX5_kindHere_165 (by decide) ?_
                    refine lv_goto (tgt := 171) hx hb dX5_kindHere_167 (by decide) ?_
                    exact kend () hP hS (an_i (by rw [kdF_e, if_neg (fun q9 => c_34 ((wd_7 hi).mpr q9).2.2.1), if_neg c_69, if_neg c_88, if_neg c_107, if_neg c_128, if_neg c_145, if_pos c_162])) trivial dX5_kindHere_171
                · refine x_iconst hx hb dX5_kindHere_148 ?_
                  exact kend () hP hS (an_i (by rw [kdF_e, if_neg (fun q9 => c_34 ((wd_7 hi).mpr q9).2.2.1), if_neg c_69, if_neg c_88, if_neg c_107, if_neg c_128, if_pos c_145])) trivial dX5_kindHere_149
              · refine x_iconst hx hb dX5_kindHere_131 ?_
                exact kend () hP hS (an_i (by rw [kdF_e, if_neg (fun q9 => c_34 ((wd_7 hi).mpr q9).2.2.1), if_neg c_69, if_neg c_88, if_neg c_107, if_pos c_128])) trivial dX5_kindHere_132
            · refine x_iconst hx hb dX5_kindHere_110 ?_
              exact kend () hP hS (an_i (by rw [kdF_e, if_neg (fun q9 => c_34 ((wd_7 hi).mpr q9).2.2.1), if_neg c_69, if_neg c_88, if_pos c_107])) trivial dX5_kindHere_111
          · refine x_iconst hx hb dX5_kindHere_91 ?_
            exact kend () hP hS (an_i (by rw [kdF_e, if_neg (fun q9 => c_34 ((wd_7 hi).mpr q9).2.2.1), if_neg c_69, if_pos c_88])) trivial dX5_kindHere_92
        · refine x_iconst hx hb dX5_kindHere_72 ?_
          exact kend () hP hS (an_i (by rw [kdF_e, if_neg (fun q9 => c_34 ((wd_7 hi).mpr q9).2.2.1), if_pos c_69])) trivial dX5_kindHere_73
      · refine lv_aload_n hx hb dX5_kindHere_37 rfl (lv_at hl 0 rfl) ?_
        refine x_iconst hx hb dX5_kindHere_38 ?_
        refine x_bipush hx hb dX5_kindHere_39 (by decide) ?_
        refine x_bipush hx hb dX5_kindHere_41 (by decide) ?_
        refine x_bipush hx hb dX5_kindHere_43 (by decide) ?_
        refine x_callV (As := [.int (iI 4), .int (iI 107), .int (iI 101), .int (iI 114)]) (rest := []) ⟨hx, hb, hml, hown, hts⟩ (kX5_has3 r ik ((nn : Nat) : Int) b0 b1 p.1 ((p.2.1 : Nat) : Int) ((p.2.2.1 : Nat) : Int) cv fa TB 4 107 101 114 nn p rfl hn9 hTB ⟨rfl, rfl, rfl, hv_p⟩ hi (by decide) (by decide) (by decide) (by decide)) (cwV 4 hts gX5_kindHere_X5_has3 rfl rfl rfl ykVX5_has3 ⟨Nat.le_of_ble_eq_true rfl, Nat.le_of_ble_eq_true rfl⟩) hP hK hD hS 0 4 rfl rfl rfl [0, 1] rfl (by decide) (fun _ => rfl) (fun _ => wRo r ik ((nn : Nat) : Int) (jk b0 b1 p.1 ((p.2.1 : Nat) : Int) ((p.2.2.1 : Nat) : Int) cv fa) ++ (wA cI (r 6) 120 TB)) (fun _ => rfl) rfl hl.1 rfl (Nat.le_of_ble_eq_true rfl) dX5_kindHere_45 ⟨Nat.le_of_ble_eq_true rfl, Nat.le_of_ble_eq_true rfl⟩ (fun _ H locs _ hP hD hS => ?_)
        refine W.eq (g2 := F0 m 48 ls [.int (iI (b2 (decide (((byF TB nn (p.2.1 + 4) = 107 ∧ byF TB nn (p.2.1 + 4 + 1) = 101) ∧ byF TB nn (p.2.1 + 4 + 2) = 114)))))]) rfl ?_
        refine x_ifb_eq (tgt := 53) hx hb dX5_kindHere_48 (by decide) (fun c_48 => ?_) (fun c_48 => ?_)
        · refine lv_aload_n hx hb dX5_kindHere_53 rfl (lv_at hl 0 rfl) ?_
          refine x_bipush hx hb dX5_kindHere_54 (by decide) ?_
          refine x_bipush hx hb dX5_kindHere_56 (by decide) ?_
          refine x_bipush hx hb dX5_kindHere_58 (by decide) ?_
          refine x_bipush hx hb dX5_kindHere_60 (by decide) ?_
          refine x_bipush hx hb dX5_kindHere_62 (by decide) ?_
          refine x_bipush hx hb dX5_kindHere_64 (by decide) ?_
          refine x_callV (As := [.int (iI 108), .int (iI 97), .int (iI 119), .int (iI 121), .int (iI 101), .int (iI 114)]) (rest := []) ⟨hx, hb, hml, hown, hts⟩ (kX5_isSix r ik ((nn : Nat) : Int) b0 b1 p.1 ((p.2.1 : Nat) : Int) ((p.2.2.1 : Nat) : Int) cv fa TB 108 97 119 121 101 114 nn p rfl hn9 hTB ⟨rfl, rfl, rfl, hv_p⟩ hi (by decide) (by decide) (by decide) (by decide) (by decide) (by decide)) (cwV 6 hts gX5_kindHere_X5_isSix rfl rfl rfl ykVX5_isSix ⟨Nat.le_of_ble_eq_true rfl, Nat.le_of_ble_eq_true rfl⟩) hP hK hD hS 0 4 rfl rfl rfl [0, 1] rfl (by decide) (fun _ => rfl) (fun _ => wRo r ik ((nn : Nat) : Int) (jk b0 b1 p.1 ((p.2.1 : Nat) : Int) ((p.2.2.1 : Nat) : Int) cv fa) ++ (wA cI (r 6) 120 TB)) (fun _ => rfl) rfl hl.1 rfl (Nat.le_of_ble_eq_true rfl) dX5_kindHere_66 ⟨Nat.le_of_ble_eq_true rfl, Nat.le_of_ble_eq_true rfl⟩ (fun _ H locs _ hP hD hS => ?_)
          refine W.eq (g2 := F0 m 69 ls [.int (iI (b2 (decide (wdB TB p [108, 97, 119, 121, 101, 114] = true))))]) rfl ?_
          refine x_ifb_eq (tgt := 74) hx hb dX5_kindHere_69 (by decide) (fun c_69 => ?_) (fun c_69 => ?_)
          · refine lv_aload_n hx hb dX5_kindHere_74 rfl (lv_at hl 0 rfl) ?_
            refine x_bipush hx hb dX5_kindHere_75 (by decide) ?_
            refine x_bipush hx hb dX5_kindHere_77 (by decide) ?_
            refine x_bipush hx hb dX5_kindHere_79 (by decide) ?_
            refine x_bipush hx hb dX5_kindHere_81 (by decide) ?_
            refine x_bipush hx hb dX5_kindHere_83 (by decide) ?_
            refine x_callV (As := [.int (iI 99), .int (iI 104), .int (iI 105), .int (iI 108), .int (iI 100)]) (rest := []) ⟨hx, hb, hml, hown, hts⟩ (kX5_isFive r ik ((nn : Nat) : Int) b0 b1 p.1 ((p.2.1 : Nat) : Int) ((p.2.2.1 : Nat) : Int) cv fa TB 99 104 105 108 100 nn p rfl hn9 hTB ⟨rfl, rfl, rfl, hv_p⟩ hi (by decide) (by decide) (by decide) (by decide) (by decide)) (cwV 5 hts gX5_kindHere_X5_isFive rfl rfl rfl ykVX5_isFive ⟨Nat.le_of_ble_eq_true rfl, Nat.le_of_ble_eq_true rfl⟩) hP hK hD hS 0 4 rfl rfl rfl [0, 1] rfl (by decide) (fun _ => rfl) (fun _ => wRo r ik ((nn : Nat) : Int) (jk b0 b1 p.1 ((p.2.1 : Nat) : Int) ((p.2.2.1 : Nat) : Int) cv fa) ++ (wA cI (r 6) 120 TB)) (fun _ => rfl) rfl hl.1 rfl (Nat.le_of_ble_eq_true rfl) dX5_kindHere_85 ⟨Nat.le_of_ble_eq_true rfl, Nat.le_of_ble_eq_true rfl⟩ (fun _ H locs _ hP hD hS => ?_)
            refine W.eq (g2 := F0 m 88 ls [.int (iI (b2 (decide (wdB TB p [99, 104, 105, 108, 100] = true))))]) rfl ?_
            refine x_ifb_eq (tgt := 93) hx hb dX5_kindHere_88 (by decide) (fun c_88 => ?_) (fun c_88 => ?_)
            · refine lv_aload_n hx hb dX5_kindHere_93 rfl (lv_at hl 0 rfl) ?_
              refine x_bipush hx hb dX5_kindHere_94 (by decide) ?_
              refine x_bipush hx hb dX5_kindHere_96 (by decide) ?_
              refine x_bipush hx hb dX5_kindHere_98 (by decide) ?_
              refine x_bipush hx hb dX5_kindHere_100 (by decide) ?_
              refine x_bipush hx hb dX5_kindHere_102 (by decide) ?_
              refine x_callV (As := [.int (iI 115), .int (iI 97), .int (iI 105), .int (iI 110), .int (iI 116)]) (rest := []) ⟨hx, hb, hml, hown, hts⟩ (kX5_isFive r ik ((nn : Nat) : Int) b0 b1 p.1 ((p.2.1 : Nat) : Int) ((p.2.2.1 : Nat) : Int) cv fa TB 115 97 105 110 116 nn p rfl hn9 hTB ⟨rfl, rfl, rfl, hv_p⟩ hi (by decide) (by decide) (by decide) (by decide) (by decide)) (cwV 5 hts gX5_kindHere_X5_isFive rfl rfl rfl ykVX5_isFive ⟨Nat.le_of_ble_eq_true rfl, Nat.le_of_ble_eq_true rfl⟩) hP hK hD hS 0 4 rfl rfl rfl [0, 1] rfl (by decide) (fun _ => rfl) (fun _ => wRo r ik ((nn : Nat) : Int) (jk b0 b1 p.1 ((p.2.1 : Nat) : Int) ((p.2.2.1 : Nat) : Int) cv fa) ++ (wA cI (r 6) 120 TB)) (fun _ => rfl) rfl hl.1 rfl (Nat.le_of_ble_eq_true rfl) dX5_kindHere_104 ⟨Nat.le_of_ble_eq_true rfl, Nat.le_of_ble_eq_true rfl⟩ (fun _ H locs _ hP hD hS => ?_)
              refine W.eq (g2 := F0 m 107 ls [.int (iI (b2 (decide (wdB TB p [115, 97, 105, 110, 116] = true))))]) rfl ?_
              refine x_ifb_eq (tgt := 112) hx hb dX5_kindHere_107 (by decide) (fun c_107 => ?_) (fun c_107 => ?_)
              · refine lv_aload_n hx hb dX5_kindHere_112 rfl (lv_at hl 0 rfl) ?_
                refine x_bipush hx hb dX5_kindHere_113 (by decide) ?_
                refine x_bipush hx hb dX5_kindHere_115 (by decide) ?_
                refine x_bipush hx hb dX5_kindHere_117 (by decide) ?_
                refine x_bipush hx hb dX5_kindHere_119 (by decide) ?_
                refine x_bipush hx hb dX5_kindHere_121 (by decide) ?_
                refine x_bipush hx hb dX5_kindHere_123 (by decide) ?_
                refine x_callV (As := [.int (iI 114), .int (iI 101), .int (iI 97), .int (iI 100), .int (iI 101), .int (iI 114)]) (rest := []) ⟨hx, hb, hml, hown, hts⟩ (kX5_isSix r ik ((nn : Nat) : Int) b0 b1 p.1 ((p.2.1 : Nat) : Int) ((p.2.2.1 : Nat) : Int) cv fa TB 114 101 97 100 101 114 nn p rfl hn9 hTB ⟨rfl, rfl, rfl, hv_p⟩ hi (by decide) (by decide) (by decide) (by decide) (by decide) (by decide)) (cwV 6 hts gX5_kindHere_X5_isSix rfl rfl rfl ykVX5_isSix ⟨Nat.le_of_ble_eq_true rfl, Nat.le_of_ble_eq_true rfl⟩) hP hK hD hS 0 4 rfl rfl rfl [0, 1] rfl (by decide) (fun _ => rfl) (fun _ => wRo r ik ((nn : Nat) : Int) (jk b0 b1 p.1 ((p.2.1 : Nat) : Int) ((p.2.2.1 : Nat) : Int) cv fa) ++ (wA cI (r 6) 120 TB)) (fun _ => rfl) rfl hl.1 rfl (Nat.le_of_ble_eq_true rfl) dX5_kindHere_125 ⟨Nat.le_of_ble_eq_true rfl, Nat.le_of_ble_eq_true rfl⟩ (fun _ H locs _ hP hD hS => ?_)
                refine W.eq (g2 := F0 m 128 ls [.int (iI (b2 (decide (wdB TB p [114, 101, 97, 100, 101, 114] = true))))]) rfl ?_
                refine x_ifb_eq (tgt := 133) hx hb dX5_kindHere_128 (by decide) (fun c_128 => ?_) (fun c_128 => ?_)
                · refine lv_aload_n hx hb dX5_kindHere_133 rfl (lv_at hl 0 rfl) ?_
                  refine x_bipush hx hb dX5_kindHere_134 (by decide) ?_
                  refine x_bipush hx hb dX5_kindHere_136 (by decide) ?_
                  refine x_bipush hx hb dX5_kindHere_138 (by decide) ?_
                  refine x_bipush hx hb dX5_kindHere_140 (by decide) ?_
                  refine x_callV (As := [.int (iI 99), .int (iI 111), .int (iI 111), .int (iI 107)]) (rest := []) ⟨hx, hb, hml, hown, hts⟩ (kX5_isFour r ik ((nn : Nat) : Int) b0 b1 p.1 ((p.2.1 : Nat) : Int) ((p.2.2.1 : Nat) : Int) cv fa TB 99 111 111 107 nn p rfl hn9 hTB ⟨rfl, rfl, rfl, hv_p⟩ hi (by decide) (by decide) (by decide) (by decide)) (cwV 4 hts gX5_kindHere_X5_isFour rfl rfl rfl ykVX5_isFour ⟨Nat.le_of_ble_eq_true rfl, Nat.le_of_ble_eq_true rfl⟩) hP hK hD hS 0 4 rfl rfl rfl [0, 1] rfl (by decide) (fun _ => rfl) (fun _ => wRo r ik ((nn : Nat) : Int) (jk b0 b1 p.1 ((p.2.1 : Nat) : Int) ((p.2.2.1 : Nat) : Int) cv fa) ++ (wA cI (r 6) 120 TB)) (fun _ => rfl) rfl hl.1 rfl (Nat.le_of_ble_eq_true rfl) dX5_kindHere_142 ⟨Nat.le_of_ble_eq_true rfl, Nat.le_of_ble_eq_true rfl⟩ (fun _ H locs _ hP hD hS => ?_)
                  refine W.eq (g2 := F0 m 145 ls [.int (iI (b2 (decide (wdB TB p [99, 111, 111, 107] = true))))]) rfl ?_
                  refine x_ifb_eq (tgt := 150) hx hb dX5_kindHere_145 (by decide) (fun c_145 => ?_) (fun c_145 => ?_)
                  · refine lv_aload_n hx hb dX5_kindHere_150 rfl (lv_at hl 0 rfl) ?_
                    refine x_bipush hx hb dX5_kindHere_151 (by decide) ?_
                    refine x_bipush hx hb dX5_kindHere_153 (by decide) ?_
                    refine x_bipush hx hb dX5_kindHere_155 (by decide) ?_
                    refine x_bipush hx hb dX5_kindHere_157 (by decide) ?_
                    refine x_callV (As := [.int (iI 108), .int (iI 105), .int (iI 97), .int (iI 114)]) (rest := []) ⟨hx, hb, hml, hown, hts⟩ (kX5_isFour r ik ((nn : Nat) : Int) b0 b1 p.1 ((p.2.1 : Nat) : Int) ((p.2.2.1 : Nat) : Int) cv fa TB 108 105 97 114 nn p rfl hn9 hTB ⟨rfl, rfl, rfl, hv_p⟩ hi (by decide) (by decide) (by decide) (by decide)) (cwV 4 hts gX5_kindHere_X5_isFour rfl rfl rfl ykVX5_isFour ⟨Nat.le_of_ble_eq_true rfl, Nat.le_of_ble_eq_true rfl⟩) hP hK hD hS 0 4 rfl rfl rfl [0, 1] rfl (by decide) (fun _ => rfl) (fun _ => wRo r ik ((nn : Nat) : Int) (jk b0 b1 p.1 ((p.2.1 : Nat) : Int) ((p.2.2.1 : Nat) : Int) cv fa) ++ (wA cI (r 6) 120 TB)) (fun _ => rfl) rfl hl.1 rfl (Nat.le_of_ble_eq_true rfl) dX5_kindHere_159 ⟨Nat.le_of_ble_eq_true rfl, Nat.le_of_ble_eq_true rfl⟩ (fun _ H locs _ hP hD hS => ?_)
                    refine W.eq (g2 := F0 m 162 ls [.int (iI (b2 (decide (wdB TB p [108, 105, 97, 114] = true))))]) rfl ?_
                    refine x_ifb_eq (tgt := 170) hx hb dX5_kindHere_162 (by decide) (fun c_162 => ?_) (fun c_162 => ?_)
                    · refine x_iconst hx hb dX5_kindHere_170 ?_
                      exact kend () hP hS (an_i (by rw [kdF_e, if_neg (fun q9 => c_48 ((wd_7 hi).mpr q9).2.2.2), if_neg c_69, if_neg c_88, if_neg c_107, if_neg c_128, if_neg c_145, if_neg c_162])) trivial dX5_kindHere_171
                    · refine x_bipush hx hb dX5_kindHere_165 (by decide) ?_
                      refine lv_goto (tgt := 171) hx hb dX5_kindHere_167 (by decide) ?_
                      exact kend () hP hS (an_i (by rw [kdF_e, if_neg (fun q9 => c_48 ((wd_7 hi).mpr q9).2.2.2), if_neg c_69, if_neg c_88, if_neg c_107, if_neg c_128, if_neg c_145, if_pos c_162])) trivial dX5_kindHere_171
                  · refine x_iconst hx hb dX5_kindHere_148 ?_
                    exact kend () hP hS (an_i (by rw [kdF_e, if_neg (fun q9 => c_48 ((wd_7 hi).mpr q9).2.2.2), if_neg c_69, if_neg c_88, if_neg c_107, if_neg c_128, if_pos c_145])) trivial dX5_kindHere_149
                · refine x_iconst hx hb dX5_kindHere_131 ?_
                  exact kend () hP hS (an_i (by rw [kdF_e, if_neg (fun q9 => c_48 ((wd_7 hi).mpr q9).2.2.2), if_neg c_69, if_neg c_88, if_neg c_107, if_pos c_128])) trivial dX5_kindHere_132
              · refine x_iconst hx hb dX5_kindHere_110 ?_
                exact kend () hP hS (an_i (by rw [kdF_e, if_neg (fun q9 => c_48 ((wd_7 hi).mpr q9).2.2.2), if_neg c_69, if_neg c_88, if_pos c_107])) trivial dX5_kindHere_111
            · refine x_iconst hx hb dX5_kindHere_91 ?_
              exact kend () hP hS (an_i (by rw [kdF_e, if_neg (fun q9 => c_48 ((wd_7 hi).mpr q9).2.2.2), if_neg c_69, if_pos c_88])) trivial dX5_kindHere_92
          · refine x_iconst hx hb dX5_kindHere_72 ?_
            exact kend () hP hS (an_i (by rw [kdF_e, if_neg (fun q9 => c_48 ((wd_7 hi).mpr q9).2.2.2), if_pos c_69])) trivial dX5_kindHere_73
        · refine x_iconst hx hb dX5_kindHere_51 ?_
          exact kend () hP hS (an_i (by rw [kdF_e, if_pos ((wd_7 hi).mp ⟨c_6, c_20, c_34, c_48⟩)])) trivial dX5_kindHere_52
