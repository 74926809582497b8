theorem ykSX5_odds : yX5_odds.cls ≠ "java/lang/invoke/MethodHandle" ∧ yX5_odds.cls ≠ "java/lang/invoke/VarHandle" ∧ (parseMethodDescriptor yX5_odds.desc).map (fun d => d.parameters.length) = some 3 := by decide +kernel
theorem ykVX5_odds : yX5_odds.cls = RX5 ∧ yX5_odds.cls ≠ "java/lang/invoke/MethodHandle" ∧ yX5_odds.cls ≠ "java/lang/invoke/VarHandle" ∧ (parseMethodDescriptor yX5_odds.desc).map (fun d => d.parameters.length) = some 3 := ⟨rfl, ykSX5_odds⟩
set_option maxHeartbeats 4000000 in
set_option maxRecDepth 100000 in
theorem kX5_odds {l : Launch} {D : va_G} {cI cB : ClassId} (r : Nat → Nat) (T K : Tb) (ik : Int) (SB SS SN : Nat → Int) (tn : Int) (TB F : Nat → Int) (X Y : Tb) (j : Nat → Int) (sp n wh : Int) (B : Int) (hG : GI B T K ik SB SS SN tn TB F) (hB : B ≤ 40000) (h_sp : rI sp) (h_n : rI n) (h_wh : rI wh) : Ct l yX5_odds wsX5_odds 1 25 D [(cI, .int), (cB, .byte)] [.ref (r 0), .int (iI sp), .int (iI n), .int (iI wh)] (wM cI r (T, K, ik, SB, SS, SN, tn, TB, F) X Y j) (S := (Int × Gs) × Tb × Tb × (Nat → Int)) (fun u => some (.long (lI u.1.1))) (fun u => u.1 = m_odds sp n wh T K ik SB SS SN tn TB F) (fun u => wM cI r u.1.2 u.2.1 u.2.2.1 u.2.2.2) := by
  refine CtL.of (cc := cX5_odds) (maxL := 15) (by decide +kernel) rfl (Nat.le_of_ble_eq_true rfl) ?_
  intro pg e s m args below meth c Q A hx hb hml hts hown hP hK hD hS ls hl kend
  have hown : s.vm.findClass RX5 = some m.cls := hown
  have hl : lv_has ls 15 [(0, .ref (r 0)), (1, .int (iI sp)), (2, .int (iI n)), (3, .int (iI wh))] := hl
  obtain ⟨hI, hIK, hik, hSB, hSS, hSN, htn, hTB, hF⟩ := id hG
  have hn := Inv_n hI
  have hdy := Inv_d hI
  have hP : va_P D vwCl (wRo r ik tn j ++ (wA cI (r 1) 100 T ++ (wA cI (r 2) 100 K ++ (wA cI (r 3) 100 X ++ (wA cI (r 4) 100 Y ++ (wA cI (r 5) 8 (fR F) ++ (wA cI (r 6) 120 TB ++ (wA cI (r 7) 4 (bR SB) ++ (wA cI (r 8) 4 SS ++ (wA cI (r 9) 160 SN)))))))))) s.heap := hP
  have hD : va_D A (wRo r ik tn j ++ (wA cI (r 1) 100 T ++ (wA cI (r 2) 100 K ++ (wA cI (r 3) 100 X ++ (wA cI (r 4) 100 Y ++ (wA cI (r 5) 8 (fR F) ++ (wA cI (r 6) 120 TB ++ (wA cI (r 7) 4 (bR SB) ++ (wA cI (r 8) 4 SS ++ (wA cI (r 9) 160 SN)))))))))) := hD
  refine lv_aload_n hx hb dX5_odds_0 rfl (lv_at hl 0 rfl) ?_
  refine lv_iload_n hx hb dX5_odds_1 rfl (lv_at hl 1 rfl) ?_
  refine x_callV (As := [.int (iI sp)]) (rest := []) ⟨hx, hb, hml, hown, hts⟩ (kX5_isOne r ik tn j T sp (by omega) (by omega)) (cwV 1 hts gX5_odds_X5_isOne rfl rfl rfl ykVX5_isOne ⟨Nat.le_of_ble_eq_true rfl, Nat.le_of_ble_eq_true rfl⟩) hP hK hD hS 0 4 rfl rfl rfl [0, 1] rfl (by decide) (fun _ => rfl) (fun _ => wRo r ik tn j ++ (wA cI (r 1) 100 T ++ (wA cI (r 2) 100 K ++ (wA cI (r 3) 100 X ++ (wA cI (r 4) 100 Y ++ (wA cI (r 5) 8 (fR F) ++ (wA cI (r 6) 120 TB ++ (wA cI (r 7) 4 (bR SB) ++ (wA cI (r 8) 4 SS ++ (wA cI (r 9) 160 SN)))))))))) (fun _ => rfl) rfl hl.1 rfl (Nat.le_of_ble_eq_true rfl) dX5_odds_2 ⟨Nat.le_of_ble_eq_true rfl, Nat.le_of_ble_eq_true rfl⟩ (fun _ H locs _ hP hD hS => ?_)
  refine W.eq (g2 := F0 m 5 ls [.int (iI (b2 (decide (0 ≤ sp ∧ sp < T 0))))]) rfl ?_
  refine x_ifb_eq (tgt := 30) hx hb dX5_odds_5 (by decide) (fun c_5 => ?_) (fun c_5 => ?_)
  · refine lv_aload_n hx hb dX5_odds_30 rfl (lv_at hl 0 rfl) ?_
    refine x_ldc hx hb (-1000001) rfl hown (hts (.constant RX5 37 (-1000001)) (by decide +kernel)) dX5_odds_31 ?_
    refine x_callV (As := [.int (iI (-1000001))]) (rest := []) ⟨hx, hb, hml, hown, hts⟩ (kX5_finds r ik tn j F (-1000001) 0 (by omega) (by omega)) (cwV 1 hts gX5_odds_X5_finds rfl rfl rfl ykVX5_finds ⟨Nat.le_of_ble_eq_true rfl, Nat.le_of_ble_eq_true rfl⟩) hP hK hD hS 0 4 rfl rfl rfl [0, 5] rfl (by decide) (fun _ => rfl) (fun _ => wRo r ik tn j ++ (wA cI (r 1) 100 T ++ (wA cI (r 2) 100 K ++ (wA cI (r 3) 100 X ++ (wA cI (r 4) 100 Y ++ (wA cI (r 5) 8 (fR (bmp 0 F)) ++ (wA cI (r 6) 120 TB ++ (wA cI (r 7) 4 (bR SB) ++ (wA cI (r 8) 4 SS ++ (wA cI (r 9) 160 SN)))))))))) (fun _ => rfl) rfl hl.1 rfl (Nat.le_of_ble_eq_true rfl) dX5_odds_33 ⟨Nat.le_of_ble_eq_true rfl, Nat.le_of_ble_eq_true rfl⟩ (fun _ H locs _ hP hD hS => ?_)
    refine W.eq (g2 := F0 m 36 ls [.int (iI (-1000001))]) rfl ?_
    refine x_i2l hx hb (by omega) dX5_odds_36 ?_
    exact kend (((-1000001), T, K, ik, SB, SS, SN, tn, TB, (bmp 0 F)), X, Y, j) hP hS rfl (if_neg (by omega)).symm dX5_odds_37
  · refine lv_iload_n hx hb dX5_odds_8 rfl (lv_at hl 2 rfl) ?_
    refine x_i2l hx hb (by omega) dX5_odds_9 ?_
    refine x_lconst hx hb 0 rfl dX5_odds_10 ?_
    refine x_ldc2 hx hb 23 rfl hown (hts (.constantLong RX5 195 (23)) (by decide +kernel)) dX5_odds_11 ?_
    refine x_callS (As := [.long (lI n), .long (lI 0), .long (lI 23)]) (rest := []) ⟨hx, hb, hml, hown, hts⟩ (kX5_isIn n 0 23 (by omega) (by omega) (by omega)) (va_cwS 3 hts gX5_odds_X5_isIn rfl rfl rfl ykSX5_isIn ⟨Nat.le_of_ble_eq_true rfl, Nat.le_of_ble_eq_true rfl⟩) hP hK hD hS [] rfl (by decide) (fun _ => rfl) (fun _ => wRo r ik tn j ++ (wA cI (r 1) 100 T ++ (wA cI (r 2) 100 K ++ (wA cI (r 3) 100 X ++ (wA cI (r 4) 100 Y ++ (wA cI (r 5) 8 (fR F) ++ (wA cI (r 6) 120 TB ++ (wA cI (r 7) 4 (bR SB) ++ (wA cI (r 8) 4 SS ++ (wA cI (r 9) 160 SN)))))))))) (fun _ => rfl) rfl hl.1 rfl (Nat.le_of_ble_eq_true rfl) dX5_odds_14 ⟨Nat.le_of_ble_eq_true rfl, Nat.le_of_ble_eq_true rfl⟩ (fun _ H locs _ hP hD hS => ?_)
    refine W.eq (g2 := F0 m 17 ls [.int (iI (b2 (decide (0 ≤ n ∧ n ≤ 23))))]) rfl ?_
    refine x_ifb_eq (tgt := 30) hx hb dX5_odds_17 (by decide) (fun c_17 => ?_) (fun c_17 => ?_)
    · refine lv_aload_n hx hb dX5_odds_30 rfl (lv_at hl 0 rfl) ?_
      refine x_ldc hx hb (-1000001) rfl hown (hts (.constant RX5 37 (-1000001)) (by decide +kernel)) dX5_odds_31 ?_
      refine x_callV (As := [.int (iI (-1000001))]) (rest := []) ⟨hx, hb, hml, hown, hts⟩ (kX5_finds r ik tn j F (-1000001) 0 (by omega) (by omega)) (cwV 1 hts gX5_odds_X5_finds rfl rfl rfl ykVX5_finds ⟨Nat.le_of_ble_eq_true rfl, Nat.le_of_ble_eq_true rfl⟩) hP hK hD hS 0 4 rfl rfl rfl [0, 5] rfl (by decide) (fun _ => rfl) (fun _ => wRo r ik tn j ++ (wA cI (r 1) 100 T ++ (wA cI (r 2) 100 K ++ (wA cI (r 3) 100 X ++ (wA cI (r 4) 100 Y ++ (wA cI (r 5) 8 (fR (bmp 0 F)) ++ (wA cI (r 6) 120 TB ++ (wA cI (r 7) 4 (bR SB) ++ (wA cI (r 8) 4 SS ++ (wA cI (r 9) 160 SN)))))))))) (fun _ => rfl) rfl hl.1 rfl (Nat.le_of_ble_eq_true rfl) dX5_odds_33 ⟨Nat.le_of_ble_eq_true rfl, Nat.le_of_ble_eq_true rfl⟩ (fun _ H locs _ hP hD hS => ?_)
      refine W.eq (g2 := F0 m 36 ls [.int (iI (-1000001))]) rfl ?_
      refine x_i2l hx hb (by omega) dX5_odds_36 ?_
      exact kend (((-1000001), T, K, ik, SB, SS, SN, tn, TB, (bmp 0 F)), X, Y, j) hP hS rfl (if_neg (by omega)).symm dX5_odds_37
    · refine lv_iload_n hx hb dX5_odds_20 rfl (lv_at hl 3 rfl) ?_
      refine x_i2l hx hb (by omega) dX5_odds_21 ?_
      refine x_lconst hx hb 0 rfl dX5_odds_22 ?_
      refine x_lconst hx hb 1 rfl dX5_odds_23 ?_
      refine x_callS (As := [.long (lI wh), .long (lI 0), .long (lI 1)]) (rest := []) ⟨hx, hb, hml, hown, hts⟩ (kX5_isIn wh 0 1 (by omega) (by omega) (by omega)) (va_cwS 3 hts gX5_odds_X5_isIn rfl rfl rfl ykSX5_isIn ⟨Nat.le_of_ble_eq_true rfl, Nat.le_of_ble_eq_true rfl⟩) hP hK hD hS [] rfl (by decide) (fun _ => rfl) (fun _ => wRo r ik tn j ++ (wA cI (r 1) 100 T ++ (wA cI (r 2) 100 K ++ (wA cI (r 3) 100 X ++ (wA cI (r 4) 100 Y ++ (wA cI (r 5) 8 (fR F) ++ (wA cI (r 6) 120 TB ++ (wA cI (r 7) 4 (bR SB) ++ (wA cI (r 8) 4 SS ++ (wA cI (r 9) 160 SN)))))))))) (fun _ => rfl) rfl hl.1 rfl (Nat.le_of_ble_eq_true rfl) dX5_odds_24 ⟨Nat.le_of_ble_eq_true rfl, Nat.le_of_ble_eq_true rfl⟩ (fun _ H locs _ hP hD hS => ?_)
      refine W.eq (g2 := F0 m 27 ls [.int (iI (b2 (decide (0 ≤ wh ∧ wh ≤ 1))))]) rfl ?_
      refine x_ifb_ne (tgt := 38) hx hb dX5_odds_27 (by decide) (fun c_27 => ?_) (fun c_27 => ?_)
      · obtain ⟨p0, rfl⟩ : ∃ p0 : Nat, sp = (p0 : Int) := ⟨sp.toNat, by omega⟩
        obtain ⟨n0, rfl⟩ : ∃ n0 : Nat, n = (n0 : Int) := ⟨n.toNat, by omega⟩
        have hkd := Inv_k (p := p0) hI (by omega)
        have hvn := Inv_v hI
        refine x_lconst hx hb 1 rfl dX5_odds_38 ?_
        refine lv_lstore (lv' := [(4, .long (lI 1)), (0, .ref (r 0)), (1, .int (iI ((p0 : Nat) : Int))), (2, .int (iI ((n0 : Nat) : Int))), (3, .int (iI wh))]) hx hb dX5_odds_39 hl (by decide) rfl (fun ls hl => ?_)
        refine x_lconst hx hb 1 rfl dX5_odds_41 ?_
        refine lv_lstore (lv' := [(6, .long (lI 1)), (4, .long (lI 1)), (0, .ref (r 0)), (1, .int (iI ((p0 : Nat) : Int))), (2, .int (iI ((n0 : Nat) : Int))), (3, .int (iI wh))]) hx hb dX5_odds_42 hl (by decide) rfl (fun ls hl => ?_)
        refine x_iconst hx hb dX5_odds_44 ?_
        refine lv_istore (lv' := [(8, .int (iI 0)), (6, .long (lI 1)), (4, .long (lI 1)), (0, .ref (r 0)), (1, .int (iI ((p0 : Nat) : Int))), (2, .int (iI ((n0 : Nat) : Int))), (3, .int (iI wh))]) hx hb dX5_odds_45 hl (by decide) rfl (fun ls hl => ?_)
        refine x_iconst hx hb dX5_odds_47 ?_
        refine lv_istore (lv' := [(9, .int (iI 0)), (8, .int (iI 0)), (6, .long (lI 1)), (4, .long (lI 1)), (0, .ref (r 0)), (1, .int (iI ((p0 : Nat) : Int))), (2, .int (iI ((n0 : Nat) : Int))), (3, .int (iI wh))]) hx hb dX5_odds_48 hl (by decide) rfl (fun ls hl => ?_)
        have L50 : ∀ (k t : Nat) (cv : Nat) (H : Heap) (locs : List Loc) (ls : Array Slot), t + k = 6 → (run (fun (t : Nat) (z : Nat) => if 0 ≤ chF (T (cx p0 0)) (t : Int) (T 3) then z + 1 else z) k t cv = caF T p0) → (cv ≤ t) → va_P D vwCl (wRo r ik tn j ++ (wA cI (r 1) 100 T ++ (wA cI (r 2) 100 K ++ (wA cI (r 3) 100 X ++ (wA cI (r 4) 100 Y ++ (wA cI (r 5) 8 (fR F) ++ (wA cI (r 6) 120 TB ++ (wA cI (r 7) 4 (bR SB) ++ (wA cI (r 8) 4 SS ++ (wA cI (r 9) 160 SN)))))))))) H → va_D A (wRo r ik tn j ++ (wA cI (r 1) 100 T ++ (wA cI (r 2) 100 K ++ (wA cI (r 3) 100 X ++ (wA cI (r 4) 100 Y ++ (wA cI (r 5) 8 (fR F) ++ (wA cI (r 6) 120 TB ++ (wA cI (r 7) 4 (bR SB) ++ (wA cI (r 8) 4 SS ++ (wA cI (r 9) 160 SN)))))))))) → va_S A s.heap H locs → lv_has ls 15 [(0, .ref (r 0)), (1, .int (iI ((p0 : Nat) : Int))), (2, .int (iI ((n0 : Nat) : Int))), (3, .int (iI wh)), (4, .long (lI 1)), (6, .long (lI 1)), (8, .int (iI ((cv : Nat) : Int))), (9, .int (iI ((t : Nat) : Int)))] → W pg l e { frames := 1, cells := 0, slots := 0, locals := 25 } s m args below meth c H locs 0 0 Q (F0 m 50 ls []) := by
          intro k
          induction k with
          | zero =>
            intro t cv H locs ls hkt hr hc hP hD hS hl
            refine lv_iload hx hb dX5_odds_50 (lv_at hl 7 rfl) ?_
            refine x_bipush hx hb dX5_odds_52 (by decide) ?_
            refine x_icmp_ge (tgt := 88) hx hb (by omega) (by decide) dX5_odds_54 (by decide) (fun c_54 => ?_) (fun c_54 => ?_)
            · refine x_iconst hx hb dX5_odds_88 ?_
              refine lv_istore (lv' := [(9, .int (iI 0)), (0, .ref (r 0)), (1, .int (iI ((p0 : Nat) : Int))), (2, .int (iI ((n0 : Nat) : Int))), (3, .int (iI wh)), (4, .long (lI 1)), (6, .long (lI 1)), (8, .int (iI ((cv : Nat) : Int)))]) hx hb dX5_odds_89 hl (by decide) rfl (fun ls hl => ?_)
              have L91 : ∀ (k3 i : Nat) (H : Heap) (locs : List Loc) (ls : Array Slot), i + k3 = n0 → va_P D vwCl (wRo r ik tn j ++ (wA cI (r 1) 100 T ++ (wA cI (r 2) 100 K ++ (wA cI (r 3) 100 X ++ (wA cI (r 4) 100 Y ++ (wA cI (r 5) 8 (fR F) ++ (wA cI (r 6) 120 TB ++ (wA cI (r 7) 4 (bR SB) ++ (wA cI (r 8) 4 SS ++ (wA cI (r 9) 160 SN)))))))))) H → va_D A (wRo r ik tn j ++ (wA cI (r 1) 100 T ++ (wA cI (r 2) 100 K ++ (wA cI (r 3) 100 X ++ (wA cI (r 4) 100 Y ++ (wA cI (r 5) 8 (fR F) ++ (wA cI (r 6) 120 TB ++ (wA cI (r 7) 4 (bR SB) ++ (wA cI (r 8) 4 SS ++ (wA cI (r 9) 160 SN)))))))))) → va_S A s.heap H locs → lv_has ls 15 [(0, .ref (r 0)), (1, .int (iI ((p0 : Nat) : Int))), (2, .int (iI ((n0 : Nat) : Int))), (3, .int (iI wh)), (4, .long (lI ((cv ^ i : Nat) : Int))), (6, .long (lI ((6 ^ i : Nat) : Int))), (8, .int (iI ((cv : Nat) : Int))), (9, .int (iI ((i : Nat) : Int)))] → W pg l e { frames := 1, cells := 0, slots := 0, locals := 25 } s m args below meth c H locs 0 0 Q (F0 m 91 ls []) := by
                intro k3
                induction k3 with
                | zero =>
                  intro i H locs ls hki hP hD hS hl
                  refine lv_iload hx hb dX5_odds_91 (lv_at hl 7 rfl) ?_
                  refine lv_iload_n hx hb dX5_odds_93 rfl (lv_at hl 2 rfl) ?_
                  refine x_icmp_ge (tgt := 119) hx hb (by omega) (by omega) dX5_odds_94 (by decide) (fun c_94 => ?_) (fun c_94 => ?_)
                  · have e_i : n0 = i := by omega
                    subst e_i
                    refine lv_lload hx hb dX5_odds_119 (lv_at hl 5 rfl) ?_
                    have hpw := pw_b (c := cv) (n := n0) (by omega) (by omega)
                    refine lv_lstore (lv' := [(9, .long (lI ((6 ^ n0 : Nat) : Int))), (0, .ref (r 0)), (1, .int (iI ((p0 : Nat) : Int))), (2, .int (iI ((n0 : Nat) : Int))), (3, .int (iI wh)), (4, .long (lI ((cv ^ n0 : Nat) : Int))), (6, .long (lI ((6 ^ n0 : Nat) : Int))), (8, .int (iI ((cv : Nat) : Int)))]) hx hb dX5_odds_121 hl (by decide) rfl (fun ls hl => ?_)
                    refine lv_lload hx hb dX5_odds_123 (lv_at hl 5 rfl) ?_
                    refine lv_lstore (lv' := [(11, .long (lI ((cv ^ n0 : Nat) : Int))), (9, .long (lI ((6 ^ n0 : Nat) : Int))), (0, .ref (r 0)), (1, .int (iI ((p0 : Nat) : Int))), (2, .int (iI ((n0 : Nat) : Int))), (3, .int (iI wh)), (4, .long (lI ((cv ^ n0 : Nat) : Int))), (6, .long (lI ((6 ^ n0 : Nat) : Int))), (8, .int (iI ((cv : Nat) : Int)))]) hx hb dX5_odds_125 hl (by decide) rfl (fun ls hl => ?_)
                    have L127 : ∀ (k4 f : Nat) (av : Nat) (bv : Nat) (H : Heap) (locs : List Loc) (ls : Array Slot), f + k4 = 1000000000000000000 → (Nat.gcd av bv = Nat.gcd (6 ^ n0) (cv ^ n0)) → (0 < av ∧ av ≤ 1000000000000000000) → (bv + f ≤ 1000000000000000000) → va_P D vwCl (wRo r ik tn j ++ (wA cI (r 1) 100 T ++ (wA cI (r 2) 100 K ++ (wA cI (r 3) 100 X ++ (wA cI (r 4) 100 Y ++ (wA cI (r 5) 8 (fR F) ++ (wA cI (r 6) 120 TB ++ (wA cI (r 7) 4 (bR SB) ++ (wA cI (r 8) 4 SS ++ (wA cI (r 9) 160 SN)))))))))) H → va_D A (wRo r ik tn j ++ (wA cI (r 1) 100 T ++ (wA cI (r 2) 100 K ++ (wA cI (r 3) 100 X ++ (wA cI (r 4) 100 Y ++ (wA cI (r 5) 8 (fR F) ++ (wA cI (r 6) 120 TB ++ (wA cI (r 7) 4 (bR SB) ++ (wA cI (r 8) 4 SS ++ (wA cI (r 9) 160 SN)))))))))) → va_S A s.heap H locs → lv_has ls 15 [(0, .ref (r 0)), (1, .int (iI ((p0 : Nat) : Int))), (2, .int (iI ((n0 : Nat) : Int))), (3, .int (iI wh)), (4, .long (lI ((cv ^ n0 : Nat) : Int))), (6, .long (lI ((6 ^ n0 : Nat) : Int))), (8, .int (iI ((cv : Nat) : Int))), (9, .long (lI ((av : Nat) : Int))), (11, .long (lI ((bv : Nat) : Int)))] → W pg l e { frames := 1, cells := 0, slots := 0, locals := 25 } s m args below meth c H locs 0 0 Q (F0 m 127 ls []) := by
                      intro k4
                      induction k4 with
                      | zero =>
                        intro f av bv H locs ls hkf hg ha9 hb9 hP hD hS hl
                        refine lv_lload hx hb dX5_odds_127 (lv_at hl 8 rfl) ?_
                        refine x_lconst hx hb 0 rfl dX5_odds_129 ?_
                        refine x_lcmp_eq (tgt := 152) hx hb (by omega) (by decide) dX5_odds_130 dX5_odds_131 (by decide) (fun c_130 => ?_) (fun c_130 => ?_)
                        · have e_g : av = Nat.gcd (6 ^ n0) (cv ^ n0) := by rw [← hg]; obtain rfl : bv = 0 := (by omega); exact (Nat.gcd_zero_right av).symm
                          refine lv_iload_n hx hb dX5_odds_152 rfl (lv_at hl 3 rfl) ?_
                          refine x_if_ne (tgt := 164) hx hb (by omega) dX5_odds_153 (by decide) (fun c_153 => ?_) (fun c_153 => ?_)
                          · refine lv_lload hx hb dX5_odds_164 (lv_at hl 5 rfl) ?_
                            refine lv_lload hx hb dX5_odds_166 (lv_at hl 7 rfl) ?_
                            refine x_ldiv hx hb (by omega) (by omega) (by omega) (by omega) dX5_odds_168 ?_
                            exact kend ((((6 ^ n0 : Nat) : Int) / ((av : Nat) : Int), T, K, ik, SB, SS, SN, tn, TB, F), X, Y, j) hP hS rfl (by unfold m_odds; rw [if_pos (by omega)]; simp only [Int.toNat_natCast]; rw [← hr, if_neg (by omega), e_g, od_b (by omega)] <;> rfl) dX5_odds_169
                          · refine lv_lload hx hb dX5_odds_156 (lv_at hl 4 rfl) ?_
                            refine lv_lload hx hb dX5_odds_158 (lv_at hl 7 rfl) ?_
                            refine x_ldiv hx hb (by omega) (by omega) (by omega) (by omega) dX5_odds_160 ?_
                            refine lv_goto (tgt := 169) hx hb dX5_odds_161 (by decide) ?_
                            exact kend ((((cv ^ n0 : Nat) : Int) / ((av : Nat) : Int), T, K, ik, SB, SS, SN, tn, TB, F), X, Y, j) hP hS rfl (by unfold m_odds; rw [if_pos (by omega)]; simp only [Int.toNat_natCast]; rw [← hr, if_pos (by omega), e_g, od_a (by omega)] <;> rfl) dX5_odds_169
                        · exfalso; omega
                      | succ k4 ih4 =>
                        intro f av bv H locs ls hkf hg ha9 hb9 hP hD hS hl
                        refine lv_lload hx hb dX5_odds_127 (lv_at hl 8 rfl) ?_
                        refine x_lconst hx hb 0 rfl dX5_odds_129 ?_
                        refine x_lcmp_eq (tgt := 152) hx hb (by omega) (by decide) dX5_odds_130 dX5_odds_131 (by decide) (fun c_130 => ?_) (fun c_130 => ?_)
                        · have e_g : av = Nat.gcd (6 ^ n0) (cv ^ n0) := by rw [← hg]; obtain rfl : bv = 0 := (by omega); exact (Nat.gcd_zero_right av).symm
                          refine lv_iload_n hx hb dX5_odds_152 rfl (lv_at hl 3 rfl) ?_
                          refine x_if_ne (tgt := 164) hx hb (by omega) dX5_odds_153 (by decide) (fun c_153 => ?_) (fun c_153 => ?_)
                          · refine lv_lload hx hb dX5_odds_164 (lv_at hl 5 rfl) ?_
                            refine lv_lload hx hb dX5_odds_166 (lv_at hl 7 rfl) ?_
                            refine x_ldiv hx hb (by omega) (by omega) (by omega) (by omega) dX5_odds_168 ?_
                            exact kend ((((6 ^ n0 : Nat) : Int) / ((av : Nat) : Int), T, K, ik, SB, SS, SN, tn, TB, F), X, Y, j) hP hS rfl (by unfold m_odds; rw [if_pos (by omega)]; simp only [Int.toNat_natCast]; rw [← hr, if_neg (by omega), e_g, od_b (by omega)] <;> rfl) dX5_odds_169
                          · refine lv_lload hx hb dX5_odds_156 (lv_at hl 4 rfl) ?_
                            refine lv_lload hx hb dX5_odds_158 (lv_at hl 7 rfl) ?_
                            refine x_ldiv hx hb (by omega) (by omega) (by omega) (by omega) dX5_odds_160 ?_
                            refine lv_goto (tgt := 169) hx hb dX5_odds_161 (by decide) ?_
                            exact kend ((((cv ^ n0 : Nat) : Int) / ((av : Nat) : Int), T, K, ik, SB, SS, SN, tn, TB, F), X, Y, j) hP hS rfl (by unfold m_odds; rw [if_pos (by omega)]; simp only [Int.toNat_natCast]; rw [← hr, if_pos (by omega), e_g, od_a (by omega)] <;> rfl) dX5_odds_169
                        · refine lv_lload hx hb dX5_odds_134 (lv_at hl 7 rfl) ?_
                          refine lv_lload hx hb dX5_odds_136 (lv_at hl 8 rfl) ?_
                          refine x_lrem hx hb (by omega) (by omega) (by omega) (by omega) dX5_odds_138 ?_
                          refine x_topl ((av % bv : Nat) : Int) rfl ?_
                          refine lv_lstore (lv' := [(13, .long (lI ((av % bv : Nat) : Int))), (0, .ref (r 0)), (1, .int (iI ((p0 : Nat) : Int))), (2, .int (iI ((n0 : Nat) : Int))), (3, .int (iI wh)), (4, .long (lI ((cv ^ n0 : Nat) : Int))), (6, .long (lI ((6 ^ n0 : Nat) : Int))), (8, .int (iI ((cv : Nat) : Int))), (9, .long (lI ((av : Nat) : Int))), (11, .long (lI ((bv : Nat) : Int)))]) hx hb dX5_odds_139 hl (by decide) rfl (fun ls hl => ?_)
                          have hmod := Nat.mod_lt av (show bv > 0 by omega)
                          refine lv_lload hx hb dX5_odds_141 (lv_at hl 9 rfl) ?_
                          refine lv_lstore (lv' := [(9, .long (lI ((bv : Nat) : Int))), (13, .long (lI ((av % bv : Nat) : Int))), (0, .ref (r 0)), (1, .int (iI ((p0 : Nat) : Int))), (2, .int (iI ((n0 : Nat) : Int))), (3, .int (iI wh)), (4, .long (lI ((cv ^ n0 : Nat) : Int))), (6, .long (lI ((6 ^ n0 : Nat) : Int))), (8, .int (iI ((cv : Nat) : Int))), (11, .long (lI ((bv : Nat) : Int)))]) hx hb dX5_odds_143 hl (by decide) rfl (fun ls hl => ?_)
                          refine lv_lload hx hb dX5_odds_145 (lv_at hl 1 rfl) ?_
                          refine lv_lstore (lv' := [(11, .long (lI ((av % bv : Nat) : Int))), (9, .long (lI ((bv : Nat) : Int))), (13, .long (lI ((av % bv : Nat) : Int))), (0, .ref (r 0)), (1, .int (iI ((p0 : Nat) : Int))), (2, .int (iI ((n0 : Nat) : Int))), (3, .int (iI wh)), (4, .long (lI ((cv ^ n0 : Nat) : Int))), (6, .long (lI ((6 ^ n0 : Nat) : Int))), (8, .int (iI ((cv : Nat) : Int)))]) hx hb dX5_odds_147 hl (by decide) rfl (fun ls hl => ?_)
                          refine lv_goto (tgt := 127) hx hb dX5_odds_149 (by decide) ?_
                          exact ih4 (f + 1) bv (av % bv) _ _ _ (by omega) (by rw [← hg]; exact (gcd_st av bv).symm) (by omega) (by omega) hP hD hS (lv_sub hl [3, 4, 5, 6, 7, 8, 9, 1, 0] rfl)
                    exact L127 1000000000000000000 0 (6 ^ n0) (cv ^ n0) _ _ _ (by omega) rfl (by omega) (by omega) hP hD hS (lv_sub hl [2, 3, 4, 5, 6, 7, 8, 1, 0] rfl)
                  · exfalso; omega
                | succ k3 ih3 =>
                  intro i H locs ls hki hP hD hS hl
                  refine lv_iload hx hb dX5_odds_91 (lv_at hl 7 rfl) ?_
                  refine lv_iload_n hx hb dX5_odds_93 rfl (lv_at hl 2 rfl) ?_
                  refine x_icmp_ge (tgt := 119) hx hb (by omega) (by omega) dX5_odds_94 (by decide) (fun c_94 => ?_) (fun c_94 => ?_)
                  · exfalso; omega
                  · refine lv_lload hx hb dX5_odds_97 (lv_at hl 4 rfl) ?_
                    refine lv_iload hx hb dX5_odds_99 (lv_at hl 6 rfl) ?_
                    refine x_i2l hx hb (by omega) dX5_odds_101 ?_
                    refine x_lmul hx hb dX5_odds_102 ?_
                    refine x_topl ((cv ^ (i + 1) : Nat) : Int) (by rw [Nat.pow_succ]; push_cast; rfl) ?_
                    refine lv_lstore (lv' := [(4, .long (lI ((cv ^ (i + 1) : Nat) : Int))), (0, .ref (r 0)), (1, .int (iI ((p0 : Nat) : Int))), (2, .int (iI ((n0 : Nat) : Int))), (3, .int (iI wh)), (6, .long (lI ((6 ^ i : Nat) : Int))), (8, .int (iI ((cv : Nat) : Int))), (9, .int (iI ((i : Nat) : Int)))]) hx hb dX5_odds_103 hl (by decide) rfl (fun ls hl => ?_)
                    refine lv_lload hx hb dX5_odds_105 (lv_at hl 5 rfl) ?_
                    refine x_ldc2 hx hb 6 rfl hown (hts (.constantLong RX5 62 (6)) (by decide +kernel)) dX5_odds_107 ?_
                    refine x_lmul hx hb dX5_odds_110 ?_
                    refine x_topl ((6 ^ (i + 1) : Nat) : Int) (by rw [Nat.pow_succ]; push_cast; rfl) ?_
                    refine lv_lstore (lv' := [(6, .long (lI ((6 ^ (i + 1) : Nat) : Int))), (4, .long (lI ((cv ^ (i + 1) : Nat) : Int))), (0, .ref (r 0)), (1, .int (iI ((p0 : Nat) : Int))), (2, .int (iI ((n0 : Nat) : Int))), (3, .int (iI wh)), (8, .int (iI ((cv : Nat) : Int))), (9, .int (iI ((i : Nat) : Int)))]) hx hb dX5_odds_111 hl (by decide) rfl (fun ls hl => ?_)
                    refine x_iinc hx hb 7 ((i + 1 : Nat) : Int) (by omega) [(9, .int (iI ((i + 1 : Nat) : Int))), (6, .long (lI ((6 ^ (i + 1) : Nat) : Int))), (4, .long (lI ((cv ^ (i + 1) : Nat) : Int))), (0, .ref (r 0)), (1, .int (iI ((p0 : Nat) : Int))), (2, .int (iI ((n0 : Nat) : Int))), (3, .int (iI wh)), (8, .int (iI ((cv : Nat) : Int)))] dX5_odds_113 hl rfl (by decide) rfl (fun ls hl => ?_)
                    refine lv_goto (tgt := 91) hx hb dX5_odds_116 (by decide) ?_
                    exact ih3 (i + 1) _ _ _ (by omega) hP hD hS (lv_sub hl [3, 4, 5, 6, 2, 1, 7, 0] rfl)
              exact L91 n0 0 _ _ _ (by omega) hP hD hS (lv_sub hl [1, 2, 3, 4, 5, 6, 7, 0] rfl)
            · exfalso; omega
          | succ k ih =>
            intro t cv H locs ls hkt hr hc hP hD hS hl
            refine lv_iload hx hb dX5_odds_50 (lv_at hl 7 rfl) ?_
            refine x_bipush hx hb dX5_odds_52 (by decide) ?_
            refine x_icmp_ge (tgt := 88) hx hb (by omega) (by decide) dX5_odds_54 (by decide) (fun c_54 => ?_) (fun c_54 => ?_)
            · exfalso; omega
            · refine lv_iload hx hb dX5_odds_57 (lv_at hl 6 rfl) ?_
              refine lv_aload_n hx hb dX5_odds_59 rfl (lv_at hl 0 rfl) ?_
              refine lv_aload_n hx hb dX5_odds_60 rfl (lv_at hl 0 rfl) ?_
              refine lv_iload_n hx hb dX5_odds_61 rfl (lv_at hl 1 rfl) ?_
              refine x_iconst hx hb dX5_odds_62 ?_
              refine x_callV (As := [.int (iI ((p0 : Nat) : Int)), .int (iI 0)]) (rest := [.ref (r 0), .int (iI ((cv : Nat) : Int))]) ⟨hx, hb, hml, hown, hts⟩ (kX5_its r ik tn j T p0 0 (by omega) (by omega)) (cwV 2 hts gX5_odds_X5_its rfl rfl rfl ykVX5_its ⟨Nat.le_of_ble_eq_true rfl, Nat.le_of_ble_eq_true rfl⟩) hP hK hD hS 0 4 rfl rfl rfl [0, 1] rfl (by decide) (fun _ => rfl) (fun _ => wRo r ik tn j ++ (wA cI (r 1) 100 T ++ (wA cI (r 2) 100 K ++ (wA cI (r 3) 100 X ++ (wA cI (r 4) 100 Y ++ (wA cI (r 5) 8 (fR F) ++ (wA cI (r 6) 120 TB ++ (wA cI (r 7) 4 (bR SB) ++ (wA cI (r 8) 4 SS ++ (wA cI (r 9) 160 SN)))))))))) (fun _ => rfl) rfl hl.1 rfl (Nat.le_of_ble_eq_true rfl) dX5_odds_63 ⟨Nat.le_of_ble_eq_true rfl, Nat.le_of_ble_eq_true rfl⟩ (fun _ H locs _ hP hD hS => ?_)
              refine W.eq (g2 := F0 m 66 ls [.int (iI (T (cx p0 0))), .ref (r 0), .int (iI ((cv : Nat) : Int))]) rfl ?_
              refine lv_iload hx hb dX5_odds_66 (lv_at hl 7 rfl) ?_
              have hcb := chF_b (t := (t : Int)) hkd hvn
              refine x_callV (As := [.int (iI (T (cx p0 0))), .int (iI ((t : Nat) : Int))]) (rest := [.int (iI ((cv : Nat) : Int))]) ⟨hx, hb, hml, hown, hts⟩ (kX5_chewsOf r ik tn j T (T (cx p0 0)) t (by omega) (by omega) hvn) (cwV 2 hts gX5_odds_X5_chewsOf rfl rfl rfl ykVX5_chewsOf ⟨Nat.le_of_ble_eq_true rfl, Nat.le_of_ble_eq_true rfl⟩) hP hK hD hS 0 4 rfl rfl rfl [0, 1] rfl (by decide) (fun _ => rfl) (fun _ => wRo r ik tn j ++ (wA cI (r 1) 100 T ++ (wA cI (r 2) 100 K ++ (wA cI (r 3) 100 X ++ (wA cI (r 4) 100 Y ++ (wA cI (r 5) 8 (fR F) ++ (wA cI (r 6) 120 TB ++ (wA cI (r 7) 4 (bR SB) ++ (wA cI (r 8) 4 SS ++ (wA cI (r 9) 160 SN)))))))))) (fun _ => rfl) rfl hl.1 rfl (Nat.le_of_ble_eq_true rfl) dX5_odds_68 ⟨Nat.le_of_ble_eq_true rfl, Nat.le_of_ble_eq_true rfl⟩ (fun _ H locs _ hP hD hS => ?_)
              refine W.eq (g2 := F0 m 71 ls [.int (iI (chF (T (cx p0 0)) ((t : Nat) : Int) (T 3))), .int (iI ((cv : Nat) : Int))]) rfl ?_
              refine x_if_lt (tgt := 78) hx hb (by omega) dX5_odds_71 (by decide) (fun c_71 => ?_) (fun c_71 => ?_)
              · refine x_iconst hx hb dX5_odds_78 ?_
                refine x_iadd hx hb dX5_odds_79 ?_
                refine x_topi ((cv + 0 : Nat) : Int) (by omega) ?_
                refine lv_istore (lv' := [(8, .int (iI ((cv + 0 : Nat) : Int))), (0, .ref (r 0)), (1, .int (iI ((p0 : Nat) : Int))), (2, .int (iI ((n0 : Nat) : Int))), (3, .int (iI wh)), (4, .long (lI 1)), (6, .long (lI 1)), (9, .int (iI ((t : Nat) : Int)))]) hx hb dX5_odds_80 hl (by decide) rfl (fun ls hl => ?_)
                refine x_iinc hx hb 7 ((t + 1 : Nat) : Int) (by omega) [(9, .int (iI ((t + 1 : Nat) : Int))), (8, .int (iI ((cv + 0 : Nat) : Int))), (0, .ref (r 0)), (1, .int (iI ((p0 : Nat) : Int))), (2, .int (iI ((n0 : Nat) : Int))), (3, .int (iI wh)), (4, .long (lI 1)), (6, .long (lI 1))] dX5_odds_82 hl rfl (by decide) rfl (fun ls hl => ?_)
                refine lv_goto (tgt := 50) hx hb dX5_odds_85 (by decide) ?_
                exact ih (t + 1) (cv + 0) _ _ _ (by omega) (run_step hr (if_neg (by omega))) (by omega) hP hD hS (lv_sub hl [2, 3, 4, 5, 6, 7, 1, 0] rfl)
              · refine x_iconst hx hb dX5_odds_74 ?_
                refine lv_goto (tgt := 79) hx hb dX5_odds_75 (by decide) ?_
                refine x_iadd hx hb dX5_odds_79 ?_
                refine x_topi ((cv + 1 : Nat) : Int) (by omega) ?_
                refine lv_istore (lv' := [(8, .int (iI ((cv + 1 : Nat) : Int))), (0, .ref (r 0)), (1, .int (iI ((p0 : Nat) : Int))), (2, .int (iI ((n0 : Nat) : Int))), (3, .int (iI wh)), (4, .long (lI 1)), (6, .long (lI 1)), (9, .int (iI ((t : Nat) : Int)))]) hx hb dX5_odds_80 hl (by decide) rfl (fun ls hl => ?_)
                refine x_iinc hx hb 7 ((t + 1 : Nat) : Int) (by omega) [(9, .int (iI ((t + 1 : Nat) : Int))), (8, .int (iI ((cv + 1 : Nat) : Int))), (0, .ref (r 0)), (1, .int (iI ((p0 : Nat) : Int))), (2, .int (iI ((n0 : Nat) : Int))), (3, .int (iI wh)), (4, .long (lI 1)), (6, .long (lI 1))] dX5_odds_82 hl rfl (by decide) rfl (fun ls hl => ?_)
                refine lv_goto (tgt := 50) hx hb dX5_odds_85 (by decide) ?_
                exact ih (t + 1) (cv + 1) _ _ _ (by omega) (run_step hr (if_pos (by omega))) (by omega) hP hD hS (lv_sub hl [2, 3, 4, 5, 6, 7, 1, 0] rfl)
        exact L50 6 0 0 _ _ _ (by omega) rfl (Nat.le_refl 0) hP hD hS (lv_sub hl [4, 5, 6, 7, 3, 2, 1, 0] rfl)
      · refine lv_aload_n hx hb dX5_odds_30 rfl (lv_at hl 0 rfl) ?_
        refine x_ldc hx hb (-1000001) rfl hown (hts (.constant RX5 37 (-1000001)) (by decide +kernel)) dX5_odds_31 ?_
        refine x_callV (As := [.int (iI (-1000001))]) (rest := []) ⟨hx, hb, hml, hown, hts⟩ (kX5_finds r ik tn j F (-1000001) 0 (by omega) (by omega)) (cwV 1 hts gX5_odds_X5_finds rfl rfl rfl ykVX5_finds ⟨Nat.le_of_ble_eq_true rfl, Nat.le_of_ble_eq_true rfl⟩) hP hK hD hS 0 4 rfl rfl rfl [0, 5] rfl (by decide) (fun _ => rfl) (fun _ => wRo r ik tn j ++ (wA cI (r 1) 100 T ++ (wA cI (r 2) 100 K ++ (wA cI (r 3) 100 X ++ (wA cI (r 4) 100 Y ++ (wA cI (r 5) 8 (fR (bmp 0 F)) ++ (wA cI (r 6) 120 TB ++ (wA cI (r 7) 4 (bR SB) ++ (wA cI (r 8) 4 SS ++ (wA cI (r 9) 160 SN)))))))))) (fun _ => rfl) rfl hl.1 rfl (Nat.le_of_ble_eq_true rfl) dX5_odds_33 ⟨Nat.le_of_ble_eq_true rfl, Nat.le_of_ble_eq_true rfl⟩ (fun _ H locs _ hP hD hS => ?_)
        refine W.eq (g2 := F0 m 36 ls [.int (iI (-1000001))]) rfl ?_
        refine x_i2l hx hb (by omega) dX5_odds_36 ?_
        exact kend (((-1000001), T, K, ik, SB, SS, SN, tn, TB, (bmp 0 F)), X, Y, j) hP hS rfl (if_neg (by omega)).symm dX5_odds_37
