theorem ykSJ6_bitCount_0f7a4 : yJ6_bitCount_0f7a4.cls ≠ "java/lang/invoke/MethodHandle" ∧ yJ6_bitCount_0f7a4.cls ≠ "java/lang/invoke/VarHandle" ∧ (parseMethodDescriptor yJ6_bitCount_0f7a4.desc).map (fun d => d.parameters.length) = some 1 := by decide +kernel
theorem ykVJ6_bitCount_0f7a4 : yJ6_bitCount_0f7a4.cls = RJ6 ∧ yJ6_bitCount_0f7a4.cls ≠ "java/lang/invoke/MethodHandle" ∧ yJ6_bitCount_0f7a4.cls ≠ "java/lang/invoke/VarHandle" ∧ (parseMethodDescriptor yJ6_bitCount_0f7a4.desc).map (fun d => d.parameters.length) = some 1 := ⟨rfl, ykSJ6_bitCount_0f7a4⟩
set_option maxHeartbeats 4000000 in
set_option maxRecDepth 100000 in
theorem kJ6_bitCount_0f7a4 {l : Launch} {D : va_G} {cI cB : ClassId} (i : Nat) (hi : i < 257) : Ct l yJ6_bitCount_0f7a4 wsJ6_bitCount_0f7a4 0 0 D [(cI, .int), (cB, .byte)] [.int (iI ((i : Nat) : Int))] (([] : va_W)) (S := Unit) (fun _ => some (.int (iI ((bcF i : Nat) : Int)))) (fun _ => True) (fun _ => ([] : va_W)) := by
  refine CtI.of (cc := cJ6_bitCount_0f7a4) (maxL := 1) (by decide +kernel) rfl (Nat.le_of_ble_eq_true rfl) ?_
  intro pg e s m args below meth c Q A hx hb hml hts hown hP hK hD hS ls hl kend
  have hown : s.vm.findClass RJ6 = some m.cls := hown
  have hl : lv_has ls 1 [(0, .int (iI ((i : Nat) : Int)))] := hl
  refine lv_iload_n hx hb dJ6_bitCount_0f7a4_0 rfl (lv_at hl 0 rfl) ?_
  refine lv_iload_n hx hb dJ6_bitCount_0f7a4_1 rfl (lv_at hl 0 rfl) ?_
  refine x_iconst hx hb dJ6_bitCount_0f7a4_2 ?_
  refine x_iushr hx hb dJ6_bitCount_0f7a4_3 ?_
  refine x_ldcw hx hb 1431655765 rfl hown (hts (.constant RJ6 265 (1431655765)) (by decide +kernel)) dJ6_bitCount_0f7a4_4 ?_
  refine x_iand hx hb dJ6_bitCount_0f7a4_7 ?_
  refine x_isub hx hb dJ6_bitCount_0f7a4_8 ?_
  refine lv_istore_n (lv' := [(0, .int (iI (((i : Nat) : Int) - (andI (ushrI ((i : Nat) : Int) 1) 1431655765))))]) hx hb dJ6_bitCount_0f7a4_9 rfl hl (by decide) rfl (fun ls hl => ?_)
  refine lv_iload_n hx hb dJ6_bitCount_0f7a4_10 rfl (lv_at hl 0 rfl) ?_
  refine x_ldcw hx hb 858993459 rfl hown (hts (.constant RJ6 266 (858993459)) (by decide +kernel)) dJ6_bitCount_0f7a4_11 ?_
  refine x_iand hx hb dJ6_bitCount_0f7a4_14 ?_
  refine lv_iload_n hx hb dJ6_bitCount_0f7a4_15 rfl (lv_at hl 0 rfl) ?_
  refine x_iconst hx hb dJ6_bitCount_0f7a4_16 ?_
  refine x_iushr hx hb dJ6_bitCount_0f7a4_17 ?_
  refine x_ldcw hx hb 858993459 rfl hown (hts (.constant RJ6 266 (858993459)) (by decide +kernel)) dJ6_bitCount_0f7a4_18 ?_
  refine x_iand hx hb dJ6_bitCount_0f7a4_21 ?_
  refine x_iadd hx hb dJ6_bitCount_0f7a4_22 ?_
  refine lv_istore_n (lv' := [(0, .int (iI ((andI (((i : Nat) : Int) - (andI (ushrI ((i : Nat) : Int) 1) 1431655765)) 858993459) + (andI (ushrI (((i : Nat) : Int) - (andI (ushrI ((i : Nat) : Int) 1) 1431655765)) 2) 858993459))))]) hx hb dJ6_bitCount_0f7a4_23 rfl hl (by decide) rfl (fun ls hl => ?_)
  refine lv_iload_n hx hb dJ6_bitCount_0f7a4_24 rfl (lv_at hl 0 rfl) ?_
  refine lv_iload_n hx hb dJ6_bitCount_0f7a4_25 rfl (lv_at hl 0 rfl) ?_
  refine x_iconst hx hb dJ6_bitCount_0f7a4_26 ?_
  refine x_iushr hx hb dJ6_bitCount_0f7a4_27 ?_
  refine x_iadd hx hb dJ6_bitCount_0f7a4_28 ?_
  refine x_ldcw hx hb 252645135 rfl hown (hts (.constant RJ6 267 (252645135)) (by decide +kernel)) dJ6_bitCount_0f7a4_29 ?_
  refine x_iand hx hb dJ6_bitCount_0f7a4_32 ?_
  refine lv_istore_n (lv' := [(0, .int (iI (andI (((andI (((i : Nat) : Int) - (andI (ushrI ((i : Nat) : Int) 1) 1431655765)) 858993459) + (andI (ushrI (((i : Nat) : Int) - (andI (ushrI ((i : Nat) : Int) 1) 1431655765)) 2) 858993459)) + (ushrI ((andI (((i : Nat) : Int) - (andI (ushrI ((i : Nat) : Int) 1) 1431655765)) 858993459) + (andI (ushrI (((i : Nat) : Int) - (andI (ushrI ((i : Nat) : Int) 1) 1431655765)) 2) 858993459)) 4)) 252645135)))]) hx hb dJ6_bitCount_0f7a4_33 rfl hl (by decide) rfl (fun ls hl => ?_)
  refine lv_iload_n hx hb dJ6_bitCount_0f7a4_34 rfl (lv_at hl 0 rfl) ?_
  refine lv_iload_n hx hb dJ6_bitCount_0f7a4_35 rfl (lv_at hl 0 rfl) ?_
  refine x_bipush hx hb dJ6_bitCount_0f7a4_36 (by decide) ?_
  refine x_iushr hx hb dJ6_bitCount_0f7a4_38 ?_
  refine x_iadd hx hb dJ6_bitCount_0f7a4_39 ?_
  refine lv_istore_n (lv' := [(0, .int (iI ((andI (((andI (((i : Nat) : Int) - (andI (ushrI ((i : Nat) : Int) 1) 1431655765)) 858993459) + (andI (ushrI (((i : Nat) : Int) - (andI (ushrI ((i : Nat) : Int) 1) 1431655765)) 2) 858993459)) + (ushrI ((andI (((i : Nat) : Int) - (andI (ushrI ((i : Nat) : Int) 1) 1431655765)) 858993459) + (andI (ushrI (((i : Nat) : Int) - (andI (ushrI ((i : Nat) : Int) 1) 1431655765)) 2) 858993459)) 4)) 252645135) + (ushrI (andI (((andI (((i : Nat) : Int) - (andI (ushrI ((i : Nat) : Int) 1) 1431655765)) 858993459) + (andI (ushrI (((i : Nat) : Int) - (andI (ushrI ((i : Nat) : Int) 1) 1431655765)) 2) 858993459)) + (ushrI ((andI (((i : Nat) : Int) - (andI (ushrI ((i : Nat) : Int) 1) 1431655765)) 858993459) + (andI (ushrI (((i : Nat) : Int) - (andI (ushrI ((i : Nat) : Int) 1) 1431655765)) 2) 858993459)) 4)) 252645135) 8))))]) hx hb dJ6_bitCount_0f7a4_40 rfl hl (by decide) rfl (fun ls hl => ?_)
  refine lv_iload_n hx hb dJ6_bitCount_0f7a4_41 rfl (lv_at hl 0 rfl) ?_
  refine lv_iload_n hx hb dJ6_bitCount_0f7a4_42 rfl (lv_at hl 0 rfl) ?_
  refine x_bipush hx hb dJ6_bitCount_0f7a4_43 (by decide) ?_
  refine x_iushr hx hb dJ6_bitCount_0f7a4_45 ?_
  refine x_iadd hx hb dJ6_bitCount_0f7a4_46 ?_
  refine lv_istore_n (lv' := [(0, .int (iI (((andI (((andI (((i : Nat) : Int) - (andI (ushrI ((i : Nat) : Int) 1) 1431655765)) 858993459) + (andI (ushrI (((i : Nat) : Int) - (andI (ushrI ((i : Nat) : Int) 1) 1431655765)) 2) 858993459)) + (ushrI ((andI (((i : Nat) : Int) - (andI (ushrI ((i : Nat) : Int) 1) 1431655765)) 858993459) + (andI (ushrI (((i : Nat) : Int) - (andI (ushrI ((i : Nat) : Int) 1) 1431655765)) 2) 858993459)) 4)) 252645135) + (ushrI (andI (((andI (((i : Nat) : Int) - (andI (ushrI ((i : Nat) : Int) 1) 1431655765)) 858993459) + (andI (ushrI (((i : Nat) : Int) - (andI (ushrI ((i : Nat) : Int) 1) 1431655765)) 2) 858993459)) + (ushrI ((andI (((i : Nat) : Int) - (andI (ushrI ((i : Nat) : Int) 1) 1431655765)) 858993459) + (andI (ushrI (((i : Nat) : Int) - (andI (ushrI ((i : Nat) : Int) 1) 1431655765)) 2) 858993459)) 4)) 252645135) 8)) + (ushrI ((andI (((andI (((i : Nat) : Int) - (andI (ushrI ((i : Nat) : Int) 1) 1431655765)) 858993459) + (andI (ushrI (((i : Nat) : Int) - (andI (ushrI ((i : Nat) : Int) 1) 1431655765)) 2) 858993459)) + (ushrI ((andI (((i : Nat) : Int) - (andI (ushrI ((i : Nat) : Int) 1) 1431655765)) 858993459) + (andI (ushrI (((i : Nat) : Int) - (andI (ushrI ((i : Nat) : Int) 1) 1431655765)) 2) 858993459)) 4)) 252645135) + (ushrI (andI (((andI (((i : Nat) : Int) - (andI (ushrI ((i : Nat) : Int) 1) 1431655765)) 858993459) + (andI (ushrI (((i : Nat) : Int) - (andI (ushrI ((i : Nat) : Int) 1) 1431655765)) 2) 858993459)) + (ushrI ((andI (((i : Nat) : Int) - (andI (ushrI ((i : Nat) : Int) 1) 1431655765)) 858993459) + (andI (ushrI (((i : Nat) : Int) - (andI (ushrI ((i : Nat) : Int) 1) 1431655765)) 2) 858993459)) 4)) 252645135) 8)) 16))))]) hx hb dJ6_bitCount_0f7a4_47 rfl hl (by decide) rfl (fun ls hl => ?_)
  refine lv_iload_n hx hb dJ6_bitCount_0f7a4_48 rfl (lv_at hl 0 rfl) ?_
  refine x_bipush hx hb dJ6_bitCount_0f7a4_49 (by decide) ?_
  refine x_iand hx hb dJ6_bitCount_0f7a4_51 ?_
  exact kend () hP hS (an_i ((show ∀ i : Nat, i < 257 → andI (((andI (((andI (((i : Nat) : Int) - (andI (ushrI ((i : Nat) : Int) 1) 1431655765)) 858993459) + (andI (ushrI (((i : Nat) : Int) - (andI (ushrI ((i : Nat) : Int) 1) 1431655765)) 2) 858993459)) + (ushrI ((andI (((i : Nat) : Int) - (andI (ushrI ((i : Nat) : Int) 1) 1431655765)) 858993459) + (andI (ushrI (((i : Nat) : Int) - (andI (ushrI ((i : Nat) : Int) 1) 1431655765)) 2) 858993459)) 4)) 252645135) + (ushrI (andI (((andI (((i : Nat) : Int) - (andI (ushrI ((i : Nat) : Int) 1) 1431655765)) 858993459) + (andI (ushrI (((i : Nat) : Int) - (andI (ushrI ((i : Nat) : Int) 1) 1431655765)) 2) 858993459)) + (ushrI ((andI (((i : Nat) : Int) - (andI (ushrI ((i : Nat) : Int) 1) 1431655765)) 858993459) + (andI (ushrI (((i : Nat) : Int) - (andI (ushrI ((i : Nat) : Int) 1) 1431655765)) 2) 858993459)) 4)) 252645135) 8)) + (ushrI ((andI (((andI (((i : Nat) : Int) - (andI (ushrI ((i : Nat) : Int) 1) 1431655765)) 858993459) + (andI (ushrI (((i : Nat) : Int) - (andI (ushrI ((i : Nat) : Int) 1) 1431655765)) 2) 858993459)) + (ushrI ((andI (((i : Nat) : Int) - (andI (ushrI ((i : Nat) : Int) 1) 1431655765)) 858993459) + (andI (ushrI (((i : Nat) : Int) - (andI (ushrI ((i : Nat) : Int) 1) 1431655765)) 2) 858993459)) 4)) 252645135) + (ushrI (andI (((andI (((i : Nat) : Int) - (andI (ushrI ((i : Nat) : Int) 1) 1431655765)) 858993459) + (andI (ushrI (((i : Nat) : Int) - (andI (ushrI ((i : Nat) : Int) 1) 1431655765)) 2) 858993459)) + (ushrI ((andI (((i : Nat) : Int) - (andI (ushrI ((i : Nat) : Int) 1) 1431655765)) 858993459) + (andI (ushrI (((i : Nat) : Int) - (andI (ushrI ((i : Nat) : Int) 1) 1431655765)) 2) 858993459)) 4)) 252645135) 8)) 16)) 63 = ((bcF i : Nat) : Int) from by decide +kernel) i hi)) trivial dJ6_bitCount_0f7a4_52
theorem ykSX4_swapFor : yX4_swapFor.cls ≠ "java/lang/invoke/MethodHandle" ∧ yX4_swapFor.cls ≠ "java/lang/invoke/VarHandle" ∧ (parseMethodDescriptor yX4_swapFor.desc).map (fun d => d.parameters.length) = some 1 := by decide +kernel
theorem ykVX4_swapFor : yX4_swapFor.cls = RX4 ∧ yX4_swapFor.cls ≠ "java/lang/invoke/MethodHandle" ∧ yX4_swapFor.cls ≠ "java/lang/invoke/VarHandle" ∧ (parseMethodDescriptor yX4_swapFor.desc).map (fun d => d.parameters.length) = some 1 := ⟨rfl, ykSX4_swapFor⟩
set_option maxRecDepth 20000 in
theorem iT_X4_swapFor_X4 : ∀ w ∈ u_ws RX4 TX4 7, w ∈ wsX4_swapFor := by decide +kernel
set_option maxRecDepth 20000 in
theorem iT_X4_swapFor_X2 : ∀ w ∈ u_ws RX2 TX2 12, w ∈ wsX4_swapFor := by decide +kernel
set_option maxHeartbeats 4000000 in
set_option maxRecDepth 100000 in
theorem kX4_swapFor {l : Launch} {D : va_G} {cI cB : ClassId} (x f : Nat) (q kq vq h g : Nat → Nat) (T K : Tb) (ik : Int) (SB SS SN : Nat → Int) (tn : Int) (TB F : Nat → Int) (V : Tb) (jc : Nat → Int) (n : Int) (B : Int) (hG : GI B T K ik SB SS SN tn TB F) (hB : B ≤ 40000) (h_n : rI n) : Ct l yX4_swapFor wsX4_swapFor 6 137 D [(cI, .int), (cB, .byte)] [.ref x, .int (iI n)] (wC cI cB x f q kq vq h g (T, K, ik, SB, SS, SN, tn, TB, F) V jc) (S := (Int × Gs) × Tb × (Nat → Int)) (fun u => some (.int (iI u.1.1))) (fun u => u.1 = m_swapFor n T K ik SB SS SN tn TB F) (fun u => wC cI cB x f q kq vq h g u.1.2 u.2.1 u.2.2) := by
  refine CtI.of (cc := cX4_swapFor) (maxL := 6) (by decide +kernel) rfl (Nat.le_of_ble_eq_true rfl) ?_
  intro pg e s m args below meth c Q A hx hb hml hts hown hP hK hD hS ls hl kend
  have hown : s.vm.findClass RX4 = some m.cls := hown
  have hl : lv_has ls 6 [(0, .ref x), (1, .int (iI n))] := hl
  obtain ⟨hI, hIK, hik, hSB, hSS, hSN, htn, hTB, hF⟩ := id hG
  have hn := Inv_n hI
  have hdy := Inv_d hI
  have hP : va_P D vwCl (wObj x f q kq vq h g ik ++ (wTab cI q T (jc 0) ++ (wTab cI kq K (jc 1) ++ (wTab cI vq V (jc 2) ++ (wSh cI h SB SS SN ++ (wTp cB g tn TB jc ++ (wA cI f 7 F))))))) s.heap := hP
  have hD : va_D A (wObj x f q kq vq h g ik ++ (wTab cI q T (jc 0) ++ (wTab cI kq K (jc 1) ++ (wTab cI vq V (jc 2) ++ (wSh cI h SB SS SN ++ (wTp cB g tn TB jc ++ (wA cI f 7 F))))))) := hD
  refine lv_iload_n hx hb dX4_swapFor_0 rfl (lv_at hl 1 rfl) ?_
  refine x_iconst hx hb dX4_swapFor_1 ?_
  refine x_bipush hx hb dX4_swapFor_2 (by decide) ?_
  refine x_callS (As := [.int (iI n), .int (iI 0), .int (iI 20)]) (rest := []) ⟨hx, hb, hml, hown, hts⟩ (kX4_isWithin n 0 20 (by omega) (by decide) (by decide)) (va_cwS 3 hts gX4_swapFor_X4_isWithin rfl rfl rfl ykSX4_isWithin ⟨Nat.le_of_ble_eq_true rfl, Nat.le_of_ble_eq_true rfl⟩) hP hK hD hS [] rfl (by decide) (fun _ => rfl) (fun _ => wObj x f q kq vq h g ik ++ (wTab cI q T (jc 0) ++ (wTab cI kq K (jc 1) ++ (wTab cI vq V (jc 2) ++ (wSh cI h SB SS SN ++ (wTp cB g tn TB jc ++ (wA cI f 7 F))))))) (fun _ => rfl) rfl hl.1 rfl (Nat.le_of_ble_eq_true rfl) dX4_swapFor_4 ⟨Nat.le_of_ble_eq_true rfl, Nat.le_of_ble_eq_true rfl⟩ (fun _ H locs _ hP hD hS => ?_)
  refine W.eq (g2 := F0 m 7 ls [.int (iI (b2 (decide (0 ≤ n ∧ n ≤ 20))))]) rfl ?_
  refine x_ifb_ne (tgt := 17) hx hb dX4_swapFor_7 (by decide) (fun c_7 => ?_) (fun c_7 => ?_)
  · obtain ⟨n0, rfl⟩ : ∃ n0 : Nat, n = (n0 : Int) := ⟨n.toNat, by omega⟩
    refine lv_aload_n hx hb dX4_swapFor_17 rfl (lv_at hl 0 rfl) ?_
    refine va_get (D := D) (ci := 3) (v := .ref (q 0)) (C := RX4) (T := TX4) (N := 7) hx hb hts (iT_X4_swapFor_X4) hown hK hP 0 rfl rfl 0 (by decide) (hts (.fieldLink RX4 10 "WordSupper" "table" "LWordSupper$Table;") (by decide +kernel)) (fun _ h9 => h9) rfl dX4_swapFor_18 ?_
    refine va_get (D := D) (ci := 1) (v := .int (iI (T 0))) (C := RX2) (T := TX2) (N := 12) hx hb hts (iT_X4_swapFor_X2) hown hK hP 1 rfl rfl 3 (by decide) (hts (.fieldLink RX4 152 "WordSupper$Table" "seats" "I") (by decide +kernel)) (fun _ h9 => h9) rfl dX4_swapFor_21 ?_
    refine x_iconst hx hb dX4_swapFor_24 ?_
    refine x_icmp_ge (tgt := 35) hx hb (by omega) (by decide) dX4_swapFor_25 (by decide) (fun c_25 => ?_) (fun c_25 => ?_)
    · refine x_iconst hx hb dX4_swapFor_35 ?_
      refine lv_istore_n (lv' := [(2, .int (iI 0)), (0, .ref x), (1, .int (iI ((n0 : Nat) : Int)))]) hx hb dX4_swapFor_36 rfl hl (by decide) rfl (fun ls hl => ?_)
      refine x_ldc hx hb 1000000 rfl hown (hts (.constant RX4 146 (1000000)) (by decide +kernel)) dX4_swapFor_37 ?_
      refine lv_istore_n (lv' := [(3, .int (iI 1000000)), (2, .int (iI 0)), (0, .ref x), (1, .int (iI ((n0 : Nat) : Int)))]) hx hb dX4_swapFor_39 rfl hl (by decide) rfl (fun ls hl => ?_)
      refine x_iconst hx hb dX4_swapFor_40 ?_
      refine lv_istore (lv' := [(4, .int (iI 0)), (3, .int (iI 1000000)), (2, .int (iI 0)), (0, .ref x), (1, .int (iI ((n0 : Nat) : Int)))]) hx hb dX4_swapFor_41 hl (by decide) rfl (fun ls hl => ?_)
      have L43 : ∀ (k t : Nat) (Vt : Tb) (bt : Int) (bv : Int) (lv : Int) (H : Heap) (locs : List Loc) (ls : Array Slot), t + k = (T 0).toNat → (run (swO T n0) k t (bv, lv) = run (swO T n0) (T 0).toNat 0 (0, 1000000)) → (0 ≤ lv ∧ lv ≤ 1000000) → va_P D vwCl (wObj x f q kq vq h g ik ++ (wTab cI q T (jc 0) ++ (wTab cI kq K (jc 1) ++ (wTab cI vq Vt bt ++ (wSh cI h SB SS SN ++ (wTp cB g tn TB jc ++ (wA cI f 7 F))))))) H → va_D A (wObj x f q kq vq h g ik ++ (wTab cI q T (jc 0) ++ (wTab cI kq K (jc 1) ++ (wTab cI vq Vt bt ++ (wSh cI h SB SS SN ++ (wTp cB g tn TB jc ++ (wA cI f 7 F))))))) → va_S A s.heap H locs → lv_has ls 6 [(0, .ref x), (1, .int (iI ((n0 : Nat) : Int))), (2, .int (iI bv)), (3, .int (iI lv)), (4, .int (iI ((t : Nat) : Int)))] → W pg l e { frames := 6, cells := 0, slots := 0, locals := 137 } s m args below meth c H locs 0 0 Q (F0 m 43 ls []) := by
        intro k
        induction k with
        | zero =>
          intro t Vt bt bv lv H locs ls hkt hr hl9 hP hD hS hl
          refine lv_iload hx hb dX4_swapFor_43 (lv_at hl 4 rfl) ?_
          refine lv_aload_n hx hb dX4_swapFor_45 rfl (lv_at hl 0 rfl) ?_
          refine va_get (D := D) (ci := 3) (v := .ref (q 0)) (C := RX4) (T := TX4) (N := 7) hx hb hts (iT_X4_swapFor_X4) hown hK hP 0 rfl rfl 0 (by decide) (hts (.fieldLink RX4 10 "WordSupper" "table" "LWordSupper$Table;") (by decide +kernel)) (fun _ h9 => h9) rfl dX4_swapFor_46 ?_
          refine va_get (D := D) (ci := 1) (v := .int (iI (T 0))) (C := RX2) (T := TX2) (N := 12) hx hb hts (iT_X4_swapFor_X2) hown hK hP 1 rfl rfl 3 (by decide) (hts (.fieldLink RX4 152 "WordSupper$Table" "seats" "I") (by decide +kernel)) (fun _ h9 => h9) rfl dX4_swapFor_49 ?_
          refine x_icmp_ge (tgt := 144) hx hb (by omega) (by omega) dX4_swapFor_52 (by decide) (fun c_52 => ?_) (fun c_52 => ?_)
          · refine lv_iload_n hx hb dX4_swapFor_144 rfl (lv_at hl 2 rfl) ?_
            exact kend ((bv, T, K, ik, SB, SS, SN, tn, TB, F), Vt, va_up jc 2 bt) hP hS rfl (by unfold m_swapFor; rw [if_neg (by omega), if_neg (by omega)]; simp only [Int.toNat_natCast]; rw [← hr] <;> rfl) dX4_swapFor_145
          · exfalso; omega
        | succ k ih =>
          intro t Vt bt bv lv H locs ls hkt hr hl9 hP hD hS hl
          refine lv_iload hx hb dX4_swapFor_43 (lv_at hl 4 rfl) ?_
          refine lv_aload_n hx hb dX4_swapFor_45 rfl (lv_at hl 0 rfl) ?_
          refine va_get (D := D) (ci := 3) (v := .ref (q 0)) (C := RX4) (T := TX4) (N := 7) hx hb hts (iT_X4_swapFor_X4) hown hK hP 0 rfl rfl 0 (by decide) (hts (.fieldLink RX4 10 "WordSupper" "table" "LWordSupper$Table;") (by decide +kernel)) (fun _ h9 => h9) rfl dX4_swapFor_46 ?_
          refine va_get (D := D) (ci := 1) (v := .int (iI (T 0))) (C := RX2) (T := TX2) (N := 12) hx hb hts (iT_X4_swapFor_X2) hown hK hP 1 rfl rfl 3 (by decide) (hts (.fieldLink RX4 152 "WordSupper$Table" "seats" "I") (by decide +kernel)) (fun _ h9 => h9) rfl dX4_swapFor_49 ?_
          refine x_icmp_ge (tgt := 144) hx hb (by omega) (by omega) dX4_swapFor_52 (by decide) (fun c_52 => ?_) (fun c_52 => ?_)
          · exfalso; omega
          · refine lv_iload hx hb dX4_swapFor_55 (lv_at hl 4 rfl) ?_
            refine x_iconst hx hb dX4_swapFor_57 ?_
            refine x_iadd hx hb dX4_swapFor_58 ?_
            refine x_topi ((t + 1 : Nat) : Int) (by omega) ?_
            refine lv_istore (lv' := [(5, .int (iI ((t + 1 : Nat) : Int))), (0, .ref x), (1, .int (iI ((n0 : Nat) : Int))), (2, .int (iI bv)), (3, .int (iI lv)), (4, .int (iI ((t : Nat) : Int)))]) hx hb dX4_swapFor_59 hl (by decide) rfl (fun ls hl => ?_)
            have L61 : ∀ (k2 cw : Nat) (V2 : Tb) (b2 : Int) (bv2 : Int) (lv2 : Int) (H : Heap) (locs : List Loc) (ls : Array Slot), cw + k2 = (T 0).toNat → (run (swI1 T n0 t) k2 cw (bv2, lv2) = swO T n0 t (bv, lv)) → (0 ≤ lv2 ∧ lv2 ≤ 1000000) → va_P D vwCl (wObj x f q kq vq h g ik ++ (wTab cI q T (jc 0) ++ (wTab cI kq K (jc 1) ++ (wTab cI vq V2 b2 ++ (wSh cI h SB SS SN ++ (wTp cB g tn TB jc ++ (wA cI f 7 F))))))) H → va_D A (wObj x f q kq vq h g ik ++ (wTab cI q T (jc 0) ++ (wTab cI kq K (jc 1) ++ (wTab cI vq V2 b2 ++ (wSh cI h SB SS SN ++ (wTp cB g tn TB jc ++ (wA cI f 7 F))))))) → va_S A s.heap H locs → lv_has ls 6 [(0, .ref x), (1, .int (iI ((n0 : Nat) : Int))), (2, .int (iI bv2)), (3, .int (iI lv2)), (4, .int (iI ((t : Nat) : Int))), (5, .int (iI ((cw : Nat) : Int)))] → W pg l e { frames := 6, cells := 0, slots := 0, locals := 137 } s m args below meth c H locs 0 0 Q (F0 m 61 ls []) := by
              intro k2
              induction k2 with
              | zero =>
                intro cw V2 b2 bv2 lv2 H locs ls hkc hr2 hl2 hP hD hS hl
                refine lv_iload hx hb dX4_swapFor_61 (lv_at hl 5 rfl) ?_
                refine lv_aload_n hx hb dX4_swapFor_63 rfl (lv_at hl 0 rfl) ?_
                refine va_get (D := D) (ci := 3) (v := .ref (q 0)) (C := RX4) (T := TX4) (N := 7) hx hb hts (iT_X4_swapFor_X4) hown hK hP 0 rfl rfl 0 (by decide) (hts (.fieldLink RX4 10 "WordSupper" "table" "LWordSupper$Table;") (by decide +kernel)) (fun _ h9 => h9) rfl dX4_swapFor_64 ?_
                refine va_get (D := D) (ci := 1) (v := .int (iI (T 0))) (C := RX2) (T := TX2) (N := 12) hx hb hts (iT_X4_swapFor_X2) hown hK hP 1 rfl rfl 3 (by decide) (hts (.fieldLink RX4 152 "WordSupper$Table" "seats" "I") (by decide +kernel)) (fun _ h9 => h9) rfl dX4_swapFor_67 ?_
                refine x_icmp_ge (tgt := 138) hx hb (by omega) (by omega) dX4_swapFor_70 (by decide) (fun c_70 => ?_) (fun c_70 => ?_)
                · refine x_iinc hx hb 4 ((t + 1 : Nat) : Int) (by omega) [(4, .int (iI ((t + 1 : Nat) : Int))), (0, .ref x), (1, .int (iI ((n0 : Nat) : Int))), (2, .int (iI bv2)), (3, .int (iI lv2)), (5, .int (iI ((cw : Nat) : Int)))] dX4_swapFor_138 hl rfl (by decide) rfl (fun ls hl => ?_)
                  refine lv_goto (tgt := 43) hx hb dX4_swapFor_141 (by decide) ?_
                  exact ih (t + 1) V2 b2 bv2 lv2 _ _ _ (by omega) (run_step hr hr2.symm) hl2 hP hD hS (lv_sub hl [1, 2, 3, 4, 0] rfl)
                · exfalso; omega
              | succ k2 ih2 =>
                intro cw V2 b2 bv2 lv2 H locs ls hkc hr2 hl2 hP hD hS hl
                refine lv_iload hx hb dX4_swapFor_61 (lv_at hl 5 rfl) ?_
                refine lv_aload_n hx hb dX4_swapFor_63 rfl (lv_at hl 0 rfl) ?_
                refine va_get (D := D) (ci := 3) (v := .ref (q 0)) (C := RX4) (T := TX4) (N := 7) hx hb hts (iT_X4_swapFor_X4) hown hK hP 0 rfl rfl 0 (by decide) (hts (.fieldLink RX4 10 "WordSupper" "table" "LWordSupper$Table;") (by decide +kernel)) (fun _ h9 => h9) rfl dX4_swapFor_64 ?_
                refine va_get (D := D) (ci := 1) (v := .int (iI (T 0))) (C := RX2) (T := TX2) (N := 12) hx hb hts (iT_X4_swapFor_X2) hown hK hP 1 rfl rfl 3 (by decide) (hts (.fieldLink RX4 152 "WordSupper$Table" "seats" "I") (by decide +kernel)) (fun _ h9 => h9) rfl dX4_swapFor_67 ?_
                refine x_icmp_ge (tgt := 138) hx hb (by omega) (by omega) dX4_swapFor_70 (by decide) (fun c_70 => ?_) (fun c_70 => ?_)
                · exfalso; omega
                · refine lv_aload_n hx hb dX4_swapFor_73 rfl (lv_at hl 0 rfl) ?_
                  refine va_get (D := D) (ci := 3) (v := .ref (vq 0)) (C := RX4) (T := TX4) (N := 7) hx hb hts (iT_X4_swapFor_X4) hown hK hP 0 rfl rfl 2 (by decide) (hts (.fieldLink RX4 19 "WordSupper" "spare" "LWordSupper$Table;") (by decide +kernel)) (fun _ h9 => h9) rfl dX4_swapFor_74 ?_
                  refine lv_aload_n hx hb dX4_swapFor_77 rfl (lv_at hl 0 rfl) ?_
                  refine va_get (D := D) (ci := 3) (v := .ref (q 0)) (C := RX4) (T := TX4) (N := 7) hx hb hts (iT_X4_swapFor_X4) hown hK hP 0 rfl rfl 0 (by decide) (hts (.fieldLink RX4 10 "WordSupper" "table" "LWordSupper$Table;") (by decide +kernel)) (fun _ h9 => h9) rfl dX4_swapFor_78 ?_
                  refine x_callV (As := [.ref (q 0)]) (rest := []) ⟨hx, hb, hml, hown, hts⟩ (kX2_become vq V2 b2 q T (jc 0) ) (cwV 1 hts gX4_swapFor_X2_become rfl rfl rfl ykVX2_become ⟨Nat.le_of_ble_eq_true rfl, Nat.le_of_ble_eq_true rfl⟩) hP hK hD hS 17 1 rfl rfl rfl [17, 18, 19, 20, 21, 22, 23, 24, 1, 2, 3, 4, 5, 6, 7, 8] rfl (by decide) (fun _ => rfl) (fun _ => wObj x f q kq vq h g ik ++ (wTab cI q T (jc 0) ++ (wTab cI kq K (jc 1) ++ (wTab cI vq T b2 ++ (wSh cI h SB SS SN ++ (wTp cB g tn TB jc ++ (wA cI f 7 F))))))) (fun _ => rfl) rfl hl.1 rfl (Nat.le_of_ble_eq_true rfl) dX4_swapFor_81 ⟨Nat.le_of_ble_eq_true rfl, Nat.le_of_ble_eq_true rfl⟩ (fun _ H locs _ hP hD hS => ?_)
                  refine W.eq (g2 := F0 m 84 ls []) rfl ?_
                  refine lv_aload_n hx hb dX4_swapFor_84 rfl (lv_at hl 0 rfl) ?_
                  refine va_get (D := D) (ci := 3) (v := .ref (vq 0)) (C := RX4) (T := TX4) (N := 7) hx hb hts (iT_X4_swapFor_X4) hown hK hP 0 rfl rfl 2 (by decide) (hts (.fieldLink RX4 19 "WordSupper" "spare" "LWordSupper$Table;") (by decide +kernel)) (fun _ h9 => h9) rfl dX4_swapFor_85 ?_
                  refine lv_iload hx hb dX4_swapFor_88 (lv_at hl 4 rfl) ?_
                  refine lv_iload hx hb dX4_swapFor_90 (lv_at hl 5 rfl) ?_
                  refine x_callV (As := [.int (iI ((t : Nat) : Int)), .int (iI ((cw : Nat) : Int))]) (rest := []) ⟨hx, hb, hml, hown, hts⟩ (kX2_swapPlates vq T b2 t cw (by omega) (by omega)) (cwV 2 hts gX4_swapFor_X2_swapPlates rfl rfl rfl ykVX2_swapPlates ⟨Nat.le_of_ble_eq_true rfl, Nat.le_of_ble_eq_true rfl⟩) hP hK hD hS 17 1 rfl rfl rfl [17, 18, 19, 20, 21, 22, 23, 24] rfl (by decide) (fun _ => rfl) (fun u => wObj x f q kq vq h g ik ++ (wTab cI q T (jc 0) ++ (wTab cI kq K (jc 1) ++ (wTab cI vq u b2 ++ (wSh cI h SB SS SN ++ (wTp cB g tn TB jc ++ (wA cI f 7 F))))))) (fun _ => rfl) rfl hl.1 rfl (Nat.le_of_ble_eq_true rfl) dX4_swapFor_92 ⟨Nat.le_of_ble_eq_true rfl, Nat.le_of_ble_eq_true rfl⟩ (fun u2 H locs hp3 hP hD hS => ?_)
                  obtain ⟨T11, rfl⟩ : ∃ z, z = u2 := ⟨_, rfl⟩
                  replace hp3 : T11 = exF t cw T := hp3
                  have hP : va_P D vwCl (wObj x f q kq vq h g ik ++ (wTab cI q T (jc 0) ++ (wTab cI kq K (jc 1) ++ (wTab cI vq T11 b2 ++ (wSh cI h SB SS SN ++ (wTp cB g tn TB jc ++ (wA cI f 7 F))))))) H := hP
                  have hD : va_D A (wObj x f q kq vq h g ik ++ (wTab cI q T (jc 0) ++ (wTab cI kq K (jc 1) ++ (wTab cI vq T11 b2 ++ (wSh cI h SB SS SN ++ (wTp cB g tn TB jc ++ (wA cI f 7 F))))))) := hD
                  refine W.eq (g2 := F0 m 95 ls []) rfl ?_
                  have iX := ex_I hI (a := t) (c := cw) (by omega) (by omega)
                  have iS := iX.1
                  have nS := iX.2
                  rw [hp3] at hP hD
                  refine lv_aload_n hx hb dX4_swapFor_95 rfl (lv_at hl 0 rfl) ?_
                  refine va_get (D := D) (ci := 3) (v := .ref (vq 0)) (C := RX4) (T := TX4) (N := 7) hx hb hts (iT_X4_swapFor_X4) hown hK hP 0 rfl rfl 2 (by decide) (hts (.fieldLink RX4 19 "WordSupper" "spare" "LWordSupper$Table;") (by decide +kernel)) (fun _ h9 => h9) rfl dX4_swapFor_96 ?_
                  refine lv_iload_n hx hb dX4_swapFor_99 rfl (lv_at hl 1 rfl) ?_
                  refine x_iconst hx hb dX4_swapFor_100 ?_
                  refine x_callV (As := [.int (iI ((n0 : Nat) : Int)), .int (iI 0)]) (rest := []) ⟨hx, hb, hml, hown, hts⟩ (kX2_passDays vq (exF t cw T) b2 n0 0 B iS (by omega) (by omega) (by decide)) (cwV 2 hts gX4_swapFor_X2_passDays rfl rfl rfl ykVX2_passDays ⟨Nat.le_of_ble_eq_true rfl, Nat.le_of_ble_eq_true rfl⟩) hP hK hD hS 17 1 rfl rfl rfl [17, 18, 19, 20, 21, 22, 23, 24] rfl (by decide) (fun _ => rfl) (fun u => wObj x f q kq vq h g ik ++ (wTab cI q T (jc 0) ++ (wTab cI kq K (jc 1) ++ (wTab cI vq u.1 u.2 ++ (wSh cI h SB SS SN ++ (wTp cB g tn TB jc ++ (wA cI f 7 F))))))) (fun _ => rfl) rfl hl.1 rfl (Nat.le_of_ble_eq_true rfl) dX4_swapFor_101 ⟨Nat.le_of_ble_eq_true rfl, Nat.le_of_ble_eq_true rfl⟩ (fun u6 H locs hp7 hP hD hS => ?_)
                  obtain ⟨T14, b15⟩ := u6
                  replace hp7 : T14 = dsF 0 n0 (exF t cw T) := hp7
                  have hP : va_P D vwCl (wObj x f q kq vq h g ik ++ (wTab cI q T (jc 0) ++ (wTab cI kq K (jc 1) ++ (wTab cI vq T14 b15 ++ (wSh cI h SB SS SN ++ (wTp cB g tn TB jc ++ (wA cI f 7 F))))))) H := hP
                  have hD : va_D A (wObj x f q kq vq h g ik ++ (wTab cI q T (jc 0) ++ (wTab cI kq K (jc 1) ++ (wTab cI vq T14 b15 ++ (wSh cI h SB SS SN ++ (wTp cB g tn TB jc ++ (wA cI f 7 F))))))) := hD
                  refine W.eq (g2 := F0 m 104 ls []) rfl ?_
                  have iV : Inv (B + (n0 : Int)) T14 := by rw [hp7]; exact (dsF_I n0 iS).1
                  have nV : T14 0 = T 0 := by rw [hp7, (dsF_I n0 iS).2.1]; exact nS
                  have aV := al_b iV
                  refine lv_aload_n hx hb dX4_swapFor_104 rfl (lv_at hl 0 rfl) ?_
                  refine va_get (D := D) (ci := 3) (v := .ref (vq 0)) (C := RX4) (T := TX4) (N := 7) hx hb hts (iT_X4_swapFor_X4) hown hK hP 0 rfl rfl 2 (by decide) (hts (.fieldLink RX4 19 "WordSupper" "spare" "LWordSupper$Table;") (by decide +kernel)) (fun _ h9 => h9) rfl dX4_swapFor_105 ?_
                  refine x_callV (As := []) (rest := []) ⟨hx, hb, hml, hown, hts⟩ (kX2_allLeft vq T14 b15 (by omega)) (cwV 0 hts gX4_swapFor_X2_allLeft rfl rfl rfl ykVX2_allLeft ⟨Nat.le_of_ble_eq_true rfl, Nat.le_of_ble_eq_true rfl⟩) hP hK hD hS 17 1 rfl rfl rfl [17, 18, 19, 20, 21, 22, 23, 24] rfl (by decide) (fun _ => rfl) (fun _ => wObj x f q kq vq h g ik ++ (wTab cI q T (jc 0) ++ (wTab cI kq K (jc 1) ++ (wTab cI vq T14 b15 ++ (wSh cI h SB SS SN ++ (wTp cB g tn TB jc ++ (wA cI f 7 F))))))) (fun _ => rfl) rfl hl.1 rfl (Nat.le_of_ble_eq_true rfl) dX4_swapFor_108 ⟨Nat.le_of_ble_eq_true rfl, Nat.le_of_ble_eq_true rfl⟩ (fun _ H locs _ hP hD hS => ?_)
                  refine W.eq (g2 := F0 m 111 ls [.int (iI (alF T14))]) rfl ?_
                  refine lv_iload_n hx hb dX4_swapFor_111 rfl (lv_at hl 3 rfl) ?_
                  refine x_icmp_ge (tgt := 132) hx hb (by omega) (by omega) dX4_swapFor_112 (by decide) (fun c_112 => ?_) (fun c_112 => ?_)
                  · refine x_iinc hx hb 5 ((cw + 1 : Nat) : Int) (by omega) [(5, .int (iI ((cw + 1 : Nat) : Int))), (0, .ref x), (1, .int (iI ((n0 : Nat) : Int))), (2, .int (iI bv2)), (3, .int (iI lv2)), (4, .int (iI ((t : Nat) : Int)))] dX4_swapFor_132 hl rfl (by decide) rfl (fun ls hl => ?_)
                    refine lv_goto (tgt := 61) hx hb dX4_swapFor_135 (by decide) ?_
                    exact ih2 (cw + 1) T14 b15 bv2 lv2 _ _ _ (by omega) (run_step hr2 (by unfold swI1 swV; rw [← hp7, if_neg (by (try dsimp only); omega)])) (by omega) hP hD hS (lv_sub hl [1, 2, 3, 4, 5, 0] rfl)
                  · refine lv_aload_n hx hb dX4_swapFor_115 rfl (lv_at hl 0 rfl) ?_
                    refine va_get (D := D) (ci := 3) (v := .ref (vq 0)) (C := RX4) (T := TX4) (N := 7) hx hb hts (iT_X4_swapFor_X4) hown hK hP 0 rfl rfl 2 (by decide) (hts (.fieldLink RX4 19 "WordSupper" "spare" "LWordSupper$Table;") (by decide +kernel)) (fun _ h9 => h9) rfl dX4_swapFor_116 ?_
                    refine x_callV (As := []) (rest := []) ⟨hx, hb, hml, hown, hts⟩ (kX2_allLeft vq T14 b15 (by omega)) (cwV 0 hts gX4_swapFor_X2_allLeft rfl rfl rfl ykVX2_allLeft ⟨Nat.le_of_ble_eq_true rfl, Nat.le_of_ble_eq_true rfl⟩) hP hK hD hS 17 1 rfl rfl rfl [17, 18, 19, 20, 21, 22, 23, 24] rfl (by decide) (fun _ => rfl) (fun _ => wObj x f q kq vq h g ik ++ (wTab cI q T (jc 0) ++ (wTab cI kq K (jc 1) ++ (wTab cI vq T14 b15 ++ (wSh cI h SB SS SN ++ (wTp cB g tn TB jc ++ (wA cI f 7 F))))))) (fun _ => rfl) rfl hl.1 rfl (Nat.le_of_ble_eq_true rfl) dX4_swapFor_119 ⟨Nat.le_of_ble_eq_true rfl, Nat.le_of_ble_eq_true rfl⟩ (fun _ H locs _ hP hD hS => ?_)
                    refine W.eq (g2 := F0 m 122 ls [.int (iI (alF T14))]) rfl ?_
                    refine lv_istore_n (lv' := [(3, .int (iI (alF T14))), (0, .ref x), (1, .int (iI ((n0 : Nat) : Int))), (2, .int (iI bv2)), (4, .int (iI ((t : Nat) : Int))), (5, .int (iI ((cw : Nat) : Int)))]) hx hb dX4_swapFor_122 rfl hl (by decide) rfl (fun ls hl => ?_)
                    refine x_bipush hx hb dX4_swapFor_123 (by decide) ?_
                    refine lv_iload hx hb dX4_swapFor_125 (lv_at hl 4 rfl) ?_
                    refine x_imul hx hb dX4_swapFor_127 ?_
                    refine lv_iload hx hb dX4_swapFor_128 (lv_at hl 5 rfl) ?_
                    refine x_iadd hx hb dX4_swapFor_130 ?_
                    refine lv_istore_n (lv' := [(2, .int (iI ((8 * ((t : Nat) : Int)) + ((cw : Nat) : Int)))), (3, .int (iI (alF T14))), (0, .ref x), (1, .int (iI ((n0 : Nat) : Int))), (4, .int (iI ((t : Nat) : Int))), (5, .int (iI ((cw : Nat) : Int)))]) hx hb dX4_swapFor_131 rfl hl (by decide) rfl (fun ls hl => ?_)
                    refine x_iinc hx hb 5 ((cw + 1 : Nat) : Int) (by omega) [(5, .int (iI ((cw + 1 : Nat) : Int))), (2, .int (iI ((8 * ((t : Nat) : Int)) + ((cw : Nat) : Int)))), (3, .int (iI (alF T14))), (0, .ref x), (1, .int (iI ((n0 : Nat) : Int))), (4, .int (iI ((t : Nat) : Int)))] dX4_swapFor_132 hl rfl (by decide) rfl (fun ls hl => ?_)
                    refine lv_goto (tgt := 61) hx hb dX4_swapFor_135 (by decide) ?_
                    exact ih2 (cw + 1) T14 b15 ((8 * ((t : Nat) : Int)) + ((cw : Nat) : Int)) (alF T14) _ _ _ (by omega) (run_step hr2 (by unfold swI1 swV; rw [← hp7, if_pos (by (try dsimp only); omega)])) (by omega) hP hD hS (lv_sub hl [3, 4, 1, 2, 5, 0] rfl)
            exact L61 ((T 0).toNat - (t + 1)) (t + 1) Vt bt bv lv _ _ _ (by omega) rfl hl9 hP hD hS (lv_sub hl [1, 2, 3, 4, 5, 0] rfl)
      exact L43 (T 0).toNat 0 V (jc 2) 0 1000000 _ _ _ (by omega) rfl (by decide) hP hD hS (lv_sub hl [3, 4, 2, 1, 0] rfl)
    · refine lv_aload_n hx hb dX4_swapFor_28 rfl (lv_at hl 0 rfl) ?_
      refine x_ldc hx hb (-1000004) rfl hown (hts (.constant RX4 151 (-1000004)) (by decide +kernel)) dX4_swapFor_29 ?_
      refine x_callV (As := [.int (iI (-1000004))]) (rest := []) ⟨hx, hb, hml, hown, hts⟩ (kX4_finding x f q kq vq h g ik F (-1000004) 3 (by omega) (by omega)) (cwV 1 hts gX4_swapFor_X4_finding rfl rfl rfl ykVX4_finding ⟨Nat.le_of_ble_eq_true rfl, Nat.le_of_ble_eq_true rfl⟩) hP hK hD hS 0 3 rfl rfl rfl [0, 31] rfl (by decide) (fun _ => rfl) (fun _ => wObj x f q kq vq h g ik ++ (wTab cI q T (jc 0) ++ (wTab cI kq K (jc 1) ++ (wTab cI vq V (jc 2) ++ (wSh cI h SB SS SN ++ (wTp cB g tn TB jc ++ (wA cI f 7 (bmp 3 F)))))))) (fun _ => rfl) rfl hl.1 rfl (Nat.le_of_ble_eq_true rfl) dX4_swapFor_31 ⟨Nat.le_of_ble_eq_true rfl, Nat.le_of_ble_eq_true rfl⟩ (fun _ H locs _ hP hD hS => ?_)
      refine W.eq (g2 := F0 m 34 ls [.int (iI (-1000004))]) rfl ?_
      exact kend (((-1000004), T, K, ik, SB, SS, SN, tn, TB, (bmp 3 F)), V, jc) hP hS rfl (((if_neg (by omega)).trans (if_pos (by omega)))).symm dX4_swapFor_34
  · refine lv_aload_n hx hb dX4_swapFor_10 rfl (lv_at hl 0 rfl) ?_
    refine x_ldc hx hb (-1000001) rfl hown (hts (.constant RX4 44 (-1000001)) (by decide +kernel)) dX4_swapFor_11 ?_
    refine x_callV (As := [.int (iI (-1000001))]) (rest := []) ⟨hx, hb, hml, hown, hts⟩ (kX4_finding x f q kq vq h g ik F (-1000001) 0 (by omega) (by omega)) (cwV 1 hts gX4_swapFor_X4_finding rfl rfl rfl ykVX4_finding ⟨Nat.le_of_ble_eq_true rfl, Nat.le_of_ble_eq_true rfl⟩) hP hK hD hS 0 3 rfl rfl rfl [0, 31] rfl (by decide) (fun _ => rfl) (fun _ => wObj x f q kq vq h g ik ++ (wTab cI q T (jc 0) ++ (wTab cI kq K (jc 1) ++ (wTab cI vq V (jc 2) ++ (wSh cI h SB SS SN ++ (wTp cB g tn TB jc ++ (wA cI f 7 (bmp 0 F)))))))) (fun _ => rfl) rfl hl.1 rfl (Nat.le_of_ble_eq_true rfl) dX4_swapFor_13 ⟨Nat.le_of_ble_eq_true rfl, Nat.le_of_ble_eq_true rfl⟩ (fun _ H locs _ hP hD hS => ?_)
    refine W.eq (g2 := F0 m 16 ls [.int (iI (-1000001))]) rfl ?_
    exact kend (((-1000001), T, K, ik, SB, SS, SN, tn, TB, (bmp 0 F)), V, jc) hP hS rfl ((if_pos (by omega))).symm dX4_swapFor_16
