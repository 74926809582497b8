theorem ykSX2_at : yX2_at.cls ≠ "java/lang/invoke/MethodHandle" ∧ yX2_at.cls ≠ "java/lang/invoke/VarHandle" ∧ (parseMethodDescriptor yX2_at.desc).map (fun d => d.parameters.length) = some 2 := by decide +kernel
theorem ykVX2_at : yX2_at.cls = RX2 ∧ yX2_at.cls ≠ "java/lang/invoke/MethodHandle" ∧ yX2_at.cls ≠ "java/lang/invoke/VarHandle" ∧ (parseMethodDescriptor yX2_at.desc).map (fun d => d.parameters.length) = some 2 := ⟨rfl, ykSX2_at⟩
set_option maxHeartbeats 4000000 in
set_option maxRecDepth 100000 in
theorem kX2_at {l : Launch} {D : va_G} {cI cB : ClassId} (p : Nat) (t : Nat) (hp : p < 8) (ht : t < 6) : Ct l yX2_at wsX2_at 0 0 D [(cI, .int), (cB, .byte)] [.int (iI ((p : Nat) : Int)), .int (iI ((t : Nat) : Int))] (([] : va_W)) (S := Unit) (fun _ => some (.int (iI ((6 * p + t : Nat) : Int)))) (fun _ => True) (fun _ => ([] : va_W)) := by
  refine CtI.of (cc := cX2_at) (maxL := 2) (by decide +kernel) rfl (Nat.le_of_ble_eq_true rfl) ?_
  intro pg e s m args below meth c Q A hx hb hml hts hown hP hK hD hS ls hl kend
  have hown : s.vm.findClass RX2 = some m.cls := hown
  have hl : lv_has ls 2 [(0, .int (iI ((p : Nat) : Int))), (1, .int (iI ((t : Nat) : Int)))] := hl
  refine lv_iload_n hx hb dX2_at_0 rfl (lv_at hl 0 rfl) ?_
  refine x_bipush hx hb dX2_at_1 (by decide) ?_
  refine x_imul hx hb dX2_at_3 ?_
  refine x_topi ((p * 6 : Nat) : Int) (by omega) ?_
  refine lv_iload_n hx hb dX2_at_4 rfl (lv_at hl 1 rfl) ?_
  refine x_iadd hx hb dX2_at_5 ?_
  refine x_topi (((p * 6) + t : Nat) : Int) (by omega) ?_
  exact kend () hP hS (an_i (by omega)) trivial dX2_at_6
theorem ykSX2_left : yX2_left.cls ≠ "java/lang/invoke/MethodHandle" ∧ yX2_left.cls ≠ "java/lang/invoke/VarHandle" ∧ (parseMethodDescriptor yX2_left.desc).map (fun d => d.parameters.length) = some 1 := by decide +kernel
theorem ykVX2_left : yX2_left.cls = RX2 ∧ yX2_left.cls ≠ "java/lang/invoke/MethodHandle" ∧ yX2_left.cls ≠ "java/lang/invoke/VarHandle" ∧ (parseMethodDescriptor yX2_left.desc).map (fun d => d.parameters.length) = some 1 := ⟨rfl, ykSX2_left⟩
set_option maxRecDepth 20000 in
theorem iT_X2_left_X2 : ∀ w ∈ u_ws RX2 TX2 12, w ∈ wsX2_left := by decide +kernel
set_option maxHeartbeats 4000000 in
set_option maxRecDepth 100000 in
theorem kX2_left {l : Launch} {D : va_G} {cI cB : ClassId} (q : Nat → Nat) (T : Tb) (b : Int) (p : Nat) (hp : p < 8) : Ct l yX2_left wsX2_left 1 21 D [(cI, .int), (cB, .byte)] [.ref (q 0), .int (iI ((p : Nat) : Int))] (wTab cI q T b) (S := Unit) (fun _ => some (.int (iI (lfF T p)))) (fun _ => True) (fun _ => wTab cI q T b) := by
  refine CtI.of (cc := cX2_left) (maxL := 4) (by decide +kernel) rfl (Nat.le_of_ble_eq_true rfl) ?_
  intro pg e s m args below meth c Q A hx hb hml hts hown hP hK hD hS ls hl kend
  have hown : s.vm.findClass RX2 = some m.cls := hown
  have hl : lv_has ls 4 [(0, .ref (q 0)), (1, .int (iI ((p : Nat) : Int)))] := hl
  refine x_iconst hx hb dX2_left_0 ?_
  refine lv_istore_n (lv' := [(2, .int (iI 0)), (0, .ref (q 0)), (1, .int (iI ((p : Nat) : Int)))]) hx hb dX2_left_1 rfl hl (by decide) rfl (fun ls hl => ?_)
  refine x_iconst hx hb dX2_left_2 ?_
  refine lv_istore_n (lv' := [(3, .int (iI 0)), (2, .int (iI 0)), (0, .ref (q 0)), (1, .int (iI ((p : Nat) : Int)))]) hx hb dX2_left_3 rfl hl (by decide) rfl (fun ls hl => ?_)
  have L4 : ∀ (k t : Nat) (sv : Int) (H : Heap) (locs : List Loc) (ls : Array Slot), t + k = 6 → (run (fun (t : Nat) (s : Int) => s + T (cx p (4 + t))) k t sv = lfF T p) → va_P D vwCl (wTab cI q T b) H → va_D A (wTab cI q T b) → va_S A s.heap H locs → lv_has ls 4 [(0, .ref (q 0)), (1, .int (iI ((p : Nat) : Int))), (2, .int (iI sv)), (3, .int (iI ((t : Nat) : Int)))] → W pg l e { frames := 1, cells := 0, slots := 0, locals := 21 } s m args below meth c H locs 0 0 Q (F0 m 4 ls []) := by
    intro k
    induction k with
    | zero =>
      intro t sv H locs ls hkt hr hP hD hS hl
      refine lv_iload_n hx hb dX2_left_4 rfl (lv_at hl 3 rfl) ?_
      refine x_bipush hx hb dX2_left_5 (by decide) ?_
      refine x_icmp_ge (tgt := 29) hx hb (by omega) (by decide) dX2_left_7 (by decide) (fun c_7 => ?_) (fun c_7 => ?_)
      · refine lv_iload_n hx hb dX2_left_29 rfl (lv_at hl 2 rfl) ?_
        exact kend () hP hS (an_i (hr)) trivial dX2_left_30
      · exfalso; omega
    | succ k ih =>
      intro t sv H locs ls hkt hr hP hD hS hl
      refine lv_iload_n hx hb dX2_left_4 rfl (lv_at hl 3 rfl) ?_
      refine x_bipush hx hb dX2_left_5 (by decide) ?_
      refine x_icmp_ge (tgt := 29) hx hb (by omega) (by decide) dX2_left_7 (by decide) (fun c_7 => ?_) (fun c_7 => ?_)
      · exfalso; omega
      · refine lv_iload_n hx hb dX2_left_10 rfl (lv_at hl 2 rfl) ?_
        refine lv_aload_n hx hb dX2_left_11 rfl (lv_at hl 0 rfl) ?_
        refine va_get (D := D) (ci := 1) (v := .ref (q 6)) (C := RX2) (T := TX2) (N := 12) hx hb hts (iT_X2_left_X2) hown hK hP 0 rfl rfl 10 (by decide) (hts (.fieldLink RX2 34 "WordSupper$Table" "plates" "[I") (by decide +kernel)) (fun _ h9 => h9) rfl dX2_left_12 ?_
        refine lv_iload_n hx hb dX2_left_15 rfl (lv_at hl 1 rfl) ?_
        refine lv_iload_n hx hb dX2_left_16 rfl (lv_at hl 3 rfl) ?_
        refine x_callS (As := [.int (iI ((p : Nat) : Int)), .int (iI ((t : Nat) : Int))]) (rest := [.ref (q 6), .int (iI sv)]) ⟨hx, hb, hml, hown, hts⟩ (kX2_at p t (by omega) (by omega)) (va_cwS 2 hts gX2_left_X2_at rfl rfl rfl ykSX2_at ⟨Nat.le_of_ble_eq_true rfl, Nat.le_of_ble_eq_true rfl⟩) hP hK hD hS [] rfl (by decide) (fun _ => rfl) (fun _ => wTab cI q T b) (fun _ => rfl) rfl hl.1 rfl (Nat.le_of_ble_eq_true rfl) dX2_left_17 ⟨Nat.le_of_ble_eq_true rfl, Nat.le_of_ble_eq_true rfl⟩ (fun _ H locs _ hP hD hS => ?_)
        refine W.eq (g2 := F0 m 20 ls [.int (iI ((6 * p + t : Nat) : Int)), .ref (q 6), .int (iI sv)]) rfl ?_
        refine x_iald hx hb hK hP 6 0 rfl rfl (6 * p + t) rfl (by omega) (by decide) (T (cx p (4 + t))) (plG_gd _ (by omega) (by omega)) dX2_left_20 ?_
        refine x_iadd hx hb dX2_left_21 ?_
        refine lv_istore_n (lv' := [(2, .int (iI (sv + (T (cx p (4 + t)))))), (0, .ref (q 0)), (1, .int (iI ((p : Nat) : Int))), (3, .int (iI ((t : Nat) : Int)))]) hx hb dX2_left_22 rfl hl (by decide) rfl (fun ls hl => ?_)
        refine x_iinc hx hb 3 ((t + 1 : Nat) : Int) (by omega) [(3, .int (iI ((t + 1 : Nat) : Int))), (2, .int (iI (sv + (T (cx p (4 + t)))))), (0, .ref (q 0)), (1, .int (iI ((p : Nat) : Int)))] dX2_left_23 hl rfl (by decide) rfl (fun ls hl => ?_)
        refine lv_goto (tgt := 4) hx hb dX2_left_26 (by decide) ?_
        exact ih (t + 1) (sv + (T (cx p (4 + t)))) _ _ _ (by omega) hr hP hD hS (lv_sub hl [2, 3, 1, 0] rfl)
  exact L4 (6) 0 0 _ _ _ (by omega) rfl hP hD hS (lv_sub hl [2, 3, 1, 0] rfl)
theorem ykSX2_isSeat : yX2_isSeat.cls ≠ "java/lang/invoke/MethodHandle" ∧ yX2_isSeat.cls ≠ "java/lang/invoke/VarHandle" ∧ (parseMethodDescriptor yX2_isSeat.desc).map (fun d => d.parameters.length) = some 1 := by decide +kernel
theorem ykVX2_isSeat : yX2_isSeat.cls = RX2 ∧ yX2_isSeat.cls ≠ "java/lang/invoke/MethodHandle" ∧ yX2_isSeat.cls ≠ "java/lang/invoke/VarHandle" ∧ (parseMethodDescriptor yX2_isSeat.desc).map (fun d => d.parameters.length) = some 1 := ⟨rfl, ykSX2_isSeat⟩
set_option maxRecDepth 20000 in
theorem iT_X2_isSeat_X2 : ∀ w ∈ u_ws RX2 TX2 12, w ∈ wsX2_isSeat := by decide +kernel
set_option maxHeartbeats 4000000 in
set_option maxRecDepth 100000 in
theorem kX2_isSeat {l : Launch} {D : va_G} {cI cB : ClassId} (q : Nat → Nat) (T : Tb) (b : Int) (sp : Int) (hs : rI sp) (hn : 0 ≤ T 0 ∧ T 0 ≤ 8) : Ct l yX2_isSeat wsX2_isSeat 0 0 D [(cI, .int), (cB, .byte)] [.ref (q 0), .int (iI sp)] (wTab cI q T b) (S := Unit) (fun _ => some (.int (iI (b2 (decide (0 ≤ sp ∧ sp < T 0)))))) (fun _ => True) (fun _ => wTab cI q T b) := by
  refine CtZ.of (cc := cX2_isSeat) (maxL := 2) (by decide +kernel) rfl (Nat.le_of_ble_eq_true rfl) ?_
  intro pg e s m args below meth c Q A hx hb hml hts hown hP hK hD hS ls hl kend
  have hown : s.vm.findClass RX2 = some m.cls := hown
  have hl : lv_has ls 2 [(0, .ref (q 0)), (1, .int (iI sp))] := hl
  refine lv_iload_n hx hb dX2_isSeat_0 rfl (lv_at hl 1 rfl) ?_
  refine x_if_lt (tgt := 16) hx hb (by omega) dX2_isSeat_1 (by decide) (fun c_1 => ?_) (fun c_1 => ?_)
  · refine x_iconst hx hb dX2_isSeat_16 ?_
    exact kend () hP hS (an_i (b2_f (by omega)).symm) trivial (by decide) dX2_isSeat_17
  · refine lv_iload_n hx hb dX2_isSeat_4 rfl (lv_at hl 1 rfl) ?_
    refine lv_aload_n hx hb dX2_isSeat_5 rfl (lv_at hl 0 rfl) ?_
    refine va_get (D := D) (ci := 1) (v := .int (iI (T 0))) (C := RX2) (T := TX2) (N := 12) hx hb hts (iT_X2_isSeat_X2) hown hK hP 0 rfl rfl 3 (by decide) (hts (.fieldLink RX2 43 "WordSupper$Table" "seats" "I") (by decide +kernel)) (fun _ h9 => h9) rfl dX2_isSeat_6 ?_
    refine x_icmp_ge (tgt := 16) hx hb (by omega) (by omega) dX2_isSeat_9 (by decide) (fun c_9 => ?_) (fun c_9 => ?_)
    · refine x_iconst hx hb dX2_isSeat_16 ?_
      exact kend () hP hS (an_i (b2_f (by omega)).symm) trivial (by decide) dX2_isSeat_17
    · refine x_iconst hx hb dX2_isSeat_12 ?_
      refine lv_goto (tgt := 17) hx hb dX2_isSeat_13 (by decide) ?_
      exact kend () hP hS (an_i (b2_t (by omega)).symm) trivial (by decide) dX2_isSeat_17
theorem ykSX2_isFull : yX2_isFull.cls ≠ "java/lang/invoke/MethodHandle" ∧ yX2_isFull.cls ≠ "java/lang/invoke/VarHandle" ∧ (parseMethodDescriptor yX2_isFull.desc).map (fun d => d.parameters.length) = some 0 := by decide +kernel
theorem ykVX2_isFull : yX2_isFull.cls = RX2 ∧ yX2_isFull.cls ≠ "java/lang/invoke/MethodHandle" ∧ yX2_isFull.cls ≠ "java/lang/invoke/VarHandle" ∧ (parseMethodDescriptor yX2_isFull.desc).map (fun d => d.parameters.length) = some 0 := ⟨rfl, ykSX2_isFull⟩
set_option maxRecDepth 20000 in
theorem iT_X2_isFull_X2 : ∀ w ∈ u_ws RX2 TX2 12, w ∈ wsX2_isFull := by decide +kernel
set_option maxHeartbeats 4000000 in
set_option maxRecDepth 100000 in
theorem kX2_isFull {l : Launch} {D : va_G} {cI cB : ClassId} (q : Nat → Nat) (T : Tb) (b : Int) (hn : 0 ≤ T 0 ∧ T 0 ≤ 8) : Ct l yX2_isFull wsX2_isFull 0 0 D [(cI, .int), (cB, .byte)] [.ref (q 0)] (wTab cI q T b) (S := Unit) (fun _ => some (.int (iI (b2 (decide (8 ≤ T 0)))))) (fun _ => True) (fun _ => wTab cI q T b) := by
  refine CtZ.of (cc := cX2_isFull) (maxL := 1) (by decide +kernel) rfl (Nat.le_of_ble_eq_true rfl) ?_
  intro pg e s m args below meth c Q A hx hb hml hts hown hP hK hD hS ls hl kend
  have hown : s.vm.findClass RX2 = some m.cls := hown
  have hl : lv_has ls 1 [(0, .ref (q 0))] := hl
  refine lv_aload_n hx hb dX2_isFull_0 rfl (lv_at hl 0 rfl) ?_
  refine va_get (D := D) (ci := 1) (v := .int (iI (T 0))) (C := RX2) (T := TX2) (N := 12) hx hb hts (iT_X2_isFull_X2) hown hK hP 0 rfl rfl 3 (by decide) (hts (.fieldLink RX2 43 "WordSupper$Table" "seats" "I") (by decide +kernel)) (fun _ h9 => h9) rfl dX2_isFull_1 ?_
  refine x_bipush hx hb dX2_isFull_4 (by decide) ?_
  refine x_icmp_lt (tgt := 13) hx hb (by omega) (by decide) dX2_isFull_6 (by decide) (fun c_6 => ?_) (fun c_6 => ?_)
  · refine x_iconst hx hb dX2_isFull_13 ?_
    exact kend () hP hS (an_i (b2_f (by omega)).symm) trivial (by decide) dX2_isFull_14
  · refine x_iconst hx hb dX2_isFull_9 ?_
    refine lv_goto (tgt := 14) hx hb dX2_isFull_10 (by decide) ?_
    exact kend () hP hS (an_i (b2_t (by omega)).symm) trivial (by decide) dX2_isFull_14
theorem ykSX2_allLeft : yX2_allLeft.cls ≠ "java/lang/invoke/MethodHandle" ∧ yX2_allLeft.cls ≠ "java/lang/invoke/VarHandle" ∧ (parseMethodDescriptor yX2_allLeft.desc).map (fun d => d.parameters.length) = some 0 := by decide +kernel
theorem ykVX2_allLeft : yX2_allLeft.cls = RX2 ∧ yX2_allLeft.cls ≠ "java/lang/invoke/MethodHandle" ∧ yX2_allLeft.cls ≠ "java/lang/invoke/VarHandle" ∧ (parseMethodDescriptor yX2_allLeft.desc).map (fun d => d.parameters.length) = some 0 := ⟨rfl, ykSX2_allLeft⟩
set_option maxRecDepth 20000 in
theorem iT_X2_allLeft_X2 : ∀ w ∈ u_ws RX2 TX2 12, w ∈ wsX2_allLeft := by decide +kernel
set_option maxHeartbeats 4000000 in
set_option maxRecDepth 100000 in
theorem kX2_allLeft {l : Launch} {D : va_G} {cI cB : ClassId} (q : Nat → Nat) (T : Tb) (b : Int) (hn : 0 ≤ T 0 ∧ T 0 ≤ 8) : Ct l yX2_allLeft wsX2_allLeft 2 44 D [(cI, .int), (cB, .byte)] [.ref (q 0)] (wTab cI q T b) (S := Unit) (fun _ => some (.int (iI (alF T)))) (fun _ => True) (fun _ => wTab cI q T b) := by
  refine CtI.of (cc := cX2_allLeft) (maxL := 3) (by decide +kernel) rfl (Nat.le_of_ble_eq_true rfl) ?_
  intro pg e s m args below meth c Q A hx hb hml hts hown hP hK hD hS ls hl kend
  have hown : s.vm.findClass RX2 = some m.cls := hown
  have hl : lv_has ls 3 [(0, .ref (q 0))] := hl
  refine x_iconst hx hb dX2_allLeft_0 ?_
  refine lv_istore_n (lv' := [(1, .int (iI 0)), (0, .ref (q 0))]) hx hb dX2_allLeft_1 rfl hl (by decide) rfl (fun ls hl => ?_)
  refine x_iconst hx hb dX2_allLeft_2 ?_
  refine lv_istore_n (lv' := [(2, .int (iI 0)), (1, .int (iI 0)), (0, .ref (q 0))]) hx hb dX2_allLeft_3 rfl hl (by decide) rfl (fun ls hl => ?_)
  have L4 : ∀ (k t : Nat) (sv : Int) (H : Heap) (locs : List Loc) (ls : Array Slot), t + k = (T 0).toNat → (run (fun (p : Nat) (s : Int) => s + lfF T p) k t sv = alF T) → va_P D vwCl (wTab cI q T b) H → va_D A (wTab cI q T b) → va_S A s.heap H locs → lv_has ls 3 [(0, .ref (q 0)), (1, .int (iI sv)), (2, .int (iI ((t : Nat) : Int)))] → W pg l e { frames := 2, cells := 0, slots := 0, locals := 44 } s m args below meth c H locs 0 0 Q (F0 m 4 ls []) := by
    intro k
    induction k with
    | zero =>
      intro t sv H locs ls hkt hr hP hD hS hl
      refine lv_iload_n hx hb dX2_allLeft_4 rfl (lv_at hl 2 rfl) ?_
      refine lv_aload_n hx hb dX2_allLeft_5 rfl (lv_at hl 0 rfl) ?_
      refine va_get (D := D) (ci := 1) (v := .int (iI (T 0))) (C := RX2) (T := TX2) (N := 12) hx hb hts (iT_X2_allLeft_X2) hown hK hP 0 rfl rfl 3 (by decide) (hts (.fieldLink RX2 43 "WordSupper$Table" "seats" "I") (by decide +kernel)) (fun _ h9 => h9) rfl dX2_allLeft_6 ?_
      refine x_icmp_ge (tgt := 26) hx hb (by omega) (by omega) dX2_allLeft_9 (by decide) (fun c_9 => ?_) (fun c_9 => ?_)
      · refine lv_iload_n hx hb dX2_allLeft_26 rfl (lv_at hl 1 rfl) ?_
        exact kend () hP hS (an_i (hr)) trivial dX2_allLeft_27
      · exfalso; omega
    | succ k ih =>
      intro t sv H locs ls hkt hr hP hD hS hl
      refine lv_iload_n hx hb dX2_allLeft_4 rfl (lv_at hl 2 rfl) ?_
      refine lv_aload_n hx hb dX2_allLeft_5 rfl (lv_at hl 0 rfl) ?_
      refine va_get (D := D) (ci := 1) (v := .int (iI (T 0))) (C := RX2) (T := TX2) (N := 12) hx hb hts (iT_X2_allLeft_X2) hown hK hP 0 rfl rfl 3 (by decide) (hts (.fieldLink RX2 43 "WordSupper$Table" "seats" "I") (by decide +kernel)) (fun _ h9 => h9) rfl dX2_allLeft_6 ?_
      refine x_icmp_ge (tgt := 26) hx hb (by omega) (by omega) dX2_allLeft_9 (by decide) (fun c_9 => ?_) (fun c_9 => ?_)
      · exfalso; omega
      · refine lv_iload_n hx hb dX2_allLeft_12 rfl (lv_at hl 1 rfl) ?_
        refine lv_aload_n hx hb dX2_allLeft_13 rfl (lv_at hl 0 rfl) ?_
        refine lv_iload_n hx hb dX2_allLeft_14 rfl (lv_at hl 2 rfl) ?_
        refine x_callV (As := [.int (iI ((t : Nat) : Int))]) (rest := [.int (iI sv)]) ⟨hx, hb, hml, hown, hts⟩ (kX2_left q T b t (by omega)) (cwV 1 hts gX2_allLeft_X2_left rfl rfl rfl ykVX2_left ⟨Nat.le_of_ble_eq_true rfl, Nat.le_of_ble_eq_true rfl⟩) hP hK hD hS 0 1 rfl rfl rfl [0, 1, 2, 3, 4, 5, 6, 7] rfl (by decide) (fun _ => rfl) (fun _ => wTab cI q T b) (fun _ => rfl) rfl hl.1 rfl (Nat.le_of_ble_eq_true rfl) dX2_allLeft_15 ⟨Nat.le_of_ble_eq_true rfl, Nat.le_of_ble_eq_true rfl⟩ (fun _ H locs _ hP hD hS => ?_)
        refine W.eq (g2 := F0 m 18 ls [.int (iI (lfF T t)), .int (iI sv)]) rfl ?_
        refine x_iadd hx hb dX2_allLeft_18 ?_
        refine lv_istore_n (lv' := [(1, .int (iI (sv + (lfF T t)))), (0, .ref (q 0)), (2, .int (iI ((t : Nat) : Int)))]) hx hb dX2_allLeft_19 rfl hl (by decide) rfl (fun ls hl => ?_)
        refine x_iinc hx hb 2 ((t + 1 : Nat) : Int) (by omega) [(2, .int (iI ((t + 1 : Nat) : Int))), (1, .int (iI (sv + (lfF T t)))), (0, .ref (q 0))] dX2_allLeft_20 hl rfl (by decide) rfl (fun ls hl => ?_)
        refine lv_goto (tgt := 4) hx hb dX2_allLeft_23 (by decide) ?_
        exact ih (t + 1) (sv + (lfF T t)) _ _ _ (by omega) hr hP hD hS (lv_sub hl [2, 1, 0] rfl)
  exact L4 ((T 0).toNat) 0 0 _ _ _ (by omega) rfl hP hD hS (lv_sub hl [2, 1, 0] rfl)
theorem ykSX2_allOf : yX2_allOf.cls ≠ "java/lang/invoke/MethodHandle" ∧ yX2_allOf.cls ≠ "java/lang/invoke/VarHandle" ∧ (parseMethodDescriptor yX2_allOf.desc).map (fun d => d.parameters.length) = some 1 := by decide +kernel
theorem ykVX2_allOf : yX2_allOf.cls = RX2 ∧ yX2_allOf.cls ≠ "java/lang/invoke/MethodHandle" ∧ yX2_allOf.cls ≠ "java/lang/invoke/VarHandle" ∧ (parseMethodDescriptor yX2_allOf.desc).map (fun d => d.parameters.length) = some 1 := ⟨rfl, ykSX2_allOf⟩
set_option maxRecDepth 20000 in
theorem iT_X2_allOf_X2 : ∀ w ∈ u_ws RX2 TX2 12, w ∈ wsX2_allOf := by decide +kernel
set_option maxHeartbeats 4000000 in
set_option maxRecDepth 100000 in
theorem kX2_allOf_2 {l : Launch} {D : va_G} {cI cB : ClassId} (q : Nat → Nat) (T : Tb) (b : Int) (hn : 0 ≤ T 0 ∧ T 0 ≤ 8) : Ct l yX2_allOf wsX2_allOf 0 0 D [(cI, .int), (cB, .byte)] [.ref (q 0), .ref (q 4)] (wTab cI q T b) (S := Unit) (fun _ => some (.int (iI (smF T 2)))) (fun _ => True) (fun _ => wTab cI q T b) := by
  refine CtI.of (cc := cX2_allOf) (maxL := 4) (by decide +kernel) rfl (Nat.le_of_ble_eq_true rfl) ?_
  intro pg e s m args below meth c Q A hx hb hml hts hown hP hK hD hS ls hl kend
  have hown : s.vm.findClass RX2 = some m.cls := hown
  have hl : lv_has ls 4 [(0, .ref (q 0)), (1, .ref (q 4))] := hl
  refine x_iconst hx hb dX2_allOf_0 ?_
  refine lv_istore_n (lv' := [(2, .int (iI 0)), (0, .ref (q 0)), (1, .ref (q 4))]) hx hb dX2_allOf_1 rfl hl (by decide) rfl (fun ls hl => ?_)
  refine x_iconst hx hb dX2_allOf_2 ?_
  refine lv_istore_n (lv' := [(3, .int (iI 0)), (2, .int (iI 0)), (0, .ref (q 0)), (1, .ref (q 4))]) hx hb dX2_allOf_3 rfl hl (by decide) rfl (fun ls hl => ?_)
  have L4 : ∀ (k t : Nat) (sv : Int) (H : Heap) (locs : List Loc) (ls : Array Slot), t + k = (T 0).toNat → (run (fun (p : Nat) (s : Int) => s + T (cx p 2)) k t sv = smF T 2) → va_P D vwCl (wTab cI q T b) H → va_D A (wTab cI q T b) → va_S A s.heap H locs → lv_has ls 4 [(0, .ref (q 0)), (1, .ref (q 4)), (2, .int (iI sv)), (3, .int (iI ((t : Nat) : Int)))] → W pg l e { frames := 0, cells := 0, slots := 0, locals := 0 } s m args below meth c H locs 0 0 Q (F0 m 4 ls []) := by
    intro k
    induction k with
    | zero =>
      intro t sv H locs ls hkt hr hP hD hS hl
      refine lv_iload_n hx hb dX2_allOf_4 rfl (lv_at hl 3 rfl) ?_
      refine lv_aload_n hx hb dX2_allOf_5 rfl (lv_at hl 0 rfl) ?_
      refine va_get (D := D) (ci := 1) (v := .int (iI (T 0))) (C := RX2) (T := TX2) (N := 12) hx hb hts (iT_X2_allOf_X2) hown hK hP 0 rfl rfl 3 (by decide) (hts (.fieldLink RX2 43 "WordSupper$Table" "seats" "I") (by decide +kernel)) (fun _ h9 => h9) rfl dX2_allOf_6 ?_
      refine x_icmp_ge (tgt := 24) hx hb (by omega) (by omega) dX2_allOf_9 (by decide) (fun c_9 => ?_) (fun c_9 => ?_)
      · refine lv_iload_n hx hb dX2_allOf_24 rfl (lv_at hl 2 rfl) ?_
        exact kend () hP hS (an_i (hr)) trivial dX2_allOf_25
      · exfalso; omega
    | succ k ih =>
      intro t sv H locs ls hkt hr hP hD hS hl
      refine lv_iload_n hx hb dX2_allOf_4 rfl (lv_at hl 3 rfl) ?_
      refine lv_aload_n hx hb dX2_allOf_5 rfl (lv_at hl 0 rfl) ?_
      refine va_get (D := D) (ci := 1) (v := .int (iI (T 0))) (C := RX2) (T := TX2) (N := 12) hx hb hts (iT_X2_allOf_X2) hown hK hP 0 rfl rfl 3 (by decide) (hts (.fieldLink RX2 43 "WordSupper$Table" "seats" "I") (by decide +kernel)) (fun _ h9 => h9) rfl dX2_allOf_6 ?_
      refine x_icmp_ge (tgt := 24) hx hb (by omega) (by omega) dX2_allOf_9 (by decide) (fun c_9 => ?_) (fun c_9 => ?_)
      · exfalso; omega
      · refine lv_iload_n hx hb dX2_allOf_12 rfl (lv_at hl 2 rfl) ?_
        refine lv_aload_n hx hb dX2_allOf_13 rfl (lv_at hl 1 rfl) ?_
        refine lv_iload_n hx hb dX2_allOf_14 rfl (lv_at hl 3 rfl) ?_
        refine x_iald hx hb hK hP 4 0 rfl rfl t rfl (by omega) (by decide) (T (cx t 2)) (gd_at _ (by omega)) dX2_allOf_15 ?_
        refine x_iadd hx hb dX2_allOf_16 ?_
        refine lv_istore_n (lv' := [(2, .int (iI (sv + (T (cx t 2))))), (0, .ref (q 0)), (1, .ref (q 4)), (3, .int (iI ((t : Nat) : Int)))]) hx hb dX2_allOf_17 rfl hl (by decide) rfl (fun ls hl => ?_)
        refine x_iinc hx hb 3 ((t + 1 : Nat) : Int) (by omega) [(3, .int (iI ((t + 1 : Nat) : Int))), (2, .int (iI (sv + (T (cx t 2))))), (0, .ref (q 0)), (1, .ref (q 4))] dX2_allOf_18 hl rfl (by decide) rfl (fun ls hl => ?_)
        refine lv_goto (tgt := 4) hx hb dX2_allOf_21 (by decide) ?_
        exact ih (t + 1) (sv + (T (cx t 2))) _ _ _ (by omega) hr hP hD hS (lv_sub hl [2, 3, 1, 0] rfl)
  exact L4 ((T 0).toNat) 0 0 _ _ _ (by omega) rfl hP hD hS (lv_sub hl [2, 3, 1, 0] rfl)
set_option maxHeartbeats 4000000 in
set_option maxRecDepth 100000 in
theorem kX2_allOf_3 {l : Launch} {D : va_G} {cI cB : ClassId} (q : Nat → Nat) (T : Tb) (b : Int) (hn : 0 ≤ T 0 ∧ T 0 ≤ 8) : Ct l yX2_allOf wsX2_allOf 0 0 D [(cI, .int), (cB, .byte)] [.ref (q 0), .ref (q 5)] (wTab cI q T b) (S := Unit) (fun _ => some (.int (iI (smF T 3)))) (fun _ => True) (fun _ => wTab cI q T b) := by
  refine CtI.of (cc := cX2_allOf) (maxL := 4) (by decide +kernel) rfl (Nat.le_of_ble_eq_true rfl) ?_
  intro pg e s m args below meth c Q A hx hb hml hts hown hP hK hD hS ls hl kend
  have hown : s.vm.findClass RX2 = some m.cls := hown
  have hl : lv_has ls 4 [(0, .ref (q 0)), (1, .ref (q 5))] := hl
  refine x_iconst hx hb dX2_allOf_0 ?_
  refine lv_istore_n (lv' := [(2, .int (iI 0)), (0, .ref (q 0)), (1, .ref (q 5))]) hx hb dX2_allOf_1 rfl hl (by decide) rfl (fun ls hl => ?_)
  refine x_iconst hx hb dX2_allOf_2 ?_
  refine lv_istore_n (lv' := [(3, .int (iI 0)), (2, .int (iI 0)), (0, .ref (q 0)), (1, .ref (q 5))]) hx hb dX2_allOf_3 rfl hl (by decide) rfl (fun ls hl => ?_)
  have L4 : ∀ (k t : Nat) (sv : Int) (H : Heap) (locs : List Loc) (ls : Array Slot), t + k = (T 0).toNat → (run (fun (p : Nat) (s : Int) => s + T (cx p 3)) k t sv = smF T 3) → va_P D vwCl (wTab cI q T b) H → va_D A (wTab cI q T b) → va_S A s.heap H locs → lv_has ls 4 [(0, .ref (q 0)), (1, .ref (q 5)), (2, .int (iI sv)), (3, .int (iI ((t : Nat) : Int)))] → W pg l e { frames := 0, cells := 0, slots := 0, locals := 0 } s m args below meth c H locs 0 0 Q (F0 m 4 ls []) := by
    intro k
    induction k with
    | zero =>
      intro t sv H locs ls hkt hr hP hD hS hl
      refine lv_iload_n hx hb dX2_allOf_4 rfl (lv_at hl 3 rfl) ?_
      refine lv_aload_n hx hb dX2_allOf_5 rfl (lv_at hl 0 rfl) ?_
      refine va_get (D := D) (ci := 1) (v := .int (iI (T 0))) (C := RX2) (T := TX2) (N := 12) hx hb hts (iT_X2_allOf_X2) hown hK hP 0 rfl rfl 3 (by decide) (hts (.fieldLink RX2 43 "WordSupper$Table" "seats" "I") (by decide +kernel)) (fun _ h9 => h9) rfl dX2_allOf_6 ?_
      refine x_icmp_ge (tgt := 24) hx hb (by omega) (by omega) dX2_allOf_9 (by decide) (fun c_9 => ?_) (fun c_9 => ?_)
      · refine lv_iload_n hx hb dX2_allOf_24 rfl (lv_at hl 2 rfl) ?_
        exact kend () hP hS (an_i (hr)) trivial dX2_allOf_25
      · exfalso; omega
    | succ k ih =>
      intro t sv H locs ls hkt hr hP hD hS hl
      refine lv_iload_n hx hb dX2_allOf_4 rfl (lv_at hl 3 rfl) ?_
      refine lv_aload_n hx hb dX2_allOf_5 rfl (lv_at hl 0 rfl) ?_
      refine va_get (D := D) (ci := 1) (v := .int (iI (T 0))) (C := RX2) (T := TX2) (N := 12) hx hb hts (iT_X2_allOf_X2) hown hK hP 0 rfl rfl 3 (by decide) (hts (.fieldLink RX2 43 "WordSupper$Table" "seats" "I") (by decide +kernel)) (fun _ h9 => h9) rfl dX2_allOf_6 ?_
      refine x_icmp_ge (tgt := 24) hx hb (by omega) (by omega) dX2_allOf_9 (by decide) (fun c_9 => ?_) (fun c_9 => ?_)
      · exfalso; omega
      · refine lv_iload_n hx hb dX2_allOf_12 rfl (lv_at hl 2 rfl) ?_
        refine lv_aload_n hx hb dX2_allOf_13 rfl (lv_at hl 1 rfl) ?_
        refine lv_iload_n hx hb dX2_allOf_14 rfl (lv_at hl 3 rfl) ?_
        refine x_iald hx hb hK hP 5 0 rfl rfl t rfl (by omega) (by decide) (T (cx t 3)) (gd_at _ (by omega)) dX2_allOf_15 ?_
        refine x_iadd hx hb dX2_allOf_16 ?_
        refine lv_istore_n (lv' := [(2, .int (iI (sv + (T (cx t 3))))), (0, .ref (q 0)), (1, .ref (q 5)), (3, .int (iI ((t : Nat) : Int)))]) hx hb dX2_allOf_17 rfl hl (by decide) rfl (fun ls hl => ?_)
        refine x_iinc hx hb 3 ((t + 1 : Nat) : Int) (by omega) [(3, .int (iI ((t + 1 : Nat) : Int))), (2, .int (iI (sv + (T (cx t 3))))), (0, .ref (q 0)), (1, .ref (q 5))] dX2_allOf_18 hl rfl (by decide) rfl (fun ls hl => ?_)
        refine lv_goto (tgt := 4) hx hb dX2_allOf_21 (by decide) ?_
        exact ih (t + 1) (sv + (T (cx t 3))) _ _ _ (by omega) hr hP hD hS (lv_sub hl [2, 3, 1, 0] rfl)
  exact L4 ((T 0).toNat) 0 0 _ _ _ (by omega) rfl hP hD hS (lv_sub hl [2, 3, 1, 0] rfl)
theorem ykSX2_tastesOn : yX2_tastesOn.cls ≠ "java/lang/invoke/MethodHandle" ∧ yX2_tastesOn.cls ≠ "java/lang/invoke/VarHandle" ∧ (parseMethodDescriptor yX2_tastesOn.desc).map (fun d => d.parameters.length) = some 1 := by decide +kernel
theorem ykVX2_tastesOn : yX2_tastesOn.cls = RX2 ∧ yX2_tastesOn.cls ≠ "java/lang/invoke/MethodHandle" ∧ yX2_tastesOn.cls ≠ "java/lang/invoke/VarHandle" ∧ (parseMethodDescriptor yX2_tastesOn.desc).map (fun d => d.parameters.length) = some 1 := ⟨rfl, ykSX2_tastesOn⟩
set_option maxRecDepth 20000 in
theorem iT_X2_tastesOn_X2 : ∀ w ∈ u_ws RX2 TX2 12, w ∈ wsX2_tastesOn := by decide +kernel
set_option maxHeartbeats 4000000 in
set_option maxRecDepth 100000 in
theorem kX2_tastesOn {l : Launch} {D : va_G} {cI cB : ClassId} (q : Nat → Nat) (T : Tb) (b : Int) (p : Nat) (hp : p < 8) (hpl : ∀ t : Nat, t < 6 → 0 ≤ T (cx p (4 + t)) ∧ T (cx p (4 + t)) ≤ 999) : Ct l yX2_tastesOn wsX2_tastesOn 1 21 D [(cI, .int), (cB, .byte)] [.ref (q 0), .int (iI ((p : Nat) : Int))] (wTab cI q T b) (S := Unit) (fun _ => some (.int (iI (tsF T p)))) (fun _ => True) (fun _ => wTab cI q T b) := by
  refine CtI.of (cc := cX2_tastesOn) (maxL := 4) (by decide +kernel) rfl (Nat.le_of_ble_eq_true rfl) ?_
  intro pg e s m args below meth c Q A hx hb hml hts hown hP hK hD hS ls hl kend
  have hown : s.vm.findClass RX2 = some m.cls := hown
  have hl : lv_has ls 4 [(0, .ref (q 0)), (1, .int (iI ((p : Nat) : Int)))] := hl
  refine x_iconst hx hb dX2_tastesOn_0 ?_
  refine lv_istore_n (lv' := [(2, .int (iI 0)), (0, .ref (q 0)), (1, .int (iI ((p : Nat) : Int)))]) hx hb dX2_tastesOn_1 rfl hl (by decide) rfl (fun ls hl => ?_)
  refine x_iconst hx hb dX2_tastesOn_2 ?_
  refine lv_istore_n (lv' := [(3, .int (iI 0)), (2, .int (iI 0)), (0, .ref (q 0)), (1, .int (iI ((p : Nat) : Int)))]) hx hb dX2_tastesOn_3 rfl hl (by decide) rfl (fun ls hl => ?_)
  have L4 : ∀ (k t : Nat) (sv : Int) (H : Heap) (locs : List Loc) (ls : Array Slot), t + k = 6 → (run (fun (t : Nat) (s : Int) => orI s (if 0 < T (cx p (4 + t)) then shlI 1 t else 0)) k t sv = tsF T p) → (rI sv) → va_P D vwCl (wTab cI q T b) H → va_D A (wTab cI q T b) → va_S A s.heap H locs → lv_has ls 4 [(0, .ref (q 0)), (1, .int (iI ((p : Nat) : Int))), (2, .int (iI sv)), (3, .int (iI ((t : Nat) : Int)))] → W pg l e { frames := 1, cells := 0, slots := 0, locals := 21 } s m args below meth c H locs 0 0 Q (F0 m 4 ls []) := by
    intro k
    induction k with
    | zero =>
      intro t sv H locs ls hkt hr hq hP hD hS hl
      refine lv_iload_n hx hb dX2_tastesOn_4 rfl (lv_at hl 3 rfl) ?_
      refine x_bipush hx hb dX2_tastesOn_5 (by decide) ?_
      refine x_icmp_ge (tgt := 35) hx hb (by omega) (by decide) dX2_tastesOn_7 (by decide) (fun c_7 => ?_) (fun c_7 => ?_)
      · refine lv_iload_n hx hb dX2_tastesOn_35 rfl (lv_at hl 2 rfl) ?_
        exact kend () hP hS (an_i (hr)) trivial dX2_tastesOn_36
      · exfalso; omega
    | succ k ih =>
      intro t sv H locs ls hkt hr hq hP hD hS hl
      refine lv_iload_n hx hb dX2_tastesOn_4 rfl (lv_at hl 3 rfl) ?_
      refine x_bipush hx hb dX2_tastesOn_5 (by decide) ?_
      refine x_icmp_ge (tgt := 35) hx hb (by omega) (by decide) dX2_tastesOn_7 (by decide) (fun c_7 => ?_) (fun c_7 => ?_)
      · exfalso; omega
      · refine lv_aload_n hx hb dX2_tastesOn_10 rfl (lv_at hl 0 rfl) ?_
        refine va_get (D := D) (ci := 1) (v := .ref (q 6)) (C := RX2) (T := TX2) (N := 12) hx hb hts (iT_X2_tastesOn_X2) hown hK hP 0 rfl rfl 10 (by decide) (hts (.fieldLink RX2 34 "WordSupper$Table" "plates" "[I") (by decide +kernel)) (fun _ h9 => h9) rfl dX2_tastesOn_11 ?_
        refine lv_iload_n hx hb dX2_tastesOn_14 rfl (lv_at hl 1 rfl) ?_
        refine lv_iload_n hx hb dX2_tastesOn_15 rfl (lv_at hl 3 rfl) ?_
        refine x_callS (As := [.int (iI ((p : Nat) : Int)), .int (iI ((t : Nat) : Int))]) (rest := [.ref (q 6)]) ⟨hx, hb, hml, hown, hts⟩ (kX2_at p t (by omega) (by omega)) (va_cwS 2 hts gX2_tastesOn_X2_at rfl rfl rfl ykSX2_at ⟨Nat.le_of_ble_eq_true rfl, Nat.le_of_ble_eq_true rfl⟩) hP hK hD hS [] rfl (by decide) (fun _ => rfl) (fun _ => wTab cI q T b) (fun _ => rfl) rfl hl.1 rfl (Nat.le_of_ble_eq_true rfl) dX2_tastesOn_16 ⟨Nat.le_of_ble_eq_true rfl, Nat.le_of_ble_eq_true rfl⟩ (fun _ H locs _ hP hD hS => ?_)
        refine W.eq (g2 := F0 m 19 ls [.int (iI ((6 * p + t : Nat) : Int)), .ref (q 6)]) rfl ?_
        refine x_iald hx hb hK hP 6 0 rfl rfl (6 * p + t) rfl (by omega) (by decide) (T (cx p (4 + t))) (plG_gd _ (by omega) (by omega)) dX2_tastesOn_19 ?_
        have hv := hpl t (by omega)
        refine x_if_le (tgt := 29) hx hb (by omega) dX2_tastesOn_20 (by decide) (fun c_20 => ?_) (fun c_20 => ?_)
        · refine x_iinc hx hb 3 ((t + 1 : Nat) : Int) (by omega) [(3, .int (iI ((t + 1 : Nat) : Int))), (0, .ref (q 0)), (1, .int (iI ((p : Nat) : Int))), (2, .int (iI sv))] dX2_tastesOn_29 hl rfl (by decide) rfl (fun ls hl => ?_)
          refine lv_goto (tgt := 4) hx hb dX2_tastesOn_32 (by decide) ?_
          exact ih (t + 1) sv _ _ _ (by omega) (run_step hr (by rw [if_neg (by omega), orI_0 hq])) hq hP hD hS (lv_sub hl [1, 2, 3, 0] rfl)
        · refine lv_iload_n hx hb dX2_tastesOn_23 rfl (lv_at hl 2 rfl) ?_
          refine x_iconst hx hb dX2_tastesOn_24 ?_
          refine lv_iload_n hx hb dX2_tastesOn_25 rfl (lv_at hl 3 rfl) ?_
          refine x_ishl hx hb dX2_tastesOn_26 ?_
          refine x_ior hx hb dX2_tastesOn_27 ?_
          refine lv_istore_n (lv' := [(2, .int (iI (orI sv (shlI 1 ((t : Nat) : Int))))), (0, .ref (q 0)), (1, .int (iI ((p : Nat) : Int))), (3, .int (iI ((t : Nat) : Int)))]) hx hb dX2_tastesOn_28 rfl hl (by decide) rfl (fun ls hl => ?_)
          refine x_iinc hx hb 3 ((t + 1 : Nat) : Int) (by omega) [(3, .int (iI ((t + 1 : Nat) : Int))), (2, .int (iI (orI sv (shlI 1 ((t : Nat) : Int))))), (0, .ref (q 0)), (1, .int (iI ((p : Nat) : Int)))] dX2_tastesOn_29 hl rfl (by decide) rfl (fun ls hl => ?_)
          refine lv_goto (tgt := 4) hx hb dX2_tastesOn_32 (by decide) ?_
          exact ih (t + 1) (orI sv (shlI 1 ((t : Nat) : Int))) _ _ _ (by omega) (run_step hr (by rw [if_pos (by omega)])) (orI_r _ _) hP hD hS (lv_sub hl [2, 3, 1, 0] rfl)
  exact L4 (6) 0 0 _ _ _ (by omega) rfl (by decide) hP hD hS (lv_sub hl [2, 3, 1, 0] rfl)
theorem ykSX2_cleanOnes : yX2_cleanOnes.cls ≠ "java/lang/invoke/MethodHandle" ∧ yX2_cleanOnes.cls ≠ "java/lang/invoke/VarHandle" ∧ (parseMethodDescriptor yX2_cleanOnes.desc).map (fun d => d.parameters.length) = some 0 := by decide +kernel
theorem ykVX2_cleanOnes : yX2_cleanOnes.cls = RX2 ∧ yX2_cleanOnes.cls ≠ "java/lang/invoke/MethodHandle" ∧ yX2_cleanOnes.cls ≠ "java/lang/invoke/VarHandle" ∧ (parseMethodDescriptor yX2_cleanOnes.desc).map (fun d => d.parameters.length) = some 0 := ⟨rfl, ykSX2_cleanOnes⟩
set_option maxRecDepth 20000 in
theorem iT_X2_cleanOnes_X2 : ∀ w ∈ u_ws RX2 TX2 12, w ∈ wsX2_cleanOnes := by decide +kernel
set_option maxHeartbeats 4000000 in
set_option maxRecDepth 100000 in
theorem kX2_cleanOnes {l : Launch} {D : va_G} {cI cB : ClassId} (q : Nat → Nat) (T : Tb) (b : Int) (B : Int) (hI : Inv B T) : Ct l yX2_cleanOnes wsX2_cleanOnes 2 44 D [(cI, .int), (cB, .byte)] [.ref (q 0)] (wTab cI q T b) (S := Unit) (fun _ => some (.int (iI (cnF T)))) (fun _ => True) (fun _ => wTab cI q T b) := by
  refine CtI.of (cc := cX2_cleanOnes) (maxL := 3) (by decide +kernel) rfl (Nat.le_of_ble_eq_true rfl) ?_
  intro pg e s m args below meth c Q A hx hb hml hts hown hP hK hD hS ls hl kend
  have hown : s.vm.findClass RX2 = some m.cls := hown
  have hl : lv_has ls 3 [(0, .ref (q 0))] := hl
  have hn := Inv_n hI
  refine x_iconst hx hb dX2_cleanOnes_0 ?_
  refine lv_istore_n (lv' := [(1, .int (iI 0)), (0, .ref (q 0))]) hx hb dX2_cleanOnes_1 rfl hl (by decide) rfl (fun ls hl => ?_)
  refine x_iconst hx hb dX2_cleanOnes_2 ?_
  refine lv_istore_n (lv' := [(2, .int (iI 0)), (1, .int (iI 0)), (0, .ref (q 0))]) hx hb dX2_cleanOnes_3 rfl hl (by decide) rfl (fun ls hl => ?_)
  have L4 : ∀ (k t : Nat) (sv : Int) (H : Heap) (locs : List Loc) (ls : Array Slot), t + k = (T 0).toNat → (run (fun (p : Nat) (s : Int) => orI s (if lfF T p = 0 then shlI 1 p else 0)) k t sv = cnF T) → (rI sv) → va_P D vwCl (wTab cI q T b) H → va_D A (wTab cI q T b) → va_S A s.heap H locs → lv_has ls 3 [(0, .ref (q 0)), (1, .int (iI sv)), (2, .int (iI ((t : Nat) : Int)))] → W pg l e { frames := 2, cells := 0, slots := 0, locals := 44 } s m args below meth c H locs 0 0 Q (F0 m 4 ls []) := by
    intro k
    induction k with
    | zero =>
      intro t sv H locs ls hkt hr hq hP hD hS hl
      refine lv_iload_n hx hb dX2_cleanOnes_4 rfl (lv_at hl 2 rfl) ?_
      refine lv_aload_n hx hb dX2_cleanOnes_5 rfl (lv_at hl 0 rfl) ?_
      refine va_get (D := D) (ci := 1) (v := .int (iI (T 0))) (C := RX2) (T := TX2) (N := 12) hx hb hts (iT_X2_cleanOnes_X2) hown hK hP 0 rfl rfl 3 (by decide) (hts (.fieldLink RX2 43 "WordSupper$Table" "seats" "I") (by decide +kernel)) (fun _ h9 => h9) rfl dX2_cleanOnes_6 ?_
      refine x_icmp_ge (tgt := 32) hx hb (by omega) (by omega) dX2_cleanOnes_9 (by decide) (fun c_9 => ?_) (fun c_9 => ?_)
      · refine lv_iload_n hx hb dX2_cleanOnes_32 rfl (lv_at hl 1 rfl) ?_
        exact kend () hP hS (an_i (hr)) trivial dX2_cleanOnes_33
      · exfalso; omega
    | succ k ih =>
      intro t sv H locs ls hkt hr hq hP hD hS hl
      refine lv_iload_n hx hb dX2_cleanOnes_4 rfl (lv_at hl 2 rfl) ?_
      refine lv_aload_n hx hb dX2_cleanOnes_5 rfl (lv_at hl 0 rfl) ?_
      refine va_get (D := D) (ci := 1) (v := .int (iI (T 0))) (C := RX2) (T := TX2) (N := 12) hx hb hts (iT_X2_cleanOnes_X2) hown hK hP 0 rfl rfl 3 (by decide) (hts (.fieldLink RX2 43 "WordSupper$Table" "seats" "I") (by decide +kernel)) (fun _ h9 => h9) rfl dX2_cleanOnes_6 ?_
      refine x_icmp_ge (tgt := 32) hx hb (by omega) (by omega) dX2_cleanOnes_9 (by decide) (fun c_9 => ?_) (fun c_9 => ?_)
      · exfalso; omega
      · refine lv_aload_n hx hb dX2_cleanOnes_12 rfl (lv_at hl 0 rfl) ?_
        refine lv_iload_n hx hb dX2_cleanOnes_13 rfl (lv_at hl 2 rfl) ?_
        refine x_callV (As := [.int (iI ((t : Nat) : Int))]) (rest := []) ⟨hx, hb, hml, hown, hts⟩ (kX2_left q T b t (by omega)) (cwV 1 hts gX2_cleanOnes_X2_left rfl rfl rfl ykVX2_left ⟨Nat.le_of_ble_eq_true rfl, Nat.le_of_ble_eq_true rfl⟩) hP hK hD hS 0 1 rfl rfl rfl [0, 1, 2, 3, 4, 5, 6, 7] rfl (by decide) (fun _ => rfl) (fun _ => wTab cI q T b) (fun _ => rfl) rfl hl.1 rfl (Nat.le_of_ble_eq_true rfl) dX2_cleanOnes_14 ⟨Nat.le_of_ble_eq_true rfl, Nat.le_of_ble_eq_true rfl⟩ (fun _ H locs _ hP hD hS => ?_)
        refine W.eq (g2 := F0 m 17 ls [.int (iI (lfF T t))]) rfl ?_
        have hv := Inv_lf (p := t) hI (by omega)
        refine x_if_ne (tgt := 26) hx hb (by omega) dX2_cleanOnes_17 (by decide) (fun c_17 => ?_) (fun c_17 => ?_)
        · refine x_iinc hx hb 2 ((t + 1 : Nat) : Int) (by omega) [(2, .int (iI ((t + 1 : Nat) : Int))), (0, .ref (q 0)), (1, .int (iI sv))] dX2_cleanOnes_26 hl rfl (by decide) rfl (fun ls hl => ?_)
          refine lv_goto (tgt := 4) hx hb dX2_cleanOnes_29 (by decide) ?_
          exact ih (t + 1) sv _ _ _ (by omega) (run_step hr (by rw [if_neg (by omega), orI_0 hq])) hq hP hD hS (lv_sub hl [1, 2, 0] rfl)
        · refine lv_iload_n hx hb dX2_cleanOnes_20 rfl (lv_at hl 1 rfl) ?_
          refine x_iconst hx hb dX2_cleanOnes_21 ?_
          refine lv_iload_n hx hb dX2_cleanOnes_22 rfl (lv_at hl 2 rfl) ?_
          refine x_ishl hx hb dX2_cleanOnes_23 ?_
          refine x_ior hx hb dX2_cleanOnes_24 ?_
          refine lv_istore_n (lv' := [(1, .int (iI (orI sv (shlI 1 ((t : Nat) : Int))))), (0, .ref (q 0)), (2, .int (iI ((t : Nat) : Int)))]) hx hb dX2_cleanOnes_25 rfl hl (by decide) rfl (fun ls hl => ?_)
          refine x_iinc hx hb 2 ((t + 1 : Nat) : Int) (by omega) [(2, .int (iI ((t + 1 : Nat) : Int))), (1, .int (iI (orI sv (shlI 1 ((t : Nat) : Int))))), (0, .ref (q 0))] dX2_cleanOnes_26 hl rfl (by decide) rfl (fun ls hl => ?_)
          refine lv_goto (tgt := 4) hx hb dX2_cleanOnes_29 (by decide) ?_
          exact ih (t + 1) (orI sv (shlI 1 ((t : Nat) : Int))) _ _ _ (by omega) (run_step hr (by rw [if_pos (by omega)])) (orI_r _ _) hP hD hS (lv_sub hl [2, 1, 0] rfl)
  exact L4 ((T 0).toNat) 0 0 _ _ _ (by omega) rfl (by decide) hP hD hS (lv_sub hl [2, 1, 0] rfl)
theorem ykSX2_lovedOnes : yX2_lovedOnes.cls ≠ "java/lang/invoke/MethodHandle" ∧ yX2_lovedOnes.cls ≠ "java/lang/invoke/VarHandle" ∧ (parseMethodDescriptor yX2_lovedOnes.desc).map (fun d => d.parameters.length) = some 0 := by decide +kernel
theorem ykVX2_lovedOnes : yX2_lovedOnes.cls = RX2 ∧ yX2_lovedOnes.cls ≠ "java/lang/invoke/MethodHandle" ∧ yX2_lovedOnes.cls ≠ "java/lang/invoke/VarHandle" ∧ (parseMethodDescriptor yX2_lovedOnes.desc).map (fun d => d.parameters.length) = some 0 := ⟨rfl, ykSX2_lovedOnes⟩
set_option maxRecDepth 20000 in
theorem iT_X2_lovedOnes_X2 : ∀ w ∈ u_ws RX2 TX2 12, w ∈ wsX2_lovedOnes := by decide +kernel
set_option maxHeartbeats 4000000 in
set_option maxRecDepth 100000 in
theorem kX2_lovedOnes {l : Launch} {D : va_G} {cI cB : ClassId} (q : Nat → Nat) (T : Tb) (b : Int) (B : Int) (hI : Inv B T) : Ct l yX2_lovedOnes wsX2_lovedOnes 1 21 D [(cI, .int), (cB, .byte)] [.ref (q 0)] (wTab cI q T b) (S := Unit) (fun _ => some (.int (iI (lvF T)))) (fun _ => True) (fun _ => wTab cI q T b) := by
  refine CtI.of (cc := cX2_lovedOnes) (maxL := 3) (by decide +kernel) rfl (Nat.le_of_ble_eq_true rfl) ?_
  intro pg e s m args below meth c Q A hx hb hml hts hown hP hK hD hS ls hl kend
  have hown : s.vm.findClass RX2 = some m.cls := hown
  have hl : lv_has ls 3 [(0, .ref (q 0))] := hl
  have hn := Inv_n hI
  refine x_iconst hx hb dX2_lovedOnes_0 ?_
  refine lv_istore_n (lv' := [(1, .int (iI 0)), (0, .ref (q 0))]) hx hb dX2_lovedOnes_1 rfl hl (by decide) rfl (fun ls hl => ?_)
  refine x_iconst hx hb dX2_lovedOnes_2 ?_
  refine lv_istore_n (lv' := [(2, .int (iI 0)), (1, .int (iI 0)), (0, .ref (q 0))]) hx hb dX2_lovedOnes_3 rfl hl (by decide) rfl (fun ls hl => ?_)
  have L4 : ∀ (k t : Nat) (sv : Int) (H : Heap) (locs : List Loc) (ls : Array Slot), t + k = (T 0).toNat → (run (fun (p : Nat) (s : Int) => orI s (if 0 ≤ T (cx p 1) then shlI 1 (T (cx p 1)) else 0)) k t sv = lvF T) → (rI sv) → va_P D vwCl (wTab cI q T b) H → va_D A (wTab cI q T b) → va_S A s.heap H locs → lv_has ls 3 [(0, .ref (q 0)), (1, .int (iI sv)), (2, .int (iI ((t : Nat) : Int)))] → W pg l e { frames := 1, cells := 0, slots := 0, locals := 21 } s m args below meth c H locs 0 0 Q (F0 m 4 ls []) := by
    intro k
    induction k with
    | zero =>
      intro t sv H locs ls hkt hr hq hP hD hS hl
      refine lv_iload_n hx hb dX2_lovedOnes_4 rfl (lv_at hl 2 rfl) ?_
      refine lv_aload_n hx hb dX2_lovedOnes_5 rfl (lv_at hl 0 rfl) ?_
      refine va_get (D := D) (ci := 1) (v := .int (iI (T 0))) (C := RX2) (T := TX2) (N := 12) hx hb hts (iT_X2_lovedOnes_X2) hown hK hP 0 rfl rfl 3 (by decide) (hts (.fieldLink RX2 43 "WordSupper$Table" "seats" "I") (by decide +kernel)) (fun _ h9 => h9) rfl dX2_lovedOnes_6 ?_
      refine x_icmp_ge (tgt := 42) hx hb (by omega) (by omega) dX2_lovedOnes_9 (by decide) (fun c_9 => ?_) (fun c_9 => ?_)
      · refine lv_iload_n hx hb dX2_lovedOnes_42 rfl (lv_at hl 1 rfl) ?_
        exact kend () hP hS (an_i (hr)) trivial dX2_lovedOnes_43
      · exfalso; omega
    | succ k ih =>
      intro t sv H locs ls hkt hr hq hP hD hS hl
      refine lv_iload_n hx hb dX2_lovedOnes_4 rfl (lv_at hl 2 rfl) ?_
      refine lv_aload_n hx hb dX2_lovedOnes_5 rfl (lv_at hl 0 rfl) ?_
      refine va_get (D := D) (ci := 1) (v := .int (iI (T 0))) (C := RX2) (T := TX2) (N := 12) hx hb hts (iT_X2_lovedOnes_X2) hown hK hP 0 rfl rfl 3 (by decide) (hts (.fieldLink RX2 43 "WordSupper$Table" "seats" "I") (by decide +kernel)) (fun _ h9 => h9) rfl dX2_lovedOnes_6 ?_
      refine x_icmp_ge (tgt := 42) hx hb (by omega) (by omega) dX2_lovedOnes_9 (by decide) (fun c_9 => ?_) (fun c_9 => ?_)
      · exfalso; omega
      · have hv := Inv_lv (p := t) hI (by omega)
        refine lv_aload_n hx hb dX2_lovedOnes_12 rfl (lv_at hl 0 rfl) ?_
        refine lv_aload_n hx hb dX2_lovedOnes_13 rfl (lv_at hl 0 rfl) ?_
        refine va_get (D := D) (ci := 1) (v := .ref (q 3)) (C := RX2) (T := TX2) (N := 12) hx hb hts (iT_X2_lovedOnes_X2) hown hK hP 0 rfl rfl 7 (by decide) (hts (.fieldLink RX2 25 "WordSupper$Table" "loves" "[I") (by decide +kernel)) (fun _ h9 => h9) rfl dX2_lovedOnes_14 ?_
        refine lv_iload_n hx hb dX2_lovedOnes_17 rfl (lv_at hl 2 rfl) ?_
        refine x_iald hx hb hK hP 3 0 rfl rfl t rfl (by omega) (by decide) (T (cx t 1)) (gd_at _ (by omega)) dX2_lovedOnes_18 ?_
        refine x_callV (As := [.int (iI (T (cx t 1)))]) (rest := []) ⟨hx, hb, hml, hown, hts⟩ (kX2_isSeat q T b (T (cx t 1)) (by omega) (by omega)) (cwV 1 hts gX2_lovedOnes_X2_isSeat rfl rfl rfl ykVX2_isSeat ⟨Nat.le_of_ble_eq_true rfl, Nat.le_of_ble_eq_true rfl⟩) hP hK hD hS 0 1 rfl rfl rfl [0, 1, 2, 3, 4, 5, 6, 7] rfl (by decide) (fun _ => rfl) (fun _ => wTab cI q T b) (fun _ => rfl) rfl hl.1 rfl (Nat.le_of_ble_eq_true rfl) dX2_lovedOnes_19 ⟨Nat.le_of_ble_eq_true rfl, Nat.le_of_ble_eq_true rfl⟩ (fun _ H locs _ hP hD hS => ?_)
        refine W.eq (g2 := F0 m 22 ls [.int (iI (b2 (decide (0 ≤ (T (cx t 1)) ∧ (T (cx t 1)) < T 0))))]) rfl ?_
        refine x_ifb_eq (tgt := 36) hx hb dX2_lovedOnes_22 (by decide) (fun c_22 => ?_) (fun c_22 => ?_)
        · refine x_iinc hx hb 2 ((t + 1 : Nat) : Int) (by omega) [(2, .int (iI ((t + 1 : Nat) : Int))), (0, .ref (q 0)), (1, .int (iI sv))] dX2_lovedOnes_36 hl rfl (by decide) rfl (fun ls hl => ?_)
          refine lv_goto (tgt := 4) hx hb dX2_lovedOnes_39 (by decide) ?_
          exact ih (t + 1) sv _ _ _ (by omega) (run_step hr (by rw [if_neg (by omega), orI_0 hq])) hq hP hD hS (lv_sub hl [1, 2, 0] rfl)
        · refine lv_iload_n hx hb dX2_lovedOnes_25 rfl (lv_at hl 1 rfl) ?_
          refine x_iconst hx hb dX2_lovedOnes_26 ?_
          refine lv_aload_n hx hb dX2_lovedOnes_27 rfl (lv_at hl 0 rfl) ?_
          refine va_get (D := D) (ci := 1) (v := .ref (q 3)) (C := RX2) (T := TX2) (N := 12) hx hb hts (iT_X2_lovedOnes_X2) hown hK hP 0 rfl rfl 7 (by decide) (hts (.fieldLink RX2 25 "WordSupper$Table" "loves" "[I") (by decide +kernel)) (fun _ h9 => h9) rfl dX2_lovedOnes_28 ?_
          refine lv_iload_n hx hb dX2_lovedOnes_31 rfl (lv_at hl 2 rfl) ?_
          refine x_iald hx hb hK hP 3 0 rfl rfl t rfl (by omega) (by decide) (T (cx t 1)) (gd_at _ (by omega)) dX2_lovedOnes_32 ?_
          refine x_ishl hx hb dX2_lovedOnes_33 ?_
          refine x_ior hx hb dX2_lovedOnes_34 ?_
          refine lv_istore_n (lv' := [(1, .int (iI (orI sv (shlI 1 (T (cx t 1)))))), (0, .ref (q 0)), (2, .int (iI ((t : Nat) : Int)))]) hx hb dX2_lovedOnes_35 rfl hl (by decide) rfl (fun ls hl => ?_)
          refine x_iinc hx hb 2 ((t + 1 : Nat) : Int) (by omega) [(2, .int (iI ((t + 1 : Nat) : Int))), (1, .int (iI (orI sv (shlI 1 (T (cx t 1)))))), (0, .ref (q 0))] dX2_lovedOnes_36 hl rfl (by decide) rfl (fun ls hl => ?_)
          refine lv_goto (tgt := 4) hx hb dX2_lovedOnes_39 (by decide) ?_
          exact ih (t + 1) (orI sv (shlI 1 (T (cx t 1)))) _ _ _ (by omega) (run_step hr (by rw [if_pos (by omega)])) (orI_r _ _) hP hD hS (lv_sub hl [2, 1, 0] rfl)
  exact L4 ((T 0).toNat) 0 0 _ _ _ (by omega) rfl (by decide) hP hD hS (lv_sub hl [2, 1, 0] rfl)
theorem ykSX2_fullest : yX2_fullest.cls ≠ "java/lang/invoke/MethodHandle" ∧ yX2_fullest.cls ≠ "java/lang/invoke/VarHandle" ∧ (parseMethodDescriptor yX2_fullest.desc).map (fun d => d.parameters.length) = some 0 := by decide +kernel
theorem ykVX2_fullest : yX2_fullest.cls = RX2 ∧ yX2_fullest.cls ≠ "java/lang/invoke/MethodHandle" ∧ yX2_fullest.cls ≠ "java/lang/invoke/VarHandle" ∧ (parseMethodDescriptor yX2_fullest.desc).map (fun d => d.parameters.length) = some 0 := ⟨rfl, ykSX2_fullest⟩
set_option maxRecDepth 20000 in
theorem iT_X2_fullest_X2 : ∀ w ∈ u_ws RX2 TX2 12, w ∈ wsX2_fullest := by decide +kernel
set_option maxHeartbeats 4000000 in
set_option maxRecDepth 100000 in
theorem kX2_fullest {l : Launch} {D : va_G} {cI cB : ClassId} (q : Nat → Nat) (T : Tb) (b : Int) (B : Int) (hI : Inv B T) : Ct l yX2_fullest wsX2_fullest 2 44 D [(cI, .int), (cB, .byte)] [.ref (q 0)] (wTab cI q T b) (S := Unit) (fun _ => some (.int (iI (fuF T)))) (fun _ => True) (fun _ => wTab cI q T b) := by
  refine CtI.of (cc := cX2_fullest) (maxL := 4) (by decide +kernel) rfl (Nat.le_of_ble_eq_true rfl) ?_
  intro pg e s m args below meth c Q A hx hb hml hts hown hP hK hD hS ls hl kend
  have hown : s.vm.findClass RX2 = some m.cls := hown
  have hl : lv_has ls 4 [(0, .ref (q 0))] := hl
  have hn := Inv_n hI
  refine x_iconst hx hb dX2_fullest_0 ?_
  refine lv_istore_n (lv' := [(1, .int (iI (-1))), (0, .ref (q 0))]) hx hb dX2_fullest_1 rfl hl (by decide) rfl (fun ls hl => ?_)
  refine x_iconst hx hb dX2_fullest_2 ?_
  refine lv_istore_n (lv' := [(2, .int (iI (-1))), (1, .int (iI (-1))), (0, .ref (q 0))]) hx hb dX2_fullest_3 rfl hl (by decide) rfl (fun ls hl => ?_)
  refine x_iconst hx hb dX2_fullest_4 ?_
  refine lv_istore_n (lv' := [(3, .int (iI 0)), (2, .int (iI (-1))), (1, .int (iI (-1))), (0, .ref (q 0))]) hx hb dX2_fullest_5 rfl hl (by decide) rfl (fun ls hl => ?_)
  have L6 : ∀ (k t : Nat) (bv : Int) (mv : Int) (H : Heap) (locs : List Loc) (ls : Array Slot), t + k = (T 0).toNat → ((run (fuS T) k t (bv, mv)).1 = fuF T) → (rI mv) → va_P D vwCl (wTab cI q T b) H → va_D A (wTab cI q T b) → va_S A s.heap H locs → lv_has ls 4 [(0, .ref (q 0)), (1, .int (iI bv)), (2, .int (iI mv)), (3, .int (iI ((t : Nat) : Int)))] → W pg l e { frames := 2, cells := 0, slots := 0, locals := 44 } s m args below meth c H locs 0 0 Q (F0 m 6 ls []) := by
    intro k
    induction k with
    | zero =>
      intro t bv mv H locs ls hkt hr hq hP hD hS hl
      refine lv_iload_n hx hb dX2_fullest_6 rfl (lv_at hl 3 rfl) ?_
      refine lv_aload_n hx hb dX2_fullest_7 rfl (lv_at hl 0 rfl) ?_
      refine va_get (D := D) (ci := 1) (v := .int (iI (T 0))) (C := RX2) (T := TX2) (N := 12) hx hb hts (iT_X2_fullest_X2) hown hK hP 0 rfl rfl 3 (by decide) (hts (.fieldLink RX2 43 "WordSupper$Table" "seats" "I") (by decide +kernel)) (fun _ h9 => h9) rfl dX2_fullest_8 ?_
      refine x_icmp_ge (tgt := 37) hx hb (by omega) (by omega) dX2_fullest_11 (by decide) (fun c_11 => ?_) (fun c_11 => ?_)
      · refine lv_iload_n hx hb dX2_fullest_37 rfl (lv_at hl 1 rfl) ?_
        exact kend () hP hS (an_i (hr)) trivial dX2_fullest_38
      · exfalso; omega
    | succ k ih =>
      intro t bv mv H locs ls hkt hr hq hP hD hS hl
      refine lv_iload_n hx hb dX2_fullest_6 rfl (lv_at hl 3 rfl) ?_
      refine lv_aload_n hx hb dX2_fullest_7 rfl (lv_at hl 0 rfl) ?_
      refine va_get (D := D) (ci := 1) (v := .int (iI (T 0))) (C := RX2) (T := TX2) (N := 12) hx hb hts (iT_X2_fullest_X2) hown hK hP 0 rfl rfl 3 (by decide) (hts (.fieldLink RX2 43 "WordSupper$Table" "seats" "I") (by decide +kernel)) (fun _ h9 => h9) rfl dX2_fullest_8 ?_
      refine x_icmp_ge (tgt := 37) hx hb (by omega) (by omega) dX2_fullest_11 (by decide) (fun c_11 => ?_) (fun c_11 => ?_)
      · exfalso; omega
      · have hv := Inv_lf (p := t) hI (by omega)
        refine lv_aload_n hx hb dX2_fullest_14 rfl (lv_at hl 0 rfl) ?_
        refine lv_iload_n hx hb dX2_fullest_15 rfl (lv_at hl 3 rfl) ?_
        refine x_callV (As := [.int (iI ((t : Nat) : Int))]) (rest := []) ⟨hx, hb, hml, hown, hts⟩ (kX2_left q T b t (by omega)) (cwV 1 hts gX2_fullest_X2_left rfl rfl rfl ykVX2_left ⟨Nat.le_of_ble_eq_true rfl, Nat.le_of_ble_eq_true rfl⟩) hP hK hD hS 0 1 rfl rfl rfl [0, 1, 2, 3, 4, 5, 6, 7] rfl (by decide) (fun _ => rfl) (fun _ => wTab cI q T b) (fun _ => rfl) rfl hl.1 rfl (Nat.le_of_ble_eq_true rfl) dX2_fullest_16 ⟨Nat.le_of_ble_eq_true rfl, Nat.le_of_ble_eq_true rfl⟩ (fun _ H locs _ hP hD hS => ?_)
        refine W.eq (g2 := F0 m 19 ls [.int (iI (lfF T t))]) rfl ?_
        refine lv_iload_n hx hb dX2_fullest_19 rfl (lv_at hl 2 rfl) ?_
        refine x_icmp_le (tgt := 31) hx hb (by omega) (by omega) dX2_fullest_20 (by decide) (fun c_20 => ?_) (fun c_20 => ?_)
        · refine x_iinc hx hb 3 ((t + 1 : Nat) : Int) (by omega) [(3, .int (iI ((t + 1 : Nat) : Int))), (0, .ref (q 0)), (1, .int (iI bv)), (2, .int (iI mv))] dX2_fullest_31 hl rfl (by decide) rfl (fun ls hl => ?_)
          refine lv_goto (tgt := 6) hx hb dX2_fullest_34 (by decide) ?_
          exact ih (t + 1) bv mv _ _ _ (by omega) (by rw [← hr, run_s]; congr 2; unfold fuS; dsimp only; rw [if_neg (by omega)]) hq hP hD hS (lv_sub hl [1, 2, 3, 0] rfl)
        · refine lv_aload_n hx hb dX2_fullest_23 rfl (lv_at hl 0 rfl) ?_
          refine lv_iload_n hx hb dX2_fullest_24 rfl (lv_at hl 3 rfl) ?_
          refine x_callV (As := [.int (iI ((t : Nat) : Int))]) (rest := []) ⟨hx, hb, hml, hown, hts⟩ (kX2_left q T b t (by omega)) (cwV 1 hts gX2_fullest_X2_left rfl rfl rfl ykVX2_left ⟨Nat.le_of_ble_eq_true rfl, Nat.le_of_ble_eq_true rfl⟩) hP hK hD hS 0 1 rfl rfl rfl [0, 1, 2, 3, 4, 5, 6, 7] rfl (by decide) (fun _ => rfl) (fun _ => wTab cI q T b) (fun _ => rfl) rfl hl.1 rfl (Nat.le_of_ble_eq_true rfl) dX2_fullest_25 ⟨Nat.le_of_ble_eq_true rfl, Nat.le_of_ble_eq_true rfl⟩ (fun _ H locs _ hP hD hS => ?_)
          refine W.eq (g2 := F0 m 28 ls [.int (iI (lfF T t))]) rfl ?_
          refine lv_istore_n (lv' := [(2, .int (iI (lfF T t))), (0, .ref (q 0)), (1, .int (iI bv)), (3, .int (iI ((t : Nat) : Int)))]) hx hb dX2_fullest_28 rfl hl (by decide) rfl (fun ls hl => ?_)
          refine lv_iload_n hx hb dX2_fullest_29 rfl (lv_at hl 3 rfl) ?_
          refine lv_istore_n (lv' := [(1, .int (iI ((t : Nat) : Int))), (2, .int (iI (lfF T t))), (0, .ref (q 0)), (3, .int (iI ((t : Nat) : Int)))]) hx hb dX2_fullest_30 rfl hl (by decide) rfl (fun ls hl => ?_)
          refine x_iinc hx hb 3 ((t + 1 : Nat) : Int) (by omega) [(3, .int (iI ((t + 1 : Nat) : Int))), (1, .int (iI ((t : Nat) : Int))), (2, .int (iI (lfF T t))), (0, .ref (q 0))] dX2_fullest_31 hl rfl (by decide) rfl (fun ls hl => ?_)
          refine lv_goto (tgt := 6) hx hb dX2_fullest_34 (by decide) ?_
          exact ih (t + 1) ((t : Nat) : Int) (lfF T t) _ _ _ (by omega) (by rw [← hr, run_s]; unfold fuS; dsimp only; rw [if_pos (by omega)]) (by omega) hP hD hS (lv_sub hl [3, 1, 2, 0] rfl)
  exact L6 ((T 0).toNat) 0 (-1) (-1) _ _ _ (by omega) rfl (by decide) hP hD hS (lv_sub hl [3, 2, 1, 0] rfl)
theorem ykSX2_heldSpots : yX2_heldSpots.cls ≠ "java/lang/invoke/MethodHandle" ∧ yX2_heldSpots.cls ≠ "java/lang/invoke/VarHandle" ∧ (parseMethodDescriptor yX2_heldSpots.desc).map (fun d => d.parameters.length) = some 0 := by decide +kernel
theorem ykVX2_heldSpots : yX2_heldSpots.cls = RX2 ∧ yX2_heldSpots.cls ≠ "java/lang/invoke/MethodHandle" ∧ yX2_heldSpots.cls ≠ "java/lang/invoke/VarHandle" ∧ (parseMethodDescriptor yX2_heldSpots.desc).map (fun d => d.parameters.length) = some 0 := ⟨rfl, ykSX2_heldSpots⟩
set_option maxRecDepth 20000 in
theorem iT_X2_heldSpots_X2 : ∀ w ∈ u_ws RX2 TX2 12, w ∈ wsX2_heldSpots := by decide +kernel
set_option maxHeartbeats 4000000 in
set_option maxRecDepth 100000 in
theorem kX2_heldSpots {l : Launch} {D : va_G} {cI cB : ClassId} (q : Nat → Nat) (T : Tb) (b : Int) (hs : ∀ k : Nat, k < 10 → rI (T (90 + k))) : Ct l yX2_heldSpots wsX2_heldSpots 0 0 D [(cI, .int), (cB, .byte)] [.ref (q 0)] (wTab cI q T b) (S := Unit) (fun _ => some (.int (iI (hsF T)))) (fun _ => True) (fun _ => wTab cI q T b) := by
  refine CtI.of (cc := cX2_heldSpots) (maxL := 3) (by decide +kernel) rfl (Nat.le_of_ble_eq_true rfl) ?_
  intro pg e s m args below meth c Q A hx hb hml hts hown hP hK hD hS ls hl kend
  have hown : s.vm.findClass RX2 = some m.cls := hown
  have hl : lv_has ls 3 [(0, .ref (q 0))] := hl
  refine x_iconst hx hb dX2_heldSpots_0 ?_
  refine lv_istore_n (lv' := [(1, .int (iI 0)), (0, .ref (q 0))]) hx hb dX2_heldSpots_1 rfl hl (by decide) rfl (fun ls hl => ?_)
  refine x_iconst hx hb dX2_heldSpots_2 ?_
  refine lv_istore_n (lv' := [(2, .int (iI 0)), (1, .int (iI 0)), (0, .ref (q 0))]) hx hb dX2_heldSpots_3 rfl hl (by decide) rfl (fun ls hl => ?_)
  have L4 : ∀ (k t : Nat) (sv : Int) (H : Heap) (locs : List Loc) (ls : Array Slot), t + k = 10 → (run (fun (k : Nat) (s : Int) => s + (if T (90 + k) = -1 then 0 else 1)) k t sv = hsF T) → va_P D vwCl (wTab cI q T b) H → va_D A (wTab cI q T b) → va_S A s.heap H locs → lv_has ls 3 [(0, .ref (q 0)), (1, .int (iI sv)), (2, .int (iI ((t : Nat) : Int)))] → W pg l e { frames := 0, cells := 0, slots := 0, locals := 0 } s m args below meth c H locs 0 0 Q (F0 m 4 ls []) := by
    intro k
    induction k with
    | zero =>
      intro t sv H locs ls hkt hr hP hD hS hl
      refine lv_iload_n hx hb dX2_heldSpots_4 rfl (lv_at hl 2 rfl) ?_
      refine x_bipush hx hb dX2_heldSpots_5 (by decide) ?_
      refine x_icmp_ge (tgt := 29) hx hb (by omega) (by decide) dX2_heldSpots_7 (by decide) (fun c_7 => ?_) (fun c_7 => ?_)
      · refine lv_iload_n hx hb dX2_heldSpots_29 rfl (lv_at hl 1 rfl) ?_
        exact kend () hP hS (an_i (hr)) trivial dX2_heldSpots_30
      · exfalso; omega
    | succ k ih =>
      intro t sv H locs ls hkt hr hP hD hS hl
      refine lv_iload_n hx hb dX2_heldSpots_4 rfl (lv_at hl 2 rfl) ?_
      refine x_bipush hx hb dX2_heldSpots_5 (by decide) ?_
      refine x_icmp_ge (tgt := 29) hx hb (by omega) (by decide) dX2_heldSpots_7 (by decide) (fun c_7 => ?_) (fun c_7 => ?_)
      · exfalso; omega
      · have hv := hs t (by omega)
        refine lv_aload_n hx hb dX2_heldSpots_10 rfl (lv_at hl 0 rfl) ?_
        refine va_get (D := D) (ci := 1) (v := .ref (q 7)) (C := RX2) (T := TX2) (N := 12) hx hb hts (iT_X2_heldSpots_X2) hown hK hP 0 rfl rfl 11 (by decide) (hts (.fieldLink RX2 37 "WordSupper$Table" "spots" "[I") (by decide +kernel)) (fun _ h9 => h9) rfl dX2_heldSpots_11 ?_
        refine lv_iload_n hx hb dX2_heldSpots_14 rfl (lv_at hl 2 rfl) ?_
        refine x_iald hx hb hK hP 7 0 rfl rfl t rfl (by omega) (by decide) (T (90 + t)) (gd_at _ (by omega)) dX2_heldSpots_15 ?_
        refine x_iconst hx hb dX2_heldSpots_16 ?_
        refine x_icmp_eq (tgt := 23) hx hb (by omega) (by decide) dX2_heldSpots_17 (by decide) (fun c_17 => ?_) (fun c_17 => ?_)
        · refine x_iinc hx hb 2 ((t + 1 : Nat) : Int) (by omega) [(2, .int (iI ((t + 1 : Nat) : Int))), (0, .ref (q 0)), (1, .int (iI sv))] dX2_heldSpots_23 hl rfl (by decide) rfl (fun ls hl => ?_)
          refine lv_goto (tgt := 4) hx hb dX2_heldSpots_26 (by decide) ?_
          exact ih (t + 1) sv _ _ _ (by omega) (run_step hr (by rw [if_pos (by omega)]; omega)) hP hD hS (lv_sub hl [1, 2, 0] rfl)
        · refine x_iinc hx hb 1 (sv + 1) rfl [(1, .int (iI (sv + 1))), (0, .ref (q 0)), (2, .int (iI ((t : Nat) : Int)))] dX2_heldSpots_20 hl rfl (by decide) rfl (fun ls hl => ?_)
          refine x_iinc hx hb 2 ((t + 1 : Nat) : Int) (by omega) [(2, .int (iI ((t + 1 : Nat) : Int))), (1, .int (iI (sv + 1))), (0, .ref (q 0))] dX2_heldSpots_23 hl rfl (by decide) rfl (fun ls hl => ?_)
          refine lv_goto (tgt := 4) hx hb dX2_heldSpots_26 (by decide) ?_
          exact ih (t + 1) (sv + 1) _ _ _ (by omega) (run_step hr (by rw [if_neg (by omega)])) hP hD hS (lv_sub hl [2, 1, 0] rfl)
  exact L4 (10) 0 0 _ _ _ (by omega) rfl hP hD hS (lv_sub hl [2, 1, 0] rfl)
theorem ykSX2_appetite : yX2_appetite.cls ≠ "java/lang/invoke/MethodHandle" ∧ yX2_appetite.cls ≠ "java/lang/invoke/VarHandle" ∧ (parseMethodDescriptor yX2_appetite.desc).map (fun d => d.parameters.length) = some 1 := by decide +kernel
theorem ykVX2_appetite : yX2_appetite.cls = RX2 ∧ yX2_appetite.cls ≠ "java/lang/invoke/MethodHandle" ∧ yX2_appetite.cls ≠ "java/lang/invoke/VarHandle" ∧ (parseMethodDescriptor yX2_appetite.desc).map (fun d => d.parameters.length) = some 1 := ⟨rfl, ykSX2_appetite⟩
set_option maxRecDepth 20000 in
theorem iT_X2_appetite_X2 : ∀ w ∈ u_ws RX2 TX2 12, w ∈ wsX2_appetite := by decide +kernel
set_option maxHeartbeats 4000000 in
set_option maxRecDepth 100000 in
theorem kX2_appetite {l : Launch} {D : va_G} {cI cB : ClassId} (q : Nat → Nat) (T : Tb) (b : Int) (p : Nat) (B : Int) (hI : Inv B T) (hp : (p : Int) < T 0) : Ct l yX2_appetite wsX2_appetite 2 47 D [(cI, .int), (cB, .byte)] [.ref (q 0), .int (iI ((p : Nat) : Int))] (wTab cI q T b) (S := Unit) (fun _ => some (.int (iI (apF T p)))) (fun _ => True) (fun _ => wTab cI q T b) := by
  refine CtI.of (cc := cX2_appetite) (maxL := 2) (by decide +kernel) rfl (Nat.le_of_ble_eq_true rfl) ?_
  intro pg e s m args below meth c Q A hx hb hml hts hown hP hK hD hS ls hl kend
  have hown : s.vm.findClass RX2 = some m.cls := hown
  have hl : lv_has ls 2 [(0, .ref (q 0)), (1, .int (iI ((p : Nat) : Int)))] := hl
  have hn := Inv_n hI
  have h1 := Inv_k hI hp
  have h2 := Inv_f hI hp
  have h3 := Inv_v hI
  have h4 := Inv_lf hI hp
  refine lv_aload_n hx hb dX2_appetite_0 rfl (lv_at hl 0 rfl) ?_
  refine va_get (D := D) (ci := 1) (v := .ref (q 2)) (C := RX2) (T := TX2) (N := 12) hx hb hts (iT_X2_appetite_X2) hown hK hP 0 rfl rfl 6 (by decide) (hts (.fieldLink RX2 22 "WordSupper$Table" "kind" "[I") (by decide +kernel)) (fun _ h9 => h9) rfl dX2_appetite_1 ?_
  refine lv_iload_n hx hb dX2_appetite_4 rfl (lv_at hl 1 rfl) ?_
  refine x_iald hx hb hK hP 2 0 rfl rfl p rfl (by omega) (by decide) (T (cx p 0)) (gd_at _ (by omega)) dX2_appetite_5 ?_
  refine lv_aload_n hx hb dX2_appetite_6 rfl (lv_at hl 0 rfl) ?_
  refine va_get (D := D) (ci := 1) (v := .ref (q 4)) (C := RX2) (T := TX2) (N := 12) hx hb hts (iT_X2_appetite_X2) hown hK hP 0 rfl rfl 8 (by decide) (hts (.fieldLink RX2 28 "WordSupper$Table" "fat" "[I") (by decide +kernel)) (fun _ h9 => h9) rfl dX2_appetite_7 ?_
  refine lv_iload_n hx hb dX2_appetite_10 rfl (lv_at hl 1 rfl) ?_
  refine x_iald hx hb hK hP 4 0 rfl rfl p rfl (by omega) (by decide) (T (cx p 2)) (gd_at _ (by omega)) dX2_appetite_11 ?_
  refine lv_aload_n hx hb dX2_appetite_12 rfl (lv_at hl 0 rfl) ?_
  refine va_get (D := D) (ci := 1) (v := .int (iI (T 3))) (C := RX2) (T := TX2) (N := 12) hx hb hts (iT_X2_appetite_X2) hown hK hP 0 rfl rfl 1 (by decide) (hts (.fieldLink RX2 9 "WordSupper$Table" "vinegar" "I") (by decide +kernel)) (fun _ h9 => h9) rfl dX2_appetite_13 ?_
  refine lv_aload_n hx hb dX2_appetite_16 rfl (lv_at hl 0 rfl) ?_
  refine lv_iload_n hx hb dX2_appetite_17 rfl (lv_at hl 1 rfl) ?_
  refine x_callV (As := [.int (iI ((p : Nat) : Int))]) (rest := [.int (iI (T 3)), .int (iI (T (cx p 2))), .int (iI (T (cx p 0)))]) ⟨hx, hb, hml, hown, hts⟩ (kX2_left q T b p (by omega)) (cwV 1 hts gX2_appetite_X2_left rfl rfl rfl ykVX2_left ⟨Nat.le_of_ble_eq_true rfl, Nat.le_of_ble_eq_true rfl⟩) hP hK hD hS 0 1 rfl rfl rfl [0, 1, 2, 3, 4, 5, 6, 7] rfl (by decide) (fun _ => rfl) (fun _ => wTab cI q T b) (fun _ => rfl) rfl hl.1 rfl (Nat.le_of_ble_eq_true rfl) dX2_appetite_18 ⟨Nat.le_of_ble_eq_true rfl, Nat.le_of_ble_eq_true rfl⟩ (fun _ H locs _ hP hD hS => ?_)
  refine W.eq (g2 := F0 m 21 ls [.int (iI (lfF T p)), .int (iI (T 3)), .int (iI (T (cx p 2))), .int (iI (T (cx p 0)))]) rfl ?_
  refine x_if_ne (tgt := 28) hx hb (by omega) dX2_appetite_21 (by decide) (fun c_21 => ?_) (fun c_21 => ?_)
  · refine x_iconst hx hb dX2_appetite_28 ?_
    refine x_callS (As := [.int (iI (T (cx p 0))), .int (iI (T (cx p 2))), .int (iI (T 3)), .int (iI 0)]) (rest := []) ⟨hx, hb, hml, hown, hts⟩ (kX0_hunger (T (cx p 0)) (T (cx p 2)) (T 3) 0 (by omega) (by omega) (by omega) (by omega)) (va_cwS 4 hts gX2_appetite_X0_hunger rfl rfl rfl ykSX0_hunger ⟨Nat.le_of_ble_eq_true rfl, Nat.le_of_ble_eq_true rfl⟩) hP hK hD hS [] rfl (by decide) (fun _ => rfl) (fun _ => wTab cI q T b) (fun _ => rfl) rfl hl.1 rfl (Nat.le_of_ble_eq_true rfl) dX2_appetite_29 ⟨Nat.le_of_ble_eq_true rfl, Nat.le_of_ble_eq_true rfl⟩ (fun _ H locs _ hP hD hS => ?_)
    refine W.eq (g2 := F0 m 32 ls [.int (iI (hgF (T (cx p 0)) (T (cx p 2)) (T 3) (0 ≠ 0)))]) rfl ?_
    exact kend () hP hS (an_i ((by unfold apF; exact hg_c (by omega)))) trivial dX2_appetite_32
  · refine x_iconst hx hb dX2_appetite_24 ?_
    refine lv_goto (tgt := 29) hx hb dX2_appetite_25 (by decide) ?_
    refine x_callS (As := [.int (iI (T (cx p 0))), .int (iI (T (cx p 2))), .int (iI (T 3)), .int (iI 1)]) (rest := []) ⟨hx, hb, hml, hown, hts⟩ (kX0_hunger (T (cx p 0)) (T (cx p 2)) (T 3) 1 (by omega) (by omega) (by omega) (by omega)) (va_cwS 4 hts gX2_appetite_X0_hunger rfl rfl rfl ykSX0_hunger ⟨Nat.le_of_ble_eq_true rfl, Nat.le_of_ble_eq_true rfl⟩) hP hK hD hS [] rfl (by decide) (fun _ => rfl) (fun _ => wTab cI q T b) (fun _ => rfl) rfl hl.1 rfl (Nat.le_of_ble_eq_true rfl) dX2_appetite_29 ⟨Nat.le_of_ble_eq_true rfl, Nat.le_of_ble_eq_true rfl⟩ (fun _ H locs _ hP hD hS => ?_)
    refine W.eq (g2 := F0 m 32 ls [.int (iI (hgF (T (cx p 0)) (T (cx p 2)) (T 3) (1 ≠ 0)))]) rfl ?_
    exact kend () hP hS (an_i ((by unfold apF; exact hg_c (by omega)))) trivial dX2_appetite_32
theorem ykSX2_trait : yX2_trait.cls ≠ "java/lang/invoke/MethodHandle" ∧ yX2_trait.cls ≠ "java/lang/invoke/VarHandle" ∧ (parseMethodDescriptor yX2_trait.desc).map (fun d => d.parameters.length) = some 2 := by decide +kernel
theorem ykVX2_trait : yX2_trait.cls = RX2 ∧ yX2_trait.cls ≠ "java/lang/invoke/MethodHandle" ∧ yX2_trait.cls ≠ "java/lang/invoke/VarHandle" ∧ (parseMethodDescriptor yX2_trait.desc).map (fun d => d.parameters.length) = some 2 := ⟨rfl, ykSX2_trait⟩
set_option maxRecDepth 20000 in
theorem iT_X2_trait_X2 : ∀ w ∈ u_ws RX2 TX2 12, w ∈ wsX2_trait := by decide +kernel
set_option maxHeartbeats 4000000 in
set_option maxRecDepth 100000 in
theorem kX2_trait {l : Launch} {D : va_G} {cI cB : ClassId} (q : Nat → Nat) (T : Tb) (b : Int) (p : Nat) (w : Int) (B : Int) (hI : Inv B T) (hp : (p : Int) < T 0) (hw : 0 ≤ w ∧ w ≤ 6) : Ct l yX2_trait wsX2_trait 3 68 D [(cI, .int), (cB, .byte)] [.ref (q 0), .int (iI ((p : Nat) : Int)), .int (iI w)] (wTab cI q T b) (S := Unit) (fun _ => some (.int (iI (trF T p w)))) (fun _ => True) (fun _ => wTab cI q T b) := by
  refine CtI.of (cc := cX2_trait) (maxL := 3) (by decide +kernel) rfl (Nat.le_of_ble_eq_true rfl) ?_
  intro pg e s m args below meth c Q A hx hb hml hts hown hP hK hD hS ls hl kend
  have hown : s.vm.findClass RX2 = some m.cls := hown
  have hl : lv_has ls 3 [(0, .ref (q 0)), (1, .int (iI ((p : Nat) : Int))), (2, .int (iI w))] := hl
  have hn := Inv_n hI
  refine lv_iload_n hx hb dX2_trait_0 rfl (lv_at hl 2 rfl) ?_
  rcases x_sw w 0 5 with c_1 | c_1
  · refine lv_tableOut (tgt := 80) hx hb dX2_trait_1 (by rw [iI_to (by omega)]; exact c_1) (by decide) ?_
    refine lv_aload_n hx hb dX2_trait_80 rfl (lv_at hl 0 rfl) ?_
    refine lv_iload_n hx hb dX2_trait_81 rfl (lv_at hl 1 rfl) ?_
    refine x_callV (As := [.int (iI ((p : Nat) : Int))]) (rest := []) ⟨hx, hb, hml, hown, hts⟩ (kX2_tastesOn q T b p (by omega) (fun t ht => Inv_pl hI hp ht)) (cwV 1 hts gX2_trait_X2_tastesOn rfl rfl rfl ykVX2_tastesOn ⟨Nat.le_of_ble_eq_true rfl, Nat.le_of_ble_eq_true rfl⟩) hP hK hD hS 0 1 rfl rfl rfl [0, 1, 2, 3, 4, 5, 6, 7] rfl (by decide) (fun _ => rfl) (fun _ => wTab cI q T b) (fun _ => rfl) rfl hl.1 rfl (Nat.le_of_ble_eq_true rfl) dX2_trait_82 ⟨Nat.le_of_ble_eq_true rfl, Nat.le_of_ble_eq_true rfl⟩ (fun _ H locs _ hP hD hS => ?_)
    refine W.eq (g2 := F0 m 85 ls [.int (iI (tsF T p))]) rfl ?_
    exact kend () hP hS (an_i ((by unfold trF; (repeat' split) <;> first | rfl | (exfalso; omega)))) trivial dX2_trait_85
  · obtain ⟨c_1a, c_1b⟩ := c_1
    by_cases e_1 : w = 0
    · refine lv_tableIn (off := 39) (tgt := 40) hx hb dX2_trait_1 (by rw [iI_to (by omega)]; omega) (by rw [iI_to (by omega)]; omega) (by rw [iI_to (by omega), e_1]; rfl) (by decide) ?_
      refine lv_aload_n hx hb dX2_trait_40 rfl (lv_at hl 0 rfl) ?_
      refine va_get (D := D) (ci := 1) (v := .ref (q 2)) (C := RX2) (T := TX2) (N := 12) hx hb hts (iT_X2_trait_X2) hown hK hP 0 rfl rfl 6 (by decide) (hts (.fieldLink RX2 22 "WordSupper$Table" "kind" "[I") (by decide +kernel)) (fun _ h9 => h9) rfl dX2_trait_41 ?_
      refine lv_iload_n hx hb dX2_trait_44 rfl (lv_at hl 1 rfl) ?_
      refine x_iald hx hb hK hP 2 0 rfl rfl p rfl (by omega) (by decide) (T (cx p 0)) (gd_at _ (by omega)) dX2_trait_45 ?_
      exact kend () hP hS (an_i ((by unfold trF; (repeat' split) <;> first | rfl | (exfalso; omega)))) trivial dX2_trait_46
    by_cases e_1 : w = 1
    · refine lv_tableIn (off := 46) (tgt := 47) hx hb dX2_trait_1 (by rw [iI_to (by omega)]; omega) (by rw [iI_to (by omega)]; omega) (by rw [iI_to (by omega), e_1]; rfl) (by decide) ?_
      refine lv_aload_n hx hb dX2_trait_47 rfl (lv_at hl 0 rfl) ?_
      refine va_get (D := D) (ci := 1) (v := .ref (q 3)) (C := RX2) (T := TX2) (N := 12) hx hb hts (iT_X2_trait_X2) hown hK hP 0 rfl rfl 7 (by decide) (hts (.fieldLink RX2 25 "WordSupper$Table" "loves" "[I") (by decide +kernel)) (fun _ h9 => h9) rfl dX2_trait_48 ?_
      refine lv_iload_n hx hb dX2_trait_51 rfl (lv_at hl 1 rfl) ?_
      refine x_iald hx hb hK hP 3 0 rfl rfl p rfl (by omega) (by decide) (T (cx p 1)) (gd_at _ (by omega)) dX2_trait_52 ?_
      exact kend () hP hS (an_i ((by unfold trF; (repeat' split) <;> first | rfl | (exfalso; omega)))) trivial dX2_trait_53
    by_cases e_1 : w = 2
    · refine lv_tableIn (off := 53) (tgt := 54) hx hb dX2_trait_1 (by rw [iI_to (by omega)]; omega) (by rw [iI_to (by omega)]; omega) (by rw [iI_to (by omega), e_1]; rfl) (by decide) ?_
      refine lv_aload_n hx hb dX2_trait_54 rfl (lv_at hl 0 rfl) ?_
      refine va_get (D := D) (ci := 1) (v := .ref (q 4)) (C := RX2) (T := TX2) (N := 12) hx hb hts (iT_X2_trait_X2) hown hK hP 0 rfl rfl 8 (by decide) (hts (.fieldLink RX2 28 "WordSupper$Table" "fat" "[I") (by decide +kernel)) (fun _ h9 => h9) rfl dX2_trait_55 ?_
      refine lv_iload_n hx hb dX2_trait_58 rfl (lv_at hl 1 rfl) ?_
      refine x_iald hx hb hK hP 4 0 rfl rfl p rfl (by omega) (by decide) (T (cx p 2)) (gd_at _ (by omega)) dX2_trait_59 ?_
      exact kend () hP hS (an_i ((by unfold trF; (repeat' split) <;> first | rfl | (exfalso; omega)))) trivial dX2_trait_60
    by_cases e_1 : w = 3
    · refine lv_tableIn (off := 60) (tgt := 61) hx hb dX2_trait_1 (by rw [iI_to (by omega)]; omega) (by rw [iI_to (by omega)]; omega) (by rw [iI_to (by omega), e_1]; rfl) (by decide) ?_
      refine lv_aload_n hx hb dX2_trait_61 rfl (lv_at hl 0 rfl) ?_
      refine va_get (D := D) (ci := 1) (v := .ref (q 5)) (C := RX2) (T := TX2) (N := 12) hx hb hts (iT_X2_trait_X2) hown hK hP 0 rfl rfl 9 (by decide) (hts (.fieldLink RX2 31 "WordSupper$Table" "ate" "[I") (by decide +kernel)) (fun _ h9 => h9) rfl dX2_trait_62 ?_
      refine lv_iload_n hx hb dX2_trait_65 rfl (lv_at hl 1 rfl) ?_
      refine x_iald hx hb hK hP 5 0 rfl rfl p rfl (by omega) (by decide) (T (cx p 3)) (gd_at _ (by omega)) dX2_trait_66 ?_
      exact kend () hP hS (an_i ((by unfold trF; (repeat' split) <;> first | rfl | (exfalso; omega)))) trivial dX2_trait_67
    by_cases e_1 : w = 4
    · refine lv_tableIn (off := 67) (tgt := 68) hx hb dX2_trait_1 (by rw [iI_to (by omega)]; omega) (by rw [iI_to (by omega)]; omega) (by rw [iI_to (by omega), e_1]; rfl) (by decide) ?_
      refine lv_aload_n hx hb dX2_trait_68 rfl (lv_at hl 0 rfl) ?_
      refine lv_iload_n hx hb dX2_trait_69 rfl (lv_at hl 1 rfl) ?_
      refine x_callV (As := [.int (iI ((p : Nat) : Int))]) (rest := []) ⟨hx, hb, hml, hown, hts⟩ (kX2_appetite q T b p B (by omega) (by omega)) (cwV 1 hts gX2_trait_X2_appetite rfl rfl rfl ykVX2_appetite ⟨Nat.le_of_ble_eq_true rfl, Nat.le_of_ble_eq_true rfl⟩) hP hK hD hS 0 1 rfl rfl rfl [0, 1, 2, 3, 4, 5, 6, 7] rfl (by decide) (fun _ => rfl) (fun _ => wTab cI q T b) (fun _ => rfl) rfl hl.1 rfl (Nat.le_of_ble_eq_true rfl) dX2_trait_70 ⟨Nat.le_of_ble_eq_true rfl, Nat.le_of_ble_eq_true rfl⟩ (fun _ H locs _ hP hD hS => ?_)
      refine W.eq (g2 := F0 m 73 ls [.int (iI (apF T p))]) rfl ?_
      exact kend () hP hS (an_i ((by unfold trF; (repeat' split) <;> first | rfl | (exfalso; omega)))) trivial dX2_trait_73
    have e_1 : w = 5 := by omega
    refine lv_tableIn (off := 73) (tgt := 74) hx hb dX2_trait_1 (by rw [iI_to (by omega)]; omega) (by rw [iI_to (by omega)]; omega) (by rw [iI_to (by omega), e_1]; rfl) (by decide) ?_
    refine lv_aload_n hx hb dX2_trait_74 rfl (lv_at hl 0 rfl) ?_
    refine lv_iload_n hx hb dX2_trait_75 rfl (lv_at hl 1 rfl) ?_
    refine x_callV (As := [.int (iI ((p : Nat) : Int))]) (rest := []) ⟨hx, hb, hml, hown, hts⟩ (kX2_left q T b p (by omega)) (cwV 1 hts gX2_trait_X2_left rfl rfl rfl ykVX2_left ⟨Nat.le_of_ble_eq_true rfl, Nat.le_of_ble_eq_true rfl⟩) hP hK hD hS 0 1 rfl rfl rfl [0, 1, 2, 3, 4, 5, 6, 7] rfl (by decide) (fun _ => rfl) (fun _ => wTab cI q T b) (fun _ => rfl) rfl hl.1 rfl (Nat.le_of_ble_eq_true rfl) dX2_trait_76 ⟨Nat.le_of_ble_eq_true rfl, Nat.le_of_ble_eq_true rfl⟩ (fun _ H locs _ hP hD hS => ?_)
    refine W.eq (g2 := F0 m 79 ls [.int (iI (lfF T p))]) rfl ?_
    exact kend () hP hS (an_i ((by unfold trF; (repeat' split) <;> first | rfl | (exfalso; omega)))) trivial dX2_trait_79
