theorem bindR_I {nn : Nat} {r : Rs} {f : Tb → Tk → Rs} (h1 : tkI nn r.2.2) (h2 : ∀ T p, tkI nn p → tkI nn (f T p).2.2) : tkI nn (bindR r f).2.2 := by
  unfold bindR
  split
  · exact h2 _ _ h1
  · exact h1
theorem pkF_I {TB : Nat → Int} {nn i : Nat} {m : Int} {T : Tb} {p : Tk} {cnd : Bool} (h : tkI nn p) : tkI nn (pkF TB nn cnd i m T p).2.2 := by
  unfold pkF
  split
  · split
    · exact (nx_I (nx_I h).1).1
    · exact (nx_I h).1
  · exact h
theorem plL_I {TB : Nat → Int} {nn n : Nat} : ∀ (k t : Nat) (T : Tb) (p : Tk), tkI nn p → tkI nn (plL TB nn n k t T p).2
  | 0, _, _, _, h => h
  | k + 1, t, T, p, h => by
    rw [plL]
    split
    · exact plL_I k (t + 1) _ _ (nx_I h).1
    · exact h
theorem plQ_I {TB : Nat → Int} {nn n : Nat} {T : Tb} {p : Tk} (h : tkI nn p) : tkI nn (plQ TB nn n T p).2.2 := by
  unfold plQ
  split
  · exact plL_I _ _ _ _ (nx_I h).1
  · exact (nx_I h).1
theorem plF_I {TB : Nat → Int} {nn n : Nat} {T : Tb} {p : Tk} (h : tkI nn p) : tkI nn (plF TB nn n T p).2.2 := by
  unfold plF
  split
  · exact plQ_I h
  · exact h
theorem spB_I {TB : Nat → Int} {nn n : Nat} {T : Tb} {p : Tk} (h : tkI nn p) : tkI nn (spB TB nn n T p).2.2 := by
  unfold spB
  exact bindR_I (pkF_I (nx_I h).1) (fun T1 p1 h1 => bindR_I (pkF_I h1) (fun T2 p2 h2 => plF_I h2))
theorem liF_I {TB : Nat → Int} {nn : Nat} {T : Tb} {p : Tk} (h : tkI nn p) : tkI nn (liF TB nn T p).2.2 := by
  unfold liF
  split
  · exact pkF_I (nx_I h).1
  · exact (nx_I h).1
theorem itF_I {TB : Nat → Int} {nn : Nat} {T : Tb} {p : Tk} (h : tkI nn p) : tkI nn (itF TB nn T p).2.2 := by
  unfold itF
  split
  · exact liF_I h
  · split
    · exact pkF_I h
    · split
      · exact h
      · exact spB_I h
-- how many there are
theorem bindR_0 {r : Rs} {f : Tb → Tk → Rs} {n : Int} (h1 : r.2.1 0 = n) (h2 : ∀ T p, T 0 = n → (f T p).2.1 0 = n) : (bindR r f).2.1 0 = n := by
  unfold bindR
  split
  · exact h2 _ _ h1
  · exact h1
theorem pkF_0 {TB : Nat → Int} {nn i : Nat} {m : Int} {T : Tb} {p : Tk} {cnd : Bool} (hi : i ≠ 0) : (pkF TB nn cnd i m T p).2.1 0 = T 0 := by
  unfold pkF
  split
  · split
    · exact up_n _ _ (Ne.symm hi)
    · rfl
  · rfl
theorem plL_0 {TB : Nat → Int} {nn n : Nat} : ∀ (k t : Nat) (T : Tb) (p : Tk), (plL TB nn n k t T p).1 0 = T 0
  | 0, _, _, _ => rfl
  | k + 1, t, T, p => by
    rw [plL]
    split
    · rw [plL_0 k (t + 1)]
      exact up_lo _ _ (by omega)
    · rfl
theorem plF_0 {TB : Nat → Int} {nn n : Nat} {T : Tb} {p : Tk} : (plF TB nn n T p).2.1 0 = T 0 := by
  unfold plF
  split
  · unfold plQ
    split
    · exact plL_0 _ _ _ _
    · rfl
  · rfl
theorem spB_0 {TB : Nat → Int} {nn n : Nat} {T : Tb} {p : Tk} : (spB TB nn n T p).2.1 0 = T 0 := by
  unfold spB
  exact bindR_0 (pkF_0 (by have := cx_ge n 1; omega)) (fun T1 p1 h1 => bindR_0 ((pkF_0 (by have := cx_ge n 2; omega)).trans h1) (fun T2 p2 h2 => plF_0.trans h2))
theorem itF_0 {TB : Nat → Int} {nn : Nat} {T : Tb} {p : Tk} (h : 0 ≤ T 0 ∧ T 0 ≤ 8) : 0 ≤ (itF TB nn T p).2.1 0 ∧ (itF TB nn T p).2.1 0 ≤ 8 := by
  unfold itF
  split
  · unfold liF
    split
    · rw [pkF_0 (by omega)]; exact h
    · exact h
  · split
    · rw [pkF_0 (by omega)]; exact h
    · split
      · exact h
      · rw [spB_0, st_0]
        omega
theorem ykSX3_tell : yX3_tell.cls ≠ "java/lang/invoke/MethodHandle" ∧ yX3_tell.cls ≠ "java/lang/invoke/VarHandle" ∧ (parseMethodDescriptor yX3_tell.desc).map (fun d => d.parameters.length) = some 1 := by decide +kernel
theorem ykVX3_tell : yX3_tell.cls = RX3 ∧ yX3_tell.cls ≠ "java/lang/invoke/MethodHandle" ∧ yX3_tell.cls ≠ "java/lang/invoke/VarHandle" ∧ (parseMethodDescriptor yX3_tell.desc).map (fun d => d.parameters.length) = some 1 := ⟨rfl, ykSX3_tell⟩
set_option maxRecDepth 20000 in
theorem iT_X3_tell_X3 : ∀ w ∈ u_ws RX3 TX3 6, w ∈ wsX3_tell := by decide +kernel
set_option maxHeartbeats 4000000 in
set_option maxRecDepth 100000 in
theorem kX3_tell {l : Launch} {D : va_G} {cI cB : ClassId} {kS vS : Nat → Nat} (g : Nat → Nat) (tn : Int) (TB : Nat → Int) (ct : Int) (cf : Int) (ce : Int) (cv : Int) (q : Nat → Nat) (T : Tb) (b : Int) (nn : Nat) (hn : tn = ((nn : Nat) : Int)) (hn9 : nn ≤ 120) (hTB : ∀ i : Nat, i < 120 → 0 ≤ TB i ∧ TB i ≤ 255) (hT8 : 0 ≤ T 0 ∧ T 0 ≤ 8) : CtS l yX3_tell wsX3_tell 7 151 D [(cI, .int), (cB, .byte)] kS vS [.ref (g 0), .ref (q 0)] (wTp cB g tn TB (jj ct cf ce cv) ++ (wTab cI q T b)) (S := Int × Int × Int × Int × Tb) (fun u => some (.int (iI ((txF TB nn 120 1 T (tnF TB nn 0)).1)))) (fun u => u.2.2.2.2 = (txF TB nn 120 1 T (tnF TB nn 0)).2) (fun u => wTp cB g tn TB (jj u.1 u.2.1 u.2.2.1 u.2.2.2.1) ++ (wTab cI q u.2.2.2.2 b)) := by
  refine CtSI.of (cc := cX3_tell) (maxL := 3) (by decide +kernel) rfl (Nat.le_of_ble_eq_true rfl) ?_
  intro pg e s m args below meth c Q A hx hb hml hts hown hP hK hD hS hX ls hl kend
  have hown : s.vm.findClass RX3 = some m.cls := hown
  have hl : lv_has ls 3 [(0, .ref (g 0)), (1, .ref (q 0))] := hl
  subst hn
  refine lv_aload_n hx hb dX3_tell_0 rfl (lv_at hl 0 rfl) ?_
  refine x_iconst hx hb dX3_tell_1 ?_
  refine x_putI (D := D) (ty := .int) (C := RX3) (T := TX3) (N := 6) hx hb 2 hts (iT_X3_tell_X3) tyX3 tyX3_ok nmX3 hown hK hP hD hS 0 rfl rfl 4 (by decide) (hts (.fieldLink RX3 19 "WordSupper$Tape" "end" "I") (by decide +kernel)) (fun _ h9 => h9) rfl (by decide +kernel) rfl rfl (Nat.le_of_ble_eq_true rfl) (wTp cB g ((nn : Nat) : Int) TB (jj ct cf 0 cv) ++ (wTab cI q T b)) (rfl) dX3_tell_2 (fun H locs hP hD hS => ?_)
  refine lv_aload_n hx hb dX3_tell_5 rfl (lv_at hl 0 rfl) ?_
  refine x_callV (As := []) (rest := []) ⟨hx, hb, hml, hown, hts⟩ (kX3_step g ((nn : Nat) : Int) TB ct cf 0 cv nn 0 rfl hn9 hTB rfl (Nat.zero_le nn)) (cwV 0 hts gX3_tell_X3_step rfl rfl rfl ykVX3_step ⟨Nat.le_of_ble_eq_true rfl, Nat.le_of_ble_eq_true rfl⟩) hP hK hD hS 0 2 rfl rfl rfl [0, 1] rfl (by decide) (fun _ => rfl) (fun u => wTp cB g ((nn : Nat) : Int) TB (jj u.1 u.2.1 u.2.2.1 u.2.2.2) ++ (wTab cI q T b)) (fun _ => rfl) rfl hl.1 rfl (Nat.le_of_ble_eq_true rfl) dX3_tell_6 ⟨Nat.le_of_ble_eq_true rfl, Nat.le_of_ble_eq_true rfl⟩ (fun u5 H locs hp6 hP hD hS => ?_)
  obtain ⟨a11, a22, a33, a44⟩ := u5
  replace hp6 : tyS a11 a22 a33 a44 (tnF TB nn 0) := hp6
  have hP : va_P D vwCl (wTp cB g ((nn : Nat) : Int) TB (jj a11 a22 a33 a44) ++ (wTab cI q T b)) H := hP
  have hD : va_D A (wTp cB g ((nn : Nat) : Int) TB (jj a11 a22 a33 a44) ++ (wTab cI q T b)) := hD
  refine W.eq (g2 := F0 m 9 ls []) rfl ?_
  obtain ⟨p0, hp0⟩ : ∃ z, z = tnF TB nn 0 := ⟨_, rfl⟩
  have hp6 : tyS a11 a22 a33 a44 p0 := by rw [hp0]; exact hp6
  obtain ⟨rfl, rfl, rfl, hv_p0⟩ := hp6
  have hi_p0 : tkI nn p0 := by rw [hp0]; exact (tnF_I (Nat.zero_le nn)).1
  refine x_iconst hx hb dX3_tell_9 ?_
  refine lv_istore_n (lv' := [(2, .int (iI 1)), (0, .ref (g 0)), (1, .ref (q 0))]) hx hb dX3_tell_10 rfl hl (by decide) rfl (fun ls hl => ?_)
  have L11 : ∀ (k t : Nat) (Tt : Tb) (px : Tk) (vx : Int) (H : Heap) (locs : List Loc) (ls : Array Slot), t + k = 120 → (txF TB nn k (((1 + t : Nat) : Nat) : Int) Tt px = txF TB nn 120 1 T (tnF TB nn 0)) → (tkI nn px) → (px.1 = 2 → vx = px.2.2.2) → (0 ≤ Tt 0 ∧ Tt 0 ≤ 8) → va_P D vwCl (wTp cB g ((nn : Nat) : Int) TB (jj px.1 ((px.2.1 : Nat) : Int) ((px.2.2.1 : Nat) : Int) vx) ++ (wTab cI q Tt b)) H → va_D A (wTp cB g ((nn : Nat) : Int) TB (jj px.1 ((px.2.1 : Nat) : Int) ((px.2.2.1 : Nat) : Int) vx) ++ (wTab cI q Tt b)) → va_S A s.heap H locs → lv_has ls 3 [(0, .ref (g 0)), (1, .ref (q 0)), (2, .int (iI ((1 + t : Nat) : Int)))] → W pg l e { frames := 7, cells := 0, slots := 0, locals := 151 } s m args below meth c H locs 0 0 Q (F0 m 11 ls []) := by
    intro k
    induction k with
    | zero =>
      intro t Tt px vx H locs ls hkt hr hi_px hv_px hT1 hP hD hS hl
      refine lv_iload_n hx hb dX3_tell_11 rfl (lv_at hl 2 rfl) ?_
      have hn9T := hT1
      refine x_bipush hx hb dX3_tell_12 (by decide) ?_
      refine x_icmp_gt (tgt := 66) hx hb (by omega) (by decide) dX3_tell_14 (by decide) (fun c_14 => ?_) (fun c_14 => ?_)
      · refine x_iconst hx hb dX3_tell_66 ?_
        refine lv_aload_n hx hb dX3_tell_67 rfl (lv_at hl 0 rfl) ?_
        refine va_get (D := D) (ci := 2) (v := .int (iI ((px.2.1 : Nat) : Int))) (C := RX3) (T := TX3) (N := 6) hx hb hts (iT_X3_tell_X3) hown hK hP 0 rfl rfl 3 (by decide) (hts (.fieldLink RX3 29 "WordSupper$Tape" "begin" "I") (by decide +kernel)) (fun _ h9 => h9) rfl dX3_tell_68 ?_
        refine x_isub hx hb dX3_tell_71 ?_
        exact kend (px.1, ((px.2.1 : Nat) : Int), ((px.2.2.1 : Nat) : Int), vx, Tt) hP hS (an_i (by rw [← hr]; rfl)) (by rw [← hr]; rfl) dX3_tell_72
      · exfalso; omega
    | succ k ih =>
      intro t Tt px vx H locs ls hkt hr hi_px hv_px hT1 hP hD hS hl
      refine lv_iload_n hx hb dX3_tell_11 rfl (lv_at hl 2 rfl) ?_
      have hn9T := hT1
      refine x_bipush hx hb dX3_tell_12 (by decide) ?_
      refine x_icmp_gt (tgt := 66) hx hb (by omega) (by decide) dX3_tell_14 (by decide) (fun c_14 => ?_) (fun c_14 => ?_)
      · exfalso; omega
      · refine lv_aload_n hx hb dX3_tell_17 rfl (lv_at hl 0 rfl) ?_
        refine lv_aload_n hx hb dX3_tell_18 rfl (lv_at hl 1 rfl) ?_
        refine x_callVS (As := [.ref (q 0)]) (rest := []) ⟨hx, hb, hml, hown, hts⟩ (kX3_isItem g ((nn : Nat) : Int) TB px.1 ((px.2.1 : Nat) : Int) ((px.2.2.1 : Nat) : Int) vx q Tt b nn px rfl hn9 hTB ⟨rfl, rfl, rfl, hv_px⟩ hi_px hT1) (cwV 1 hts gX3_tell_X3_isItem rfl rfl rfl ykVX3_isItem ⟨Nat.le_of_ble_eq_true rfl, Nat.le_of_ble_eq_true rfl⟩) hP hK hD hS hX 0 2 rfl rfl rfl [0, 1, 2, 3, 4, 5, 6, 7, 8, 9] rfl (by decide) (fun _ => rfl) (fun u => wTp cB g ((nn : Nat) : Int) TB (jj u.1 u.2.1 u.2.2.1 u.2.2.2.1) ++ (wTab cI q u.2.2.2.2 b)) (fun _ => rfl) rfl hl.1 rfl (Nat.le_of_ble_eq_true rfl) dX3_tell_19 ⟨Nat.le_of_ble_eq_true rfl, Nat.le_of_ble_eq_true rfl⟩ (fun u12 H locs hp13 hP hD hS => ?_)
        obtain ⟨a17, a28, a39, a410, T111⟩ := u12
        replace hp13 : rsP (itF TB nn Tt px) a17 a28 a39 a410 T111 := hp13
        have hP : va_P D vwCl (wTp cB g ((nn : Nat) : Int) TB (jj a17 a28 a39 a410) ++ (wTab cI q T111 b)) H := hP
        have hD : va_D A (wTp cB g ((nn : Nat) : Int) TB (jj a17 a28 a39 a410) ++ (wTab cI q T111 b)) := hD
        refine W.eq (g2 := F0 m 22 ls [.int (iI (b2 (decide ((itF TB nn Tt px).1 = true))))]) rfl ?_
        obtain ⟨pi, hpi⟩ : ∃ z, z = (itF TB nn Tt px).2.2 := ⟨_, rfl⟩
        have hTi : T111 = (itF TB nn Tt px).2.1 := hp13.1
        have hty : tyS a17 a28 a39 a410 pi := by rw [hpi]; exact hp13.2
        obtain ⟨rfl, rfl, rfl, hv_pi⟩ := hty
        have hi_pi : tkI nn pi := by rw [hpi]; exact itF_I hi_px
        have hT2 : 0 ≤ T111 0 ∧ T111 0 ≤ 8 := by rw [hTi]; exact itF_0 hT1
        refine x_ifb_ne (tgt := 32) hx hb dX3_tell_22 (by decide) (fun c_22 => ?_) (fun c_22 => ?_)
        · refine lv_aload_n hx hb dX3_tell_32 rfl (lv_at hl 0 rfl) ?_
          obtain ⟨z1, z2, z3, z4, z5, z6⟩ := id hi_pi
          refine va_get (D := D) (ci := 2) (v := .int (iI pi.1)) (C := RX3) (T := TX3) (N := 6) hx hb hts (iT_X3_tell_X3) hown hK hP 0 rfl rfl 2 (by decide) (hts (.fieldLink RX3 32 "WordSupper$Tape" "token" "I") (by decide +kernel)) (fun _ h9 => h9) rfl dX3_tell_33 ?_
          refine x_if_ne (tgt := 41) hx hb (by omega) dX3_tell_36 (by decide) (fun c_36 => ?_) (fun c_36 => ?_)
          · refine lv_aload_n hx hb dX3_tell_41 rfl (lv_at hl 0 rfl) ?_
            refine va_get (D := D) (ci := 2) (v := .int (iI pi.1)) (C := RX3) (T := TX3) (N := 6) hx hb hts (iT_X3_tell_X3) hown hK hP 0 rfl rfl 2 (by decide) (hts (.fieldLink RX3 32 "WordSupper$Tape" "token" "I") (by decide +kernel)) (fun _ h9 => h9) rfl dX3_tell_42 ?_
            refine x_iconst hx hb dX3_tell_45 ?_
            refine x_icmp_eq (tgt := 56) hx hb (by omega) (by decide) dX3_tell_46 (by decide) (fun c_46 => ?_) (fun c_46 => ?_)
            · refine lv_aload_n hx hb dX3_tell_56 rfl (lv_at hl 0 rfl) ?_
              refine x_callV (As := []) (rest := []) ⟨hx, hb, hml, hown, hts⟩ (kX3_step g ((nn : Nat) : Int) TB pi.1 ((pi.2.1 : Nat) : Int) ((pi.2.2.1 : Nat) : Int) a410 nn pi.2.2.1 rfl hn9 hTB rfl hi_pi.2.1) (cwV 0 hts gX3_tell_X3_step rfl rfl rfl ykVX3_step ⟨Nat.le_of_ble_eq_true rfl, Nat.le_of_ble_eq_true rfl⟩) hP hK hD hS 0 2 rfl rfl rfl [0, 1] rfl (by decide) (fun _ => rfl) (fun u => wTp cB g ((nn : Nat) : Int) TB (jj u.1 u.2.1 u.2.2.1 u.2.2.2) ++ (wTab cI q T111 b)) (fun _ => rfl) rfl hl.1 rfl (Nat.le_of_ble_eq_true rfl) dX3_tell_57 ⟨Nat.le_of_ble_eq_true rfl, Nat.le_of_ble_eq_true rfl⟩ (fun u18 H locs hp19 hP hD hS => ?_)
              obtain ⟨a114, a215, a316, a417⟩ := u18
              replace hp19 : tyS a114 a215 a316 a417 (tnF TB nn pi.2.2.1) := hp19
              have hP : va_P D vwCl (wTp cB g ((nn : Nat) : Int) TB (jj a114 a215 a316 a417) ++ (wTab cI q T111 b)) H := hP
              have hD : va_D A (wTp cB g ((nn : Nat) : Int) TB (jj a114 a215 a316 a417) ++ (wTab cI q T111 b)) := hD
              refine W.eq (g2 := F0 m 60 ls []) rfl ?_
              obtain ⟨p20, hp20⟩ : ∃ z, z = nx TB nn pi := ⟨_, rfl⟩
              have hp19 : tyS a114 a215 a316 a417 p20 := by rw [hp20]; exact hp19
              obtain ⟨rfl, rfl, rfl, hv_p20⟩ := hp19
              have hi_p20 : tkI nn p20 := by rw [hp20]; exact (nx_I hi_pi).1
              refine x_iinc hx hb 2 ((1 + (t + 1) : Nat) : Int) (by omega) [(2, .int (iI ((1 + (t + 1) : Nat) : Int))), (0, .ref (g 0)), (1, .ref (q 0))] dX3_tell_60 hl rfl (by decide) rfl (fun ls hl => ?_)
              refine lv_goto (tgt := 11) hx hb dX3_tell_63 (by decide) ?_
              exact ih (t + 1) T111 p20 a417 _ _ _ (by omega) (by rw [← hr, txF, if_pos c_22, if_neg (by rw [← hpi]; omega), if_pos (by rw [← hpi]; omega), hp20, hpi, ← hTi, show ((1 + (t + 1) : Nat) : Int) = ((1 + t : Nat) : Int) + 1 by omega]) hi_p20 hv_p20 hT2 hP hD hS (lv_sub hl [1, 2, 0] rfl)
            · refine x_iconst hx hb dX3_tell_49 ?_
              refine lv_aload_n hx hb dX3_tell_50 rfl (lv_at hl 0 rfl) ?_
              refine va_get (D := D) (ci := 2) (v := .int (iI ((pi.2.1 : Nat) : Int))) (C := RX3) (T := TX3) (N := 6) hx hb hts (iT_X3_tell_X3) hown hK hP 0 rfl rfl 3 (by decide) (hts (.fieldLink RX3 29 "WordSupper$Tape" "begin" "I") (by decide +kernel)) (fun _ h9 => h9) rfl dX3_tell_51 ?_
              refine x_isub hx hb dX3_tell_54 ?_
              exact kend (pi.1, ((pi.2.1 : Nat) : Int), ((pi.2.2.1 : Nat) : Int), a410, T111) hP hS (an_i (by rw [← hr, txF, if_pos c_22, if_neg (by rw [← hpi]; omega), if_neg (by rw [← hpi]; omega), ← hpi])) (by rw [← hr, txF, if_pos c_22, if_neg (by rw [← hpi]; omega), if_neg (by rw [← hpi]; omega), hTi]) dX3_tell_55
          · refine lv_iload_n hx hb dX3_tell_39 rfl (lv_at hl 2 rfl) ?_
            exact kend (pi.1, ((pi.2.1 : Nat) : Int), ((pi.2.2.1 : Nat) : Int), a410, T111) hP hS (an_i (by rw [← hr, txF, if_pos c_22, if_pos (by rw [← hpi]; omega)])) (by rw [← hr, txF, if_pos c_22, if_pos (by rw [← hpi]; omega), hTi]) dX3_tell_40
        · refine x_iconst hx hb dX3_tell_25 ?_
          refine lv_aload_n hx hb dX3_tell_26 rfl (lv_at hl 0 rfl) ?_
          refine va_get (D := D) (ci := 2) (v := .int (iI ((pi.2.1 : Nat) : Int))) (C := RX3) (T := TX3) (N := 6) hx hb hts (iT_X3_tell_X3) hown hK hP 0 rfl rfl 3 (by decide) (hts (.fieldLink RX3 29 "WordSupper$Tape" "begin" "I") (by decide +kernel)) (fun _ h9 => h9) rfl dX3_tell_27 ?_
          refine x_isub hx hb dX3_tell_30 ?_
          exact kend (pi.1, ((pi.2.1 : Nat) : Int), ((pi.2.2.1 : Nat) : Int), a410, T111) hP hS (an_i (by rw [← hr, txF, if_neg c_22, ← hpi])) (by rw [← hr, txF, if_neg c_22, hTi]) dX3_tell_31
  exact L11 120 0 T p0 a44 _ _ _ (by omega) (by rw [hp0]; rfl) hi_p0 hv_p0 hT8 hP hD hS (lv_sub hl [1, 2, 0] rfl)
