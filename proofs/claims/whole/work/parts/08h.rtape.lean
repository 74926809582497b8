def jk (a b c d e f g : Int) : Nat → Int := fun i => if i = 0 then a else if i = 1 then b else if i = 2 then c else if i = 3 then d else if i = 4 then e else if i = 5 then f else g
def byF (TB : Nat → Int) (nn i : Nat) : Int := if i < nn then TB i else -1
theorem by_c {TB : Nat → Int} {nn i : Nat} (hTB : ∀ i : Nat, i < 120 → 0 ≤ TB i ∧ TB i ≤ 255) (h : nn ≤ 120) : (i < nn ∧ byF TB nn i = TB i ∧ 0 ≤ TB i ∧ TB i ≤ 255) ∨ (nn ≤ i ∧ byF TB nn i = -1) := by
  unfold byF
  by_cases h1 : i < nn
  · rw [if_pos h1]; exact Or.inl ⟨h1, rfl, hTB i (by omega)⟩
  · rw [if_neg h1]; exact Or.inr ⟨by omega, rfl⟩
theorem by_t {TB : Nat → Int} {nn i : Nat} (h : i < nn) : byF TB nn i = TB i := if_pos h
def tyR (a b c d : Int) (p : Tk) : Prop := a = p.1 ∧ b = (p.2.1 : Int) ∧ c = (p.2.2.1 : Int) ∧ (p.1 = 2 → p.2.2.2 = min 1000 d ∧ 0 ≤ d ∧ d ≤ 99999)
theorem tr_of {a b c d v : Int} {p : Tk} (h : tyS a b c v p) (h2 : a = 2 → v = min 1000 d ∧ 0 ≤ d ∧ d ≤ 99999) : tyR a b c d p := by
  obtain ⟨h3, h4, h5, h6⟩ := h
  refine ⟨h3, h4, h5, fun q => ?_⟩
  rw [← h6 q]
  exact h2 (h3.trans q)
def rsR (r : Rs) (a b c d fa : Int) (T : Tb) : Prop := T = r.2.1 ∧ tyR a b c d r.2.2 ∧ (r.1 = false → fa = (r.2.2.2.1 : Int))
def okQ (ok : Bool) (r : Rs) (fa : Int) : Prop := (ok = true → r.1 = true) ∧ (ok = false → (r.1 = false ∨ r.2.2.1 = 2) ∧ fa = (r.2.2.2.1 : Int))
theorem b2_d (x : Bool) : b2 (decide (x = true)) = b2 x := by cases x <;> rfl
theorem wd_3 {TB : Nat → Int} {nn : Nat} {p : Tk} {x0 x1 x2 : Int} (hi : tkI nn p) : ((p.1 = 1 ∧ p.2.2.1 = p.2.1 + 3) ∧ ((byF TB nn (p.2.1 + 0) = x0 ∧ byF TB nn (p.2.1 + 0 + 1) = x1) ∧ byF TB nn (p.2.1 + 0 + 2) = x2)) ↔ wdB TB p [x0, x1, x2] = true := by
  obtain ⟨z1, z2, z3, z4, z5, z6⟩ := hi
  rw [wdB_i]
  constructor
  · rintro ⟨⟨h1, h2⟩, ⟨⟨a0, b0⟩, e0⟩⟩
    rw [by_t (by omega)] at a0 b0 e0
    refine ⟨⟨h1, h2⟩, fun i hi => ?_⟩
    have hi : i < 3 := hi
    rcases (show i = 0 ∨ i = 1 ∨ i = 2 by omega) with rfl | rfl | rfl
    · exact a0
    · exact b0
    · exact e0
  · rintro ⟨⟨h1, h2⟩, h3⟩
    have h2 : p.2.2.1 = p.2.1 + 3 := h2
    have y0 : byF TB nn (p.2.1 + 0) = x0 := by rw [by_t (by omega)]; exact h3 0 (Nat.le_of_ble_eq_true rfl)
    have y1 : byF TB nn (p.2.1 + 1) = x1 := by rw [by_t (by omega)]; exact h3 1 (Nat.le_of_ble_eq_true rfl)
    have y2 : byF TB nn (p.2.1 + 2) = x2 := by rw [by_t (by omega)]; exact h3 2 (Nat.le_of_ble_eq_true rfl)
    exact ⟨⟨h1, h2⟩, ⟨⟨y0, y1⟩, y2⟩⟩
theorem wd_4 {TB : Nat → Int} {nn : Nat} {p : Tk} {x0 x1 x2 x3 : Int} (hi : tkI nn p) : ((p.1 = 1 ∧ p.2.2.1 = p.2.1 + 4) ∧ ((byF TB nn (p.2.1 + 0) = x0 ∧ byF TB nn (p.2.1 + 0 + 1) = x1) ∧ byF TB nn (p.2.1 + 0 + 2) = x2) ∧ ((byF TB nn (p.2.1 + 1) = x1 ∧ byF TB nn (p.2.1 + 1 + 1) = x2) ∧ byF TB nn (p.2.1 + 1 + 2) = x3)) ↔ wdB TB p [x0, x1, x2, x3] = true := by
  obtain ⟨z1, z2, z3, z4, z5, z6⟩ := hi
  rw [wdB_i]
  constructor
  · rintro ⟨⟨h1, h2⟩, ⟨⟨a0, b0⟩, e0⟩, ⟨⟨a1, b1⟩, e1⟩⟩
    rw [by_t (by omega)] at a0 b0 e0
    rw [by_t (by omega)] at a1 b1 e1
    refine ⟨⟨h1, h2⟩, fun i hi => ?_⟩
    have hi : i < 4 := hi
    rcases (show i = 0 ∨ i = 1 ∨ i = 2 ∨ i = 3 by omega) with rfl | rfl | rfl | rfl
    · exact a0
    · exact b0
    · exact e0
    · exact e1
  · rintro ⟨⟨h1, h2⟩, h3⟩
    have h2 : p.2.2.1 = p.2.1 + 4 := h2
    have y0 : byF TB nn (p.2.1 + 0) = x0 := by rw [by_t (by omega)]; exact h3 0 (Nat.le_of_ble_eq_true rfl)
    have y1 : byF TB nn (p.2.1 + 1) = x1 := by rw [by_t (by omega)]; exact h3 1 (Nat.le_of_ble_eq_true rfl)
    have y2 : byF TB nn (p.2.1 + 2) = x2 := by rw [by_t (by omega)]; exact h3 2 (Nat.le_of_ble_eq_true rfl)
    have y3 : byF TB nn (p.2.1 + 3) = x3 := by rw [by_t (by omega)]; exact h3 3 (Nat.le_of_ble_eq_true rfl)
    exact ⟨⟨h1, h2⟩, ⟨⟨y0, y1⟩, y2⟩, ⟨⟨y1, y2⟩, y3⟩⟩
theorem wd_5 {TB : Nat → Int} {nn : Nat} {p : Tk} {x0 x1 x2 x3 x4 : Int} (hi : tkI nn p) : ((p.1 = 1 ∧ p.2.2.1 = p.2.1 + 5) ∧ ((byF TB nn (p.2.1 + 0) = x0 ∧ byF TB nn (p.2.1 + 0 + 1) = x1) ∧ byF TB nn (p.2.1 + 0 + 2) = x2) ∧ ((byF TB nn (p.2.1 + 2) = x2 ∧ byF TB nn (p.2.1 + 2 + 1) = x3) ∧ byF TB nn (p.2.1 + 2 + 2) = x4)) ↔ wdB TB p [x0, x1, x2, x3, x4] = true := by
  obtain ⟨z1, z2, z3, z4, z5, z6⟩ := hi
  rw [wdB_i]
  constructor
  · rintro ⟨⟨h1, h2⟩, ⟨⟨a0, b0⟩, e0⟩, ⟨⟨a2, b2⟩, e2⟩⟩
    rw [by_t (by omega)] at a0 b0 e0
    rw [by_t (by omega)] at a2 b2 e2
    refine ⟨⟨h1, h2⟩, fun i hi => ?_⟩
    have hi : i < 5 := hi
    rcases (show i = 0 ∨ i = 1 ∨ i = 2 ∨ i = 3 ∨ i = 4 by omega) with rfl | rfl | rfl | rfl | rfl
    · exact a0
    · exact b0
    · exact e0
    · exact b2
    · exact e2
  · rintro ⟨⟨h1, h2⟩, h3⟩
    have h2 : p.2.2.1 = p.2.1 + 5 := h2
    have y0 : byF TB nn (p.2.1 + 0) = x0 := by rw [by_t (by omega)]; exact h3 0 (Nat.le_of_ble_eq_true rfl)
    have y1 : byF TB nn (p.2.1 + 1) = x1 := by rw [by_t (by omega)]; exact h3 1 (Nat.le_of_ble_eq_true rfl)
    have y2 : byF TB nn (p.2.1 + 2) = x2 := by rw [by_t (by omega)]; exact h3 2 (Nat.le_of_ble_eq_true rfl)
    have y3 : byF TB nn (p.2.1 + 3) = x3 := by rw [by_t (by omega)]; exact h3 3 (Nat.le_of_ble_eq_true rfl)
    have y4 : byF TB nn (p.2.1 + 4) = x4 := by rw [by_t (by omega)]; exact h3 4 (Nat.le_of_ble_eq_true rfl)
    exact ⟨⟨h1, h2⟩, ⟨⟨y0, y1⟩, y2⟩, ⟨⟨y2, y3⟩, y4⟩⟩
theorem wd_6 {TB : Nat → Int} {nn : Nat} {p : Tk} {x0 x1 x2 x3 x4 x5 : Int} (hi : tkI nn p) : ((p.1 = 1 ∧ p.2.2.1 = p.2.1 + 6) ∧ ((byF TB nn (p.2.1 + 0) = x0 ∧ byF TB nn (p.2.1 + 0 + 1) = x1) ∧ byF TB nn (p.2.1 + 0 + 2) = x2) ∧ ((byF TB nn (p.2.1 + 3) = x3 ∧ byF TB nn (p.2.1 + 3 + 1) = x4) ∧ byF TB nn (p.2.1 + 3 + 2) = x5)) ↔ wdB TB p [x0, x1, x2, x3, x4, x5] = true := by
  obtain ⟨z1, z2, z3, z4, z5, z6⟩ := hi
  rw [wdB_i]
  constructor
  · rintro ⟨⟨h1, h2⟩, ⟨⟨a0, b0⟩, e0⟩, ⟨⟨a3, b3⟩, e3⟩⟩
    rw [by_t (by omega)] at a0 b0 e0
    rw [by_t (by omega)] at a3 b3 e3
    refine ⟨⟨h1, h2⟩, fun i hi => ?_⟩
    have hi : i < 6 := hi
    rcases (show i = 0 ∨ i = 1 ∨ i = 2 ∨ i = 3 ∨ i = 4 ∨ i = 5 by omega) with rfl | rfl | rfl | rfl | rfl | rfl
    · exact a0
    · exact b0
    · exact e0
    · exact a3
    · exact b3
    · exact e3
  · rintro ⟨⟨h1, h2⟩, h3⟩
    have h2 : p.2.2.1 = p.2.1 + 6 := h2
    have y0 : byF TB nn (p.2.1 + 0) = x0 := by rw [by_t (by omega)]; exact h3 0 (Nat.le_of_ble_eq_true rfl)
    have y1 : byF TB nn (p.2.1 + 1) = x1 := by rw [by_t (by omega)]; exact h3 1 (Nat.le_of_ble_eq_true rfl)
    have y2 : byF TB nn (p.2.1 + 2) = x2 := by rw [by_t (by omega)]; exact h3 2 (Nat.le_of_ble_eq_true rfl)
    have y3 : byF TB nn (p.2.1 + 3) = x3 := by rw [by_t (by omega)]; exact h3 3 (Nat.le_of_ble_eq_true rfl)
    have y4 : byF TB nn (p.2.1 + 4) = x4 := by rw [by_t (by omega)]; exact h3 4 (Nat.le_of_ble_eq_true rfl)
    have y5 : byF TB nn (p.2.1 + 5) = x5 := by rw [by_t (by omega)]; exact h3 5 (Nat.le_of_ble_eq_true rfl)
    exact ⟨⟨h1, h2⟩, ⟨⟨y0, y1⟩, y2⟩, ⟨⟨y3, y4⟩, y5⟩⟩
theorem wd_7 {TB : Nat → Int} {nn : Nat} {p : Tk} {x0 x1 x2 x3 x4 x5 x6 : Int} (hi : tkI nn p) : ((p.1 = 1 ∧ p.2.2.1 = p.2.1 + 7) ∧ ((byF TB nn (p.2.1 + 0) = x0 ∧ byF TB nn (p.2.1 + 0 + 1) = x1) ∧ byF TB nn (p.2.1 + 0 + 2) = x2) ∧ ((byF TB nn (p.2.1 + 3) = x3 ∧ byF TB nn (p.2.1 + 3 + 1) = x4) ∧ byF TB nn (p.2.1 + 3 + 2) = x5) ∧ ((byF TB nn (p.2.1 + 4) = x4 ∧ byF TB nn (p.2.1 + 4 + 1) = x5) ∧ byF TB nn (p.2.1 + 4 + 2) = x6)) ↔ wdB TB p [x0, x1, x2, x3, x4, x5, x6] = true := by
  obtain ⟨z1, z2, z3, z4, z5, z6⟩ := hi
  rw [wdB_i]
  constructor
  · rintro ⟨⟨h1, h2⟩, ⟨⟨a0, b0⟩, e0⟩, ⟨⟨a3, b3⟩, e3⟩, ⟨⟨a4, b4⟩, e4⟩⟩
    rw [by_t (by omega)] at a0 b0 e0
    rw [by_t (by omega)] at a3 b3 e3
    rw [by_t (by omega)] at a4 b4 e4
    refine ⟨⟨h1, h2⟩, fun i hi => ?_⟩
    have hi : i < 7 := hi
    rcases (show i = 0 ∨ i = 1 ∨ i = 2 ∨ i = 3 ∨ i = 4 ∨ i = 5 ∨ i = 6 by omega) with rfl | rfl | rfl | rfl | rfl | rfl | rfl
    · exact a0
    · exact b0
    · exact e0
    · exact a3
    · exact b3
    · exact e3
    · exact e4
  · rintro ⟨⟨h1, h2⟩, h3⟩
    have h2 : p.2.2.1 = p.2.1 + 7 := h2
    have y0 : byF TB nn (p.2.1 + 0) = x0 := by rw [by_t (by omega)]; exact h3 0 (Nat.le_of_ble_eq_true rfl)
    have y1 : byF TB nn (p.2.1 + 1) = x1 := by rw [by_t (by omega)]; exact h3 1 (Nat.le_of_ble_eq_true rfl)
    have y2 : byF TB nn (p.2.1 + 2) = x2 := by rw [by_t (by omega)]; exact h3 2 (Nat.le_of_ble_eq_true rfl)
    have y3 : byF TB nn (p.2.1 + 3) = x3 := by rw [by_t (by omega)]; exact h3 3 (Nat.le_of_ble_eq_true rfl)
    have y4 : byF TB nn (p.2.1 + 4) = x4 := by rw [by_t (by omega)]; exact h3 4 (Nat.le_of_ble_eq_true rfl)
    have y5 : byF TB nn (p.2.1 + 5) = x5 := by rw [by_t (by omega)]; exact h3 5 (Nat.le_of_ble_eq_true rfl)
    have y6 : byF TB nn (p.2.1 + 6) = x6 := by rw [by_t (by omega)]; exact h3 6 (Nat.le_of_ble_eq_true rfl)
    exact ⟨⟨h1, h2⟩, ⟨⟨y0, y1⟩, y2⟩, ⟨⟨y3, y4⟩, y5⟩, ⟨⟨y4, y5⟩, y6⟩⟩
theorem ykSX5_isLetter : yX5_isLetter.cls ≠ "java/lang/invoke/MethodHandle" ∧ yX5_isLetter.cls ≠ "java/lang/invoke/VarHandle" ∧ (parseMethodDescriptor yX5_isLetter.desc).map (fun d => d.parameters.length) = some 1 := by decide +kernel
theorem ykVX5_isLetter : yX5_isLetter.cls = RX5 ∧ yX5_isLetter.cls ≠ "java/lang/invoke/MethodHandle" ∧ yX5_isLetter.cls ≠ "java/lang/invoke/VarHandle" ∧ (parseMethodDescriptor yX5_isLetter.desc).map (fun d => d.parameters.length) = some 1 := ⟨rfl, ykSX5_isLetter⟩
set_option maxHeartbeats 4000000 in
set_option maxRecDepth 100000 in
theorem kX5_isLetter {l : Launch} {D : va_G} {cI cB : ClassId} (b0 : Int) (hb0 : rI b0) : Ct l yX5_isLetter wsX5_isLetter 0 0 D [(cI, .int), (cB, .byte)] [.int (iI b0)] (([] : va_W)) (S := Unit) (fun _ => some (.int (iI (b2 (decide (97 ≤ b0 ∧ b0 ≤ 122)))))) (fun _ => True) (fun _ => ([] : va_W)) := by
  refine CtZ.of (cc := cX5_isLetter) (maxL := 1) (by decide +kernel) rfl (Nat.le_of_ble_eq_true rfl) ?_
  intro pg e s m args below meth c Q A hx hb hml hts hown hP hK hD hS ls hl kend
  have hown : s.vm.findClass RX5 = some m.cls := hown
  have hl : lv_has ls 1 [(0, .int (iI b0))] := hl
  refine lv_iload_n hx hb dX5_isLetter_0 rfl (lv_at hl 0 rfl) ?_
  refine x_bipush hx hb dX5_isLetter_1 (by decide) ?_
  refine x_icmp_lt (tgt := 16) hx hb (by omega) (by decide) dX5_isLetter_3 (by decide) (fun c_3 => ?_) (fun c_3 => ?_)
  · refine x_iconst hx hb dX5_isLetter_16 ?_
    exact kend () hP hS (an_i (b2_f (by omega)).symm) trivial (by decide) dX5_isLetter_17
  · refine lv_iload_n hx hb dX5_isLetter_6 rfl (lv_at hl 0 rfl) ?_
    refine x_bipush hx hb dX5_isLetter_7 (by decide) ?_
    refine x_icmp_gt (tgt := 16) hx hb (by omega) (by decide) dX5_isLetter_9 (by decide) (fun c_9 => ?_) (fun c_9 => ?_)
    · refine x_iconst hx hb dX5_isLetter_16 ?_
      exact kend () hP hS (an_i (b2_f (by omega)).symm) trivial (by decide) dX5_isLetter_17
    · refine x_iconst hx hb dX5_isLetter_12 ?_
      refine lv_goto (tgt := 17) hx hb dX5_isLetter_13 (by decide) ?_
      exact kend () hP hS (an_i (b2_t (by omega)).symm) trivial (by decide) dX5_isLetter_17
theorem ykSX5_isDigit : yX5_isDigit.cls ≠ "java/lang/invoke/MethodHandle" ∧ yX5_isDigit.cls ≠ "java/lang/invoke/VarHandle" ∧ (parseMethodDescriptor yX5_isDigit.desc).map (fun d => d.parameters.length) = some 1 := by decide +kernel
theorem ykVX5_isDigit : yX5_isDigit.cls = RX5 ∧ yX5_isDigit.cls ≠ "java/lang/invoke/MethodHandle" ∧ yX5_isDigit.cls ≠ "java/lang/invoke/VarHandle" ∧ (parseMethodDescriptor yX5_isDigit.desc).map (fun d => d.parameters.length) = some 1 := ⟨rfl, ykSX5_isDigit⟩
set_option maxHeartbeats 4000000 in
set_option maxRecDepth 100000 in
theorem kX5_isDigit {l : Launch} {D : va_G} {cI cB : ClassId} (b0 : Int) (hb0 : rI b0) : Ct l yX5_isDigit wsX5_isDigit 0 0 D [(cI, .int), (cB, .byte)] [.int (iI b0)] (([] : va_W)) (S := Unit) (fun _ => some (.int (iI (b2 (decide (48 ≤ b0 ∧ b0 ≤ 57)))))) (fun _ => True) (fun _ => ([] : va_W)) := by
  refine CtZ.of (cc := cX5_isDigit) (maxL := 1) (by decide +kernel) rfl (Nat.le_of_ble_eq_true rfl) ?_
  intro pg e s m args below meth c Q A hx hb hml hts hown hP hK hD hS ls hl kend
  have hown : s.vm.findClass RX5 = some m.cls := hown
  have hl : lv_has ls 1 [(0, .int (iI b0))] := hl
  refine lv_iload_n hx hb dX5_isDigit_0 rfl (lv_at hl 0 rfl) ?_
  refine x_bipush hx hb dX5_isDigit_1 (by decide) ?_
  refine x_icmp_lt (tgt := 16) hx hb (by omega) (by decide) dX5_isDigit_3 (by decide) (fun c_3 => ?_) (fun c_3 => ?_)
  · refine x_iconst hx hb dX5_isDigit_16 ?_
    exact kend () hP hS (an_i (b2_f (by omega)).symm) trivial (by decide) dX5_isDigit_17
  · refine lv_iload_n hx hb dX5_isDigit_6 rfl (lv_at hl 0 rfl) ?_
    refine x_bipush hx hb dX5_isDigit_7 (by decide) ?_
    refine x_icmp_gt (tgt := 16) hx hb (by omega) (by decide) dX5_isDigit_9 (by decide) (fun c_9 => ?_) (fun c_9 => ?_)
    · refine x_iconst hx hb dX5_isDigit_16 ?_
      exact kend () hP hS (an_i (b2_f (by omega)).symm) trivial (by decide) dX5_isDigit_17
    · refine x_iconst hx hb dX5_isDigit_12 ?_
      refine lv_goto (tgt := 17) hx hb dX5_isDigit_13 (by decide) ?_
      exact kend () hP hS (an_i (b2_t (by omega)).symm) trivial (by decide) dX5_isDigit_17
theorem ykSX5_byteAt : yX5_byteAt.cls ≠ "java/lang/invoke/MethodHandle" ∧ yX5_byteAt.cls ≠ "java/lang/invoke/VarHandle" ∧ (parseMethodDescriptor yX5_byteAt.desc).map (fun d => d.parameters.length) = some 1 := by decide +kernel
theorem ykVX5_byteAt : yX5_byteAt.cls = RX5 ∧ yX5_byteAt.cls ≠ "java/lang/invoke/MethodHandle" ∧ yX5_byteAt.cls ≠ "java/lang/invoke/VarHandle" ∧ (parseMethodDescriptor yX5_byteAt.desc).map (fun d => d.parameters.length) = some 1 := ⟨rfl, ykSX5_byteAt⟩
set_option maxRecDepth 20000 in
theorem iT_X5_byteAt_X5 : ∀ w ∈ u_ws RX5 TX5 18, w ∈ wsX5_byteAt := by decide +kernel
set_option maxHeartbeats 4000000 in
set_option maxRecDepth 100000 in
theorem kX5_byteAt {l : Launch} {D : va_G} {cI cB : ClassId} (r : Nat → Nat) (ik : Int) (tn : Int) (b0 : Int) (b1 : Int) (ct : Int) (cf : Int) (ce : Int) (cv : Int) (fa : Int) (TB : Nat → Int) (i : Nat) (nn : Nat) (hn : tn = ((nn : Nat) : Int)) (hn9 : nn ≤ 120) (hi9 : i ≤ 1000) : Ct l yX5_byteAt wsX5_byteAt 0 0 D [(cI, .int), (cB, .byte)] [.ref (r 0), .int (iI ((i : Nat) : Int))] (wRo r ik tn (jk b0 b1 ct cf ce cv fa) ++ (wA cI (r 6) 120 TB)) (S := Unit) (fun _ => some (.int (iI (byF TB nn i)))) (fun _ => True) (fun _ => wRo r ik tn (jk b0 b1 ct cf ce cv fa) ++ (wA cI (r 6) 120 TB)) := by
  refine CtI.of (cc := cX5_byteAt) (maxL := 2) (by decide +kernel) rfl (Nat.le_of_ble_eq_true rfl) ?_
  intro pg e s m args below meth c Q A hx hb hml hts hown hP hK hD hS ls hl kend
  have hown : s.vm.findClass RX5 = some m.cls := hown
  have hl : lv_has ls 2 [(0, .ref (r 0)), (1, .int (iI ((i : Nat) : Int)))] := hl
  subst hn
  refine lv_iload_n hx hb dX5_byteAt_0 rfl (lv_at hl 1 rfl) ?_
  refine lv_aload_n hx hb dX5_byteAt_1 rfl (lv_at hl 0 rfl) ?_
  refine va_get (D := D) (ci := 4) (v := .int (iI ((nn : Nat) : Int))) (C := RX5) (T := TX5) (N := 18) hx hb hts (iT_X5_byteAt_X5) hown hK hP 0 rfl rfl 7 (by decide) (hts (.fieldLink RX5 199 "WordSupperModel" "taped" "I") (by decide +kernel)) (fun _ h9 => h9) rfl dX5_byteAt_2 ?_
  refine x_icmp_ge (tgt := 17) hx hb (by omega) (by omega) dX5_byteAt_5 (by decide) (fun c_5 => ?_) (fun c_5 => ?_)
  · refine x_iconst hx hb dX5_byteAt_17 ?_
    exact kend () hP hS (an_i ((if_neg (by omega)).symm)) trivial dX5_byteAt_18
  · refine lv_aload_n hx hb dX5_byteAt_8 rfl (lv_at hl 0 rfl) ?_
    refine va_get (D := D) (ci := 4) (v := .ref (r 6)) (C := RX5) (T := TX5) (N := 18) hx hb hts (iT_X5_byteAt_X5) hown hK hP 0 rfl rfl 6 (by decide) (hts (.fieldLink RX5 25 "WordSupperModel" "tape" "[I") (by decide +kernel)) (fun _ h9 => h9) rfl dX5_byteAt_9 ?_
    refine lv_iload_n hx hb dX5_byteAt_12 rfl (lv_at hl 1 rfl) ?_
    refine x_iald hx hb hK hP 1 0 rfl rfl i rfl (by omega) (by decide) (TB i) (gd_at _ (by omega)) dX5_byteAt_13 ?_
    refine lv_goto (tgt := 18) hx hb dX5_byteAt_14 (by decide) ?_
    exact kend () hP hS (an_i ((if_pos (by omega)).symm)) trivial dX5_byteAt_18
theorem ykSX5_nextToken : yX5_nextToken.cls ≠ "java/lang/invoke/MethodHandle" ∧ yX5_nextToken.cls ≠ "java/lang/invoke/VarHandle" ∧ (parseMethodDescriptor yX5_nextToken.desc).map (fun d => d.parameters.length) = some 0 := by decide +kernel
theorem ykVX5_nextToken : yX5_nextToken.cls = RX5 ∧ yX5_nextToken.cls ≠ "java/lang/invoke/MethodHandle" ∧ yX5_nextToken.cls ≠ "java/lang/invoke/VarHandle" ∧ (parseMethodDescriptor yX5_nextToken.desc).map (fun d => d.parameters.length) = some 0 := ⟨rfl, ykSX5_nextToken⟩
set_option maxRecDepth 20000 in
theorem iT_X5_nextToken_X5 : ∀ w ∈ u_ws RX5 TX5 18, w ∈ wsX5_nextToken := by decide +kernel
set_option maxHeartbeats 4000000 in
set_option maxRecDepth 100000 in
theorem kX5_nextToken {l : Launch} {D : va_G} {cI cB : ClassId} (r : Nat → Nat) (ik : Int) (tn : Int) (b0 : Int) (b1 : Int) (ct : Int) (cf : Int) (ce : Int) (cv : Int) (fa : Int) (TB : Nat → Int) (nn : Nat) (e0 : Nat) (hn : tn = ((nn : Nat) : Int)) (hn9 : nn ≤ 120) (hTB : ∀ i : Nat, i < 120 → 0 ≤ TB i ∧ TB i ≤ 255) (he : ce = ((e0 : Nat) : Int)) (hen : e0 ≤ nn) : Ct l yX5_nextToken wsX5_nextToken 1 21 D [(cI, .int), (cB, .byte)] [.ref (r 0)] (wRo r ik tn (jk b0 b1 ct cf ce cv fa) ++ (wA cI (r 6) 120 TB)) (S := Int × Int × Int × Int) (fun u => none) (fun u => tyR u.1 u.2.1 u.2.2.1 u.2.2.2 (tnF TB nn e0)) (fun u => wRo r ik tn (jk b0 b1 u.1 u.2.1 u.2.2.1 u.2.2.2 fa) ++ (wA cI (r 6) 120 TB)) := by
  refine CtV.of (cc := cX5_nextToken) (maxL := 2) (by decide +kernel) rfl (Nat.le_of_ble_eq_true rfl) ?_
  intro pg e s m args below meth c Q A hx hb hml hts hown hP hK hD hS ls hl kend
  have hown : s.vm.findClass RX5 = some m.cls := hown
  have hl : lv_has ls 2 [(0, .ref (r 0))] := hl
  subst hn
  subst he
  refine lv_aload_n hx hb dX5_nextToken_0 rfl (lv_at hl 0 rfl) ?_
  refine lv_aload_n hx hb dX5_nextToken_1 rfl (lv_at hl 0 rfl) ?_
  refine va_get (D := D) (ci := 4) (v := .int (iI ((e0 : Nat) : Int))) (C := RX5) (T := TX5) (N := 18) hx hb hts (iT_X5_nextToken_X5) hown hK hP 0 rfl rfl 15 (by decide) (hts (.fieldLink RX5 202 "WordSupperModel" "to" "I") (by decide +kernel)) (fun _ h9 => h9) rfl dX5_nextToken_2 ?_
  refine x_putI (D := D) (ty := .int) (C := RX5) (T := TX5) (N := 18) hx hb 4 hts (iT_X5_nextToken_X5) tyX5 tyX5_ok nmX5 hown hK hP hD hS 0 rfl rfl 14 (by decide) (hts (.fieldLink RX5 205 "WordSupperModel" "from" "I") (by decide +kernel)) (fun _ h9 => h9) rfl (by decide +kernel) rfl rfl (Nat.le_of_ble_eq_true rfl) (wRo r ik ((nn : Nat) : Int) (jk b0 b1 ct ((e0 : Nat) : Int) ((e0 : Nat) : Int) cv fa) ++ (wA cI (r 6) 120 TB)) (rfl) dX5_nextToken_5 (fun H locs hP hD hS => ?_)
  have L8 : ∀ (k t : Nat) (iv : Nat) (H : Heap) (locs : List Loc) (ls : Array Slot), t + k = 120 → (skF TB nn k iv = skF TB nn 120 e0) → (nn ≤ iv + k) → (iv ≤ nn) → va_P D vwCl (wRo r ik ((nn : Nat) : Int) (jk b0 b1 ct ((iv : Nat) : Int) ((e0 : Nat) : Int) cv fa) ++ (wA cI (r 6) 120 TB)) H → va_D A (wRo r ik ((nn : Nat) : Int) (jk b0 b1 ct ((iv : Nat) : Int) ((e0 : Nat) : Int) cv fa) ++ (wA cI (r 6) 120 TB)) → va_S A s.heap H locs → lv_has ls 2 [(0, .ref (r 0))] → W pg l e { frames := 1, cells := 0, slots := 0, locals := 21 } s m args below meth c H locs 0 0 Q (F0 m 8 ls []) := by
    intro k
    induction k with
    | zero =>
      intro t iv H locs ls hkt hk1 hk2 hk3 hP hD hS hl
      refine lv_aload_n hx hb dX5_nextToken_8 rfl (lv_at hl 0 rfl) ?_
      refine lv_aload_n hx hb dX5_nextToken_9 rfl (lv_at hl 0 rfl) ?_
      refine va_get (D := D) (ci := 4) (v := .int (iI ((iv : Nat) : Int))) (C := RX5) (T := TX5) (N := 18) hx hb hts (iT_X5_nextToken_X5) hown hK hP 0 rfl rfl 14 (by decide) (hts (.fieldLink RX5 205 "WordSupperModel" "from" "I") (by decide +kernel)) (fun _ h9 => h9) rfl dX5_nextToken_10 ?_
      have hb1 := by_c (i := iv) hTB hn9
      refine x_callV (As := [.int (iI ((iv : Nat) : Int))]) (rest := []) ⟨hx, hb, hml, hown, hts⟩ (kX5_byteAt r ik ((nn : Nat) : Int) b0 b1 ct ((iv : Nat) : Int) ((e0 : Nat) : Int) cv fa TB iv nn rfl hn9 (by omega)) (cwV 1 hts gX5_nextToken_X5_byteAt rfl rfl rfl ykVX5_byteAt ⟨Nat.le_of_ble_eq_true rfl, Nat.le_of_ble_eq_true rfl⟩) hP hK hD hS 0 4 rfl rfl rfl [0, 1] rfl (by decide) (fun _ => rfl) (fun _ => wRo r ik ((nn : Nat) : Int) (jk b0 b1 ct ((iv : Nat) : Int) ((e0 : Nat) : Int) cv fa) ++ (wA cI (r 6) 120 TB)) (fun _ => rfl) rfl hl.1 rfl (Nat.le_of_ble_eq_true rfl) dX5_nextToken_13 ⟨Nat.le_of_ble_eq_true rfl, Nat.le_of_ble_eq_true rfl⟩ (fun _ H locs _ hP hD hS => ?_)
      refine W.eq (g2 := F0 m 16 ls [.int (iI (byF TB nn iv))]) rfl ?_
      refine x_bipush hx hb dX5_nextToken_16 (by decide) ?_
      refine x_icmp_ne (tgt := 34) hx hb (by omega) (by decide) dX5_nextToken_18 (by decide) (fun c_18 => ?_) (fun c_18 => ?_)
      · have e_f : skF TB nn 120 e0 = iv := hk1.symm
        refine lv_aload_n hx hb dX5_nextToken_34 rfl (lv_at hl 0 rfl) ?_
        refine lv_aload_n hx hb dX5_nextToken_35 rfl (lv_at hl 0 rfl) ?_
        refine va_get (D := D) (ci := 4) (v := .int (iI ((iv : Nat) : Int))) (C := RX5) (T := TX5) (N := 18) hx hb hts (iT_X5_nextToken_X5) hown hK hP 0 rfl rfl 14 (by decide) (hts (.fieldLink RX5 205 "WordSupperModel" "from" "I") (by decide +kernel)) (fun _ h9 => h9) rfl dX5_nextToken_36 ?_
        refine x_putI (D := D) (ty := .int) (C := RX5) (T := TX5) (N := 18) hx hb 4 hts (iT_X5_nextToken_X5) tyX5 tyX5_ok nmX5 hown hK hP hD hS 0 rfl rfl 15 (by decide) (hts (.fieldLink RX5 202 "WordSupperModel" "to" "I") (by decide +kernel)) (fun _ h9 => h9) rfl (by decide +kernel) rfl rfl (Nat.le_of_ble_eq_true rfl) (wRo r ik ((nn : Nat) : Int) (jk b0 b1 ct ((iv : Nat) : Int) ((iv : Nat) : Int) cv fa) ++ (wA cI (r 6) 120 TB)) (rfl) dX5_nextToken_39 (fun H locs hP hD hS => ?_)
        refine lv_aload_n hx hb dX5_nextToken_42 rfl (lv_at hl 0 rfl) ?_
        refine lv_aload_n hx hb dX5_nextToken_43 rfl (lv_at hl 0 rfl) ?_
        refine va_get (D := D) (ci := 4) (v := .int (iI ((iv : Nat) : Int))) (C := RX5) (T := TX5) (N := 18) hx hb hts (iT_X5_nextToken_X5) hown hK hP 0 rfl rfl 14 (by decide) (hts (.fieldLink RX5 205 "WordSupperModel" "from" "I") (by decide +kernel)) (fun _ h9 => h9) rfl dX5_nextToken_44 ?_
        have hb2 := by_c (i := iv) hTB hn9
        refine x_callV (As := [.int (iI ((iv : Nat) : Int))]) (rest := []) ⟨hx, hb, hml, hown, hts⟩ (kX5_byteAt r ik ((nn : Nat) : Int) b0 b1 ct ((iv : Nat) : Int) ((iv : Nat) : Int) cv fa TB iv nn rfl hn9 (by omega)) (cwV 1 hts gX5_nextToken_X5_byteAt rfl rfl rfl ykVX5_byteAt ⟨Nat.le_of_ble_eq_true rfl, Nat.le_of_ble_eq_true rfl⟩) hP hK hD hS 0 4 rfl rfl rfl [0, 1] rfl (by decide) (fun _ => rfl) (fun _ => wRo r ik ((nn : Nat) : Int) (jk b0 b1 ct ((iv : Nat) : Int) ((iv : Nat) : Int) cv fa) ++ (wA cI (r 6) 120 TB)) (fun _ => rfl) rfl hl.1 rfl (Nat.le_of_ble_eq_true rfl) dX5_nextToken_47 ⟨Nat.le_of_ble_eq_true rfl, Nat.le_of_ble_eq_true rfl⟩ (fun _ H locs _ hP hD hS => ?_)
        refine W.eq (g2 := F0 m 50 ls [.int (iI (byF TB nn iv))]) rfl ?_
        refine lv_istore_n (lv' := [(1, .int (iI (byF TB nn iv))), (0, .ref (r 0))]) hx hb dX5_nextToken_50 rfl hl (by decide) rfl (fun ls hl => ?_)
        refine lv_aload_n hx hb dX5_nextToken_51 rfl (lv_at hl 1 rfl) ?_
        refine lv_iload_n hx hb dX5_nextToken_52 rfl (lv_at hl 0 rfl) ?_
        refine x_if_ge (tgt := 60) hx hb (by omega) dX5_nextToken_53 (by decide) (fun c_53 => ?_) (fun c_53 => ?_)
        · refine lv_iload_n hx hb dX5_nextToken_60 rfl (lv_at hl 0 rfl) ?_
          refine x_callS (As := [.int (iI (byF TB nn iv))]) (rest := [.ref (r 0)]) ⟨hx, hb, hml, hown, hts⟩ (kX5_isLetter (byF TB nn iv) (by omega)) (va_cwS 1 hts gX5_nextToken_X5_isLetter rfl rfl rfl ykSX5_isLetter ⟨Nat.le_of_ble_eq_true rfl, Nat.le_of_ble_eq_true rfl⟩) hP hK hD hS [] rfl (by decide) (fun _ => rfl) (fun _ => wRo r ik ((nn : Nat) : Int) (jk b0 b1 ct ((iv : Nat) : Int) ((iv : Nat) : Int) cv fa) ++ (wA cI (r 6) 120 TB)) (fun _ => rfl) rfl hl.1 rfl (Nat.le_of_ble_eq_true rfl) dX5_nextToken_61 ⟨Nat.le_of_ble_eq_true rfl, Nat.le_of_ble_eq_true rfl⟩ (fun _ H locs _ hP hD hS => ?_)
          refine W.eq (g2 := F0 m 64 ls [.int (iI (b2 (decide (97 ≤ (byF TB nn iv) ∧ (byF TB nn iv) ≤ 122)))), .ref (r 0)]) rfl ?_
          refine x_ifb_eq (tgt := 71) hx hb dX5_nextToken_64 (by decide) (fun c_64 => ?_) (fun c_64 => ?_)
          · refine lv_iload_n hx hb dX5_nextToken_71 rfl (lv_at hl 0 rfl) ?_
            refine x_callS (As := [.int (iI (byF TB nn iv))]) (rest := [.ref (r 0)]) ⟨hx, hb, hml, hown, hts⟩ (kX5_isDigit (byF TB nn iv) (by omega)) (va_cwS 1 hts gX5_nextToken_X5_isDigit rfl rfl rfl ykSX5_isDigit ⟨Nat.le_of_ble_eq_true rfl, Nat.le_of_ble_eq_true rfl⟩) hP hK hD hS [] rfl (by decide) (fun _ => rfl) (fun _ => wRo r ik ((nn : Nat) : Int) (jk b0 b1 ct ((iv : Nat) : Int) ((iv : Nat) : Int) cv fa) ++ (wA cI (r 6) 120 TB)) (fun _ => rfl) rfl hl.1 rfl (Nat.le_of_ble_eq_true rfl) dX5_nextToken_72 ⟨Nat.le_of_ble_eq_true rfl, Nat.le_of_ble_eq_true rfl⟩ (fun _ H locs _ hP hD hS => ?_)
            refine W.eq (g2 := F0 m 75 ls [.int (iI (b2 (decide (48 ≤ (byF TB nn iv) ∧ (byF TB nn iv) ≤ 57)))), .ref (r 0)]) rfl ?_
            refine x_ifb_eq (tgt := 82) hx hb dX5_nextToken_75 (by decide) (fun c_75 => ?_) (fun c_75 => ?_)
            · refine lv_iload_n hx hb dX5_nextToken_82 rfl (lv_at hl 0 rfl) ?_
              refine x_bipush hx hb dX5_nextToken_83 (by decide) ?_
              refine x_icmp_ne (tgt := 92) hx hb (by omega) (by decide) dX5_nextToken_85 (by decide) (fun c_85 => ?_) (fun c_85 => ?_)
              · refine x_iconst hx hb dX5_nextToken_92 ?_
                refine x_putI (D := D) (ty := .int) (C := RX5) (T := TX5) (N := 18) hx hb 4 hts (iT_X5_nextToken_X5) tyX5 tyX5_ok nmX5 hown hK hP hD hS 0 rfl rfl 13 (by decide) (hts (.fieldLink RX5 217 "WordSupperModel" "token" "I") (by decide +kernel)) (fun _ h9 => h9) rfl (by decide +kernel) rfl rfl (Nat.le_of_ble_eq_true rfl) (wRo r ik ((nn : Nat) : Int) (jk b0 b1 4 ((iv : Nat) : Int) ((iv : Nat) : Int) cv fa) ++ (wA cI (r 6) 120 TB)) (rfl) dX5_nextToken_93 (fun H locs hP hD hS => ?_)
                refine lv_aload_n hx hb dX5_nextToken_96 rfl (lv_at hl 1 rfl) ?_
                refine x_iconst hx hb dX5_nextToken_97 ?_
                refine x_putI (D := D) (ty := .int) (C := RX5) (T := TX5) (N := 18) hx hb 4 hts (iT_X5_nextToken_X5) tyX5 tyX5_ok nmX5 hown hK hP hD hS 0 rfl rfl 16 (by decide) (hts (.fieldLink RX5 220 "WordSupperModel" "value" "I") (by decide +kernel)) (fun _ h9 => h9) rfl (by decide +kernel) rfl rfl (Nat.le_of_ble_eq_true rfl) (wRo r ik ((nn : Nat) : Int) (jk b0 b1 4 ((iv : Nat) : Int) ((iv : Nat) : Int) 0 fa) ++ (wA cI (r 6) 120 TB)) (rfl) dX5_nextToken_98 (fun H locs hP hD hS => ?_)
                refine lv_aload_n hx hb dX5_nextToken_101 rfl (lv_at hl 1 rfl) ?_
                refine va_get (D := D) (ci := 4) (v := .int (iI 4)) (C := RX5) (T := TX5) (N := 18) hx hb hts (iT_X5_nextToken_X5) hown hK hP 0 rfl rfl 13 (by decide) (hts (.fieldLink RX5 217 "WordSupperModel" "token" "I") (by decide +kernel)) (fun _ h9 => h9) rfl dX5_nextToken_102 ?_
                refine x_iconst hx hb dX5_nextToken_105 ?_
                refine x_icmp_ne (tgt := 136) hx hb (by decide) (by decide) dX5_nextToken_106 (by decide) (fun c_106 => ?_) (fun c_106 => ?_)
                · refine lv_aload_n hx hb dX5_nextToken_136 rfl (lv_at hl 1 rfl) ?_
                  refine va_get (D := D) (ci := 4) (v := .int (iI 4)) (C := RX5) (T := TX5) (N := 18) hx hb hts (iT_X5_nextToken_X5) hown hK hP 0 rfl rfl 13 (by decide) (hts (.fieldLink RX5 217 "WordSupperModel" "token" "I") (by decide +kernel)) (fun _ h9 => h9) rfl dX5_nextToken_137 ?_
                  refine x_iconst hx hb dX5_nextToken_140 ?_
                  refine x_icmp_ne (tgt := 211) hx hb (by decide) (by decide) dX5_nextToken_141 (by decide) (fun c_141 => ?_) (fun c_141 => ?_)
                  · refine lv_aload_n hx hb dX5_nextToken_211 rfl (lv_at hl 1 rfl) ?_
                    refine lv_dup hx hb dX5_nextToken_212 rfl ?_
                    refine va_get (D := D) (ci := 4) (v := .int (iI ((iv : Nat) : Int))) (C := RX5) (T := TX5) (N := 18) hx hb hts (iT_X5_nextToken_X5) hown hK hP 0 rfl rfl 15 (by decide) (hts (.fieldLink RX5 202 "WordSupperModel" "to" "I") (by decide +kernel)) (fun _ h9 => h9) rfl dX5_nextToken_213 ?_
                    refine lv_aload_n hx hb dX5_nextToken_216 rfl (lv_at hl 1 rfl) ?_
                    refine va_get (D := D) (ci := 4) (v := .int (iI 4)) (C := RX5) (T := TX5) (N := 18) hx hb hts (iT_X5_nextToken_X5) hown hK hP 0 rfl rfl 13 (by decide) (hts (.fieldLink RX5 217 "WordSupperModel" "token" "I") (by decide +kernel)) (fun _ h9 => h9) rfl dX5_nextToken_217 ?_
                    refine x_iconst hx hb dX5_nextToken_220 ?_
                    refine x_icmp_le (tgt := 228) hx hb (by decide) (by decide) dX5_nextToken_221 (by decide) (fun c_221 => ?_) (fun c_221 => ?_)
                    · exact absurd c_221 (by decide)
                    · refine x_iconst hx hb dX5_nextToken_224 ?_
                      refine lv_goto (tgt := 229) hx hb dX5_nextToken_225 (by decide) ?_
                      refine x_iadd hx hb dX5_nextToken_229 ?_
                      refine x_topi ((iv + 1 : Nat) : Int) (by omega) ?_
                      refine x_putI (D := D) (ty := .int) (C := RX5) (T := TX5) (N := 18) hx hb 4 hts (iT_X5_nextToken_X5) tyX5 tyX5_ok nmX5 hown hK hP hD hS 0 rfl rfl 15 (by decide) (hts (.fieldLink RX5 202 "WordSupperModel" "to" "I") (by decide +kernel)) (fun _ h9 => h9) rfl (by decide +kernel) rfl rfl (Nat.le_of_ble_eq_true rfl) (wRo r ik ((nn : Nat) : Int) (jk b0 b1 4 ((iv : Nat) : Int) ((iv + 1 : Nat) : Int) 0 fa) ++ (wA cI (r 6) 120 TB)) (rfl) dX5_nextToken_230 (fun H locs hP hD hS => ?_)
                      exact kend (4, ((iv : Nat) : Int), ((iv + 1 : Nat) : Int), 0) hP hS rfl (tr_of (ty_4 (d := 0) e_f (by omega) (by omega) (by omega) (by omega)) (fun q9 => by omega)) dX5_nextToken_233
                  · exact absurd c_141 (by decide)
                · exact absurd c_106 (by decide)
              · refine x_iconst hx hb dX5_nextToken_88 ?_
                refine lv_goto (tgt := 93) hx hb dX5_nextToken_89 (by decide) ?_
                refine x_putI (D := D) (ty := .int) (C := RX5) (T := TX5) (N := 18) hx hb 4 hts (iT_X5_nextToken_X5) tyX5 tyX5_ok nmX5 hown hK hP hD hS 0 rfl rfl 13 (by decide) (hts (.fieldLink RX5 217 "WordSupperModel" "token" "I") (by decide +kernel)) (fun _ h9 => h9) rfl (by decide +kernel) rfl rfl (Nat.le_of_ble_eq_true rfl) (wRo r ik ((nn : Nat) : Int) (jk b0 b1 3 ((iv : Nat) : Int) ((iv : Nat) : Int) cv fa) ++ (wA cI (r 6) 120 TB)) (rfl) dX5_nextToken_93 (fun H locs hP hD hS => ?_)
                refine lv_aload_n hx hb dX5_nextToken_96 rfl (lv_at hl 1 rfl) ?_
                refine x_iconst hx hb dX5_nextToken_97 ?_
                refine x_putI (D := D) (ty := .int) (C := RX5) (T := TX5) (N := 18) hx hb 4 hts (iT_X5_nextToken_X5) tyX5 tyX5_ok nmX5 hown hK hP hD hS 0 rfl rfl 16 (by decide) (hts (.fieldLink RX5 220 "WordSupperModel" "value" "I") (by decide +kernel)) (fun _ h9 => h9) rfl (by decide +kernel) rfl rfl (Nat.le_of_ble_eq_true rfl) (wRo r ik ((nn : Nat) : Int) (jk b0 b1 3 ((iv : Nat) : Int) ((iv : Nat) : Int) 0 fa) ++ (wA cI (r 6) 120 TB)) (rfl) dX5_nextToken_98 (fun H locs hP hD hS => ?_)
                refine lv_aload_n hx hb dX5_nextToken_101 rfl (lv_at hl 1 rfl) ?_
                refine va_get (D := D) (ci := 4) (v := .int (iI 3)) (C := RX5) (T := TX5) (N := 18) hx hb hts (iT_X5_nextToken_X5) hown hK hP 0 rfl rfl 13 (by decide) (hts (.fieldLink RX5 217 "WordSupperModel" "token" "I") (by decide +kernel)) (fun _ h9 => h9) rfl dX5_nextToken_102 ?_
                refine x_iconst hx hb dX5_nextToken_105 ?_
                refine x_icmp_ne (tgt := 136) hx hb (by decide) (by decide) dX5_nextToken_106 (by decide) (fun c_106 => ?_) (fun c_106 => ?_)
                · refine lv_aload_n hx hb dX5_nextToken_136 rfl (lv_at hl 1 rfl) ?_
                  refine va_get (D := D) (ci := 4) (v := .int (iI 3)) (C := RX5) (T := TX5) (N := 18) hx hb hts (iT_X5_nextToken_X5) hown hK hP 0 rfl rfl 13 (by decide) (hts (.fieldLink RX5 217 "WordSupperModel" "token" "I") (by decide +kernel)) (fun _ h9 => h9) rfl dX5_nextToken_137 ?_
                  refine x_iconst hx hb dX5_nextToken_140 ?_
                  refine x_icmp_ne (tgt := 211) hx hb (by decide) (by decide) dX5_nextToken_141 (by decide) (fun c_141 => ?_) (fun c_141 => ?_)
                  · refine lv_aload_n hx hb dX5_nextToken_211 rfl (lv_at hl 1 rfl) ?_
                    refine lv_dup hx hb dX5_nextToken_212 rfl ?_
                    refine va_get (D := D) (ci := 4) (v := .int (iI ((iv : Nat) : Int))) (C := RX5) (T := TX5) (N := 18) hx hb hts (iT_X5_nextToken_X5) hown hK hP 0 rfl rfl 15 (by decide) (hts (.fieldLink RX5 202 "WordSupperModel" "to" "I") (by decide +kernel)) (fun _ h9 => h9) rfl dX5_nextToken_213 ?_
                    refine lv_aload_n hx hb dX5_nextToken_216 rfl (lv_at hl 1 rfl) ?_
                    refine va_get (D := D) (ci := 4) (v := .int (iI 3)) (C := RX5) (T := TX5) (N := 18) hx hb hts (iT_X5_nextToken_X5) hown hK hP 0 rfl rfl 13 (by decide) (hts (.fieldLink RX5 217 "WordSupperModel" "token" "I") (by decide +kernel)) (fun _ h9 => h9) rfl dX5_nextToken_217 ?_
                    refine x_iconst hx hb dX5_nextToken_220 ?_
                    refine x_icmp_le (tgt := 228) hx hb (by decide) (by decide) dX5_nextToken_221 (by decide) (fun c_221 => ?_) (fun c_221 => ?_)
                    · exact absurd c_221 (by decide)
                    · refine x_iconst hx hb dX5_nextToken_224 ?_
                      refine lv_goto (tgt := 229) hx hb dX5_nextToken_225 (by decide) ?_
                      refine x_iadd hx hb dX5_nextToken_229 ?_
                      refine x_topi ((iv + 1 : Nat) : Int) (by omega) ?_
                      refine x_putI (D := D) (ty := .int) (C := RX5) (T := TX5) (N := 18) hx hb 4 hts (iT_X5_nextToken_X5) tyX5 tyX5_ok nmX5 hown hK hP hD hS 0 rfl rfl 15 (by decide) (hts (.fieldLink RX5 202 "WordSupperModel" "to" "I") (by decide +kernel)) (fun _ h9 => h9) rfl (by decide +kernel) rfl rfl (Nat.le_of_ble_eq_true rfl) (wRo r ik ((nn : Nat) : Int) (jk b0 b1 3 ((iv : Nat) : Int) ((iv + 1 : Nat) : Int) 0 fa) ++ (wA cI (r 6) 120 TB)) (rfl) dX5_nextToken_230 (fun H locs hP hD hS => ?_)
                      exact kend (3, ((iv : Nat) : Int), ((iv + 1 : Nat) : Int), 0) hP hS rfl (tr_of (ty_3 (d := 0) e_f (by omega) (by omega) (by omega) (by omega)) (fun q9 => by omega)) dX5_nextToken_233
                  · exact absurd c_141 (by decide)
                · exact absurd c_106 (by decide)
            · refine x_iconst hx hb dX5_nextToken_78 ?_
              refine lv_goto (tgt := 93) hx hb dX5_nextToken_79 (by decide) ?_
              refine x_putI (D := D) (ty := .int) (C := RX5) (T := TX5) (N := 18) hx hb 4 hts (iT_X5_nextToken_X5) tyX5 tyX5_ok nmX5 hown hK hP hD hS 0 rfl rfl 13 (by decide) (hts (.fieldLink RX5 217 "WordSupperModel" "token" "I") (by decide +kernel)) (fun _ h9 => h9) rfl (by decide +kernel) rfl rfl (Nat.le_of_ble_eq_true rfl) (wRo r ik ((nn : Nat) : Int) (jk b0 b1 2 ((iv : Nat) : Int) ((iv : Nat) : Int) cv fa) ++ (wA cI (r 6) 120 TB)) (rfl) dX5_nextToken_93 (fun H locs hP hD hS => ?_)
              refine lv_aload_n hx hb dX5_nextToken_96 rfl (lv_at hl 1 rfl) ?_
              refine x_iconst hx hb dX5_nextToken_97 ?_
              refine x_putI (D := D) (ty := .int) (C := RX5) (T := TX5) (N := 18) hx hb 4 hts (iT_X5_nextToken_X5) tyX5 tyX5_ok nmX5 hown hK hP hD hS 0 rfl rfl 16 (by decide) (hts (.fieldLink RX5 220 "WordSupperModel" "value" "I") (by decide +kernel)) (fun _ h9 => h9) rfl (by decide +kernel) rfl rfl (Nat.le_of_ble_eq_true rfl) (wRo r ik ((nn : Nat) : Int) (jk b0 b1 2 ((iv : Nat) : Int) ((iv : Nat) : Int) 0 fa) ++ (wA cI (r 6) 120 TB)) (rfl) dX5_nextToken_98 (fun H locs hP hD hS => ?_)
              refine lv_aload_n hx hb dX5_nextToken_101 rfl (lv_at hl 1 rfl) ?_
              refine va_get (D := D) (ci := 4) (v := .int (iI 2)) (C := RX5) (T := TX5) (N := 18) hx hb hts (iT_X5_nextToken_X5) hown hK hP 0 rfl rfl 13 (by decide) (hts (.fieldLink RX5 217 "WordSupperModel" "token" "I") (by decide +kernel)) (fun _ h9 => h9) rfl dX5_nextToken_102 ?_
              refine x_iconst hx hb dX5_nextToken_105 ?_
              refine x_icmp_ne (tgt := 136) hx hb (by decide) (by decide) dX5_nextToken_106 (by decide) (fun c_106 => ?_) (fun c_106 => ?_)
              · have L136 : ∀ (k4 t4 : Nat) (ev : Nat) (rv : Int) (H : Heap) (locs : List Loc) (ls : Array Slot), t4 + k4 = 120 → (dgF TB nn k4 ev (min 1000 rv) = dgF TB nn 120 iv 0) → (nn ≤ ev + k4) → (ev ≤ nn) → (0 ≤ rv ∧ rv ≤ 99999) → va_P D vwCl (wRo r ik ((nn : Nat) : Int) (jk b0 b1 2 ((iv : Nat) : Int) ((ev : Nat) : Int) rv fa) ++ (wA cI (r 6) 120 TB)) H → va_D A (wRo r ik ((nn : Nat) : Int) (jk b0 b1 2 ((iv : Nat) : Int) ((ev : Nat) : Int) rv fa) ++ (wA cI (r 6) 120 TB)) → va_S A s.heap H locs → lv_has ls 2 [(0, .ref (r 0))] → W pg l e { frames := 1, cells := 0, slots := 0, locals := 21 } s m args below meth c H locs 0 0 Q (F0 m 136 ls []) := by
                  intro k4
                  induction k4 with
                  | zero =>
                    intro t4 ev rv H locs ls hk4t hd1 hd2 hd3 hd4 hP hD hS hl
                    refine lv_aload_n hx hb dX5_nextToken_136 rfl (lv_at hl 0 rfl) ?_
                    refine va_get (D := D) (ci := 4) (v := .int (iI 2)) (C := RX5) (T := TX5) (N := 18) hx hb hts (iT_X5_nextToken_X5) hown hK hP 0 rfl rfl 13 (by decide) (hts (.fieldLink RX5 217 "WordSupperModel" "token" "I") (by decide +kernel)) (fun _ h9 => h9) rfl dX5_nextToken_137 ?_
                    refine x_iconst hx hb dX5_nextToken_140 ?_
                    refine x_icmp_ne (tgt := 211) hx hb (by decide) (by decide) dX5_nextToken_141 (by decide) (fun c_141 => ?_) (fun c_141 => ?_)
                    · exact absurd c_141 (by decide)
                    · refine lv_aload_n hx hb dX5_nextToken_144 rfl (lv_at hl 0 rfl) ?_
                      refine lv_aload_n hx hb dX5_nextToken_145 rfl (lv_at hl 0 rfl) ?_
                      refine va_get (D := D) (ci := 4) (v := .int (iI ((ev : Nat) : Int))) (C := RX5) (T := TX5) (N := 18) hx hb hts (iT_X5_nextToken_X5) hown hK hP 0 rfl rfl 15 (by decide) (hts (.fieldLink RX5 202 "WordSupperModel" "to" "I") (by decide +kernel)) (fun _ h9 => h9) rfl dX5_nextToken_146 ?_
                      have hb4 := by_c (i := ev) hTB hn9
                      refine x_callV (As := [.int (iI ((ev : Nat) : Int))]) (rest := []) ⟨hx, hb, hml, hown, hts⟩ (kX5_byteAt r ik ((nn : Nat) : Int) b0 b1 2 ((iv : Nat) : Int) ((ev : Nat) : Int) rv fa TB ev nn rfl hn9 (by omega)) (cwV 1 hts gX5_nextToken_X5_byteAt rfl rfl rfl ykVX5_byteAt ⟨Nat.le_of_ble_eq_true rfl, Nat.le_of_ble_eq_true rfl⟩) hP hK hD hS 0 4 rfl rfl rfl [0, 1] rfl (by decide) (fun _ => rfl) (fun _ => wRo r ik ((nn : Nat) : Int) (jk b0 b1 2 ((iv : Nat) : Int) ((ev : Nat) : Int) rv fa) ++ (wA cI (r 6) 120 TB)) (fun _ => rfl) rfl hl.1 rfl (Nat.le_of_ble_eq_true rfl) dX5_nextToken_149 ⟨Nat.le_of_ble_eq_true rfl, Nat.le_of_ble_eq_true rfl⟩ (fun _ H locs _ hP hD hS => ?_)
                      refine W.eq (g2 := F0 m 152 ls [.int (iI (byF TB nn ev))]) rfl ?_
                      refine x_callS (As := [.int (iI (byF TB nn ev))]) (rest := []) ⟨hx, hb, hml, hown, hts⟩ (kX5_isDigit (byF TB nn ev) (by omega)) (va_cwS 1 hts gX5_nextToken_X5_isDigit rfl rfl rfl ykSX5_isDigit ⟨Nat.le_of_ble_eq_true rfl, Nat.le_of_ble_eq_true rfl⟩) hP hK hD hS [] rfl (by decide) (fun _ => rfl) (fun _ => wRo r ik ((nn : Nat) : Int) (jk b0 b1 2 ((iv : Nat) : Int) ((ev : Nat) : Int) rv fa) ++ (wA cI (r 6) 120 TB)) (fun _ => rfl) rfl hl.1 rfl (Nat.le_of_ble_eq_true rfl) dX5_nextToken_152 ⟨Nat.le_of_ble_eq_true rfl, Nat.le_of_ble_eq_true rfl⟩ (fun _ H locs _ hP hD hS => ?_)
                      refine W.eq (g2 := F0 m 155 ls [.int (iI (b2 (decide (48 ≤ (byF TB nn ev) ∧ (byF TB nn ev) ≤ 57))))]) rfl ?_
                      refine x_ifb_eq (tgt := 211) hx hb dX5_nextToken_155 (by decide) (fun c_155 => ?_) (fun c_155 => ?_)
                      · refine lv_aload_n hx hb dX5_nextToken_211 rfl (lv_at hl 0 rfl) ?_
                        refine lv_dup hx hb dX5_nextToken_212 rfl ?_
                        refine va_get (D := D) (ci := 4) (v := .int (iI ((ev : Nat) : Int))) (C := RX5) (T := TX5) (N := 18) hx hb hts (iT_X5_nextToken_X5) hown hK hP 0 rfl rfl 15 (by decide) (hts (.fieldLink RX5 202 "WordSupperModel" "to" "I") (by decide +kernel)) (fun _ h9 => h9) rfl dX5_nextToken_213 ?_
                        refine lv_aload_n hx hb dX5_nextToken_216 rfl (lv_at hl 0 rfl) ?_
                        refine va_get (D := D) (ci := 4) (v := .int (iI 2)) (C := RX5) (T := TX5) (N := 18) hx hb hts (iT_X5_nextToken_X5) hown hK hP 0 rfl rfl 13 (by decide) (hts (.fieldLink RX5 217 "WordSupperModel" "token" "I") (by decide +kernel)) (fun _ h9 => h9) rfl dX5_nextToken_217 ?_
                        refine x_iconst hx hb dX5_nextToken_220 ?_
                        refine x_icmp_le (tgt := 228) hx hb (by decide) (by decide) dX5_nextToken_221 (by decide) (fun c_221 => ?_) (fun c_221 => ?_)
                        · refine x_iconst hx hb dX5_nextToken_228 ?_
                          refine x_iadd hx hb dX5_nextToken_229 ?_
                          refine x_topi ((ev + 0 : Nat) : Int) (by omega) ?_
                          refine x_putI (D := D) (ty := .int) (C := RX5) (T := TX5) (N := 18) hx hb 4 hts (iT_X5_nextToken_X5) tyX5 tyX5_ok nmX5 hown hK hP hD hS 0 rfl rfl 15 (by decide) (hts (.fieldLink RX5 202 "WordSupperModel" "to" "I") (by decide +kernel)) (fun _ h9 => h9) rfl (by decide +kernel) rfl rfl (Nat.le_of_ble_eq_true rfl) (wRo r ik ((nn : Nat) : Int) (jk b0 b1 2 ((iv : Nat) : Int) ((ev + 0 : Nat) : Int) rv fa) ++ (wA cI (r 6) 120 TB)) (rfl) dX5_nextToken_230 (fun H locs hP hD hS => ?_)
                          have e_d : dgF TB nn 120 iv 0 = (ev, min 1000 rv) := hd1.symm
                          exact kend (2, ((iv : Nat) : Int), ((ev + 0 : Nat) : Int), rv) hP hS rfl (tr_of (ty_2 e_f (by omega) (by omega) (by omega) e_d) (fun q9 => by exact ⟨rfl, hd4⟩)) dX5_nextToken_233
                        · exact absurd c_221 (by decide)
                      · exfalso; omega
                  | succ k4 ih4 =>
                    intro t4 ev rv H locs ls hk4t hd1 hd2 hd3 hd4 hP hD hS hl
                    refine lv_aload_n hx hb dX5_nextToken_136 rfl (lv_at hl 0 rfl) ?_
                    refine va_get (D := D) (ci := 4) (v := .int (iI 2)) (C := RX5) (T := TX5) (N := 18) hx hb hts (iT_X5_nextToken_X5) hown hK hP 0 rfl rfl 13 (by decide) (hts (.fieldLink RX5 217 "WordSupperModel" "token" "I") (by decide +kernel)) (fun _ h9 => h9) rfl dX5_nextToken_137 ?_
                    refine x_iconst hx hb dX5_nextToken_140 ?_
                    refine x_icmp_ne (tgt := 211) hx hb (by decide) (by decide) dX5_nextToken_141 (by decide) (fun c_141 => ?_) (fun c_141 => ?_)
                    · exact absurd c_141 (by decide)
                    · refine lv_aload_n hx hb dX5_nextToken_144 rfl (lv_at hl 0 rfl) ?_
                      refine lv_aload_n hx hb dX5_nextToken_145 rfl (lv_at hl 0 rfl) ?_
                      refine va_get (D := D) (ci := 4) (v := .int (iI ((ev : Nat) : Int))) (C := RX5) (T := TX5) (N := 18) hx hb hts (iT_X5_nextToken_X5) hown hK hP 0 rfl rfl 15 (by decide) (hts (.fieldLink RX5 202 "WordSupperModel" "to" "I") (by decide +kernel)) (fun _ h9 => h9) rfl dX5_nextToken_146 ?_
                      have hb4 := by_c (i := ev) hTB hn9
                      refine x_callV (As := [.int (iI ((ev : Nat) : Int))]) (rest := []) ⟨hx, hb, hml, hown, hts⟩ (kX5_byteAt r ik ((nn : Nat) : Int) b0 b1 2 ((iv : Nat) : Int) ((ev : Nat) : Int) rv fa TB ev nn rfl hn9 (by omega)) (cwV 1 hts gX5_nextToken_X5_byteAt rfl rfl rfl ykVX5_byteAt ⟨Nat.le_of_ble_eq_true rfl, Nat.le_of_ble_eq_true rfl⟩) hP hK hD hS 0 4 rfl rfl rfl [0, 1] rfl (by decide) (fun _ => rfl) (fun _ => wRo r ik ((nn : Nat) : Int) (jk b0 b1 2 ((iv : Nat) : Int) ((ev : Nat) : Int) rv fa) ++ (wA cI (r 6) 120 TB)) (fun _ => rfl) rfl hl.1 rfl (Nat.le_of_ble_eq_true rfl) dX5_nextToken_149 ⟨Nat.le_of_ble_eq_true rfl, Nat.le_of_ble_eq_true rfl⟩ (fun _ H locs _ hP hD hS => ?_)
                      refine W.eq (g2 := F0 m 152 ls [.int (iI (byF TB nn ev))]) rfl ?_
                      refine x_callS (As := [.int (iI (byF TB nn ev))]) (rest := []) ⟨hx, hb, hml, hown, hts⟩ (kX5_isDigit (byF TB nn ev) (by omega)) (va_cwS 1 hts gX5_nextToken_X5_isDigit rfl rfl rfl ykSX5_isDigit ⟨Nat.le_of_ble_eq_true rfl, Nat.le_of_ble_eq_true rfl⟩) hP hK hD hS [] rfl (by decide) (fun _ => rfl) (fun _ => wRo r ik ((nn : Nat) : Int) (jk b0 b1 2 ((iv : Nat) : Int) ((ev : Nat) : Int) rv fa) ++ (wA cI (r 6) 120 TB)) (fun _ => rfl) rfl hl.1 rfl (Nat.le_of_ble_eq_true rfl) dX5_nextToken_152 ⟨Nat.le_of_ble_eq_true rfl, Nat.le_of_ble_eq_true rfl⟩ (fun _ H locs _ hP hD hS => ?_)
                      refine W.eq (g2 := F0 m 155 ls [.int (iI (b2 (decide (48 ≤ (byF TB nn ev) ∧ (byF TB nn ev) ≤ 57))))]) rfl ?_
                      refine x_ifb_eq (tgt := 211) hx hb dX5_nextToken_155 (by decide) (fun c_155 => ?_) (fun c_155 => ?_)
                      · refine lv_aload_n hx hb dX5_nextToken_211 rfl (lv_at hl 0 rfl) ?_
                        refine lv_dup hx hb dX5_nextToken_212 rfl ?_
                        refine va_get (D := D) (ci := 4) (v := .int (iI ((ev : Nat) : Int))) (C := RX5) (T := TX5) (N := 18) hx hb hts (iT_X5_nextToken_X5) hown hK hP 0 rfl rfl 15 (by decide) (hts (.fieldLink RX5 202 "WordSupperModel" "to" "I") (by decide +kernel)) (fun _ h9 => h9) rfl dX5_nextToken_213 ?_
                        refine lv_aload_n hx hb dX5_nextToken_216 rfl (lv_at hl 0 rfl) ?_
                        refine va_get (D := D) (ci := 4) (v := .int (iI 2)) (C := RX5) (T := TX5) (N := 18) hx hb hts (iT_X5_nextToken_X5) hown hK hP 0 rfl rfl 13 (by decide) (hts (.fieldLink RX5 217 "WordSupperModel" "token" "I") (by decide +kernel)) (fun _ h9 => h9) rfl dX5_nextToken_217 ?_
                        refine x_iconst hx hb dX5_nextToken_220 ?_
                        refine x_icmp_le (tgt := 228) hx hb (by decide) (by decide) dX5_nextToken_221 (by decide) (fun c_221 => ?_) (fun c_221 => ?_)
                        · refine x_iconst hx hb dX5_nextToken_228 ?_
                          refine x_iadd hx hb dX5_nextToken_229 ?_
                          refine x_topi ((ev + 0 : Nat) : Int) (by omega) ?_
                          refine x_putI (D := D) (ty := .int) (C := RX5) (T := TX5) (N := 18) hx hb 4 hts (iT_X5_nextToken_X5) tyX5 tyX5_ok nmX5 hown hK hP hD hS 0 rfl rfl 15 (by decide) (hts (.fieldLink RX5 202 "WordSupperModel" "to" "I") (by decide +kernel)) (fun _ h9 => h9) rfl (by decide +kernel) rfl rfl (Nat.le_of_ble_eq_true rfl) (wRo r ik ((nn : Nat) : Int) (jk b0 b1 2 ((iv : Nat) : Int) ((ev + 0 : Nat) : Int) rv fa) ++ (wA cI (r 6) 120 TB)) (rfl) dX5_nextToken_230 (fun H locs hP hD hS => ?_)
                          have e_d : dgF TB nn 120 iv 0 = (ev, min 1000 rv) := by rw [← hd1, dgF, if_neg (by omega)]
                          exact kend (2, ((iv : Nat) : Int), ((ev + 0 : Nat) : Int), rv) hP hS rfl (tr_of (ty_2 e_f (by omega) (by omega) (by omega) e_d) (fun q9 => by exact ⟨rfl, hd4⟩)) dX5_nextToken_233
                        · exact absurd c_221 (by decide)
                      · refine lv_aload_n hx hb dX5_nextToken_158 rfl (lv_at hl 0 rfl) ?_
                        refine lv_aload_n hx hb dX5_nextToken_159 rfl (lv_at hl 0 rfl) ?_
                        refine va_get (D := D) (ci := 4) (v := .int (iI rv)) (C := RX5) (T := TX5) (N := 18) hx hb hts (iT_X5_nextToken_X5) hown hK hP 0 rfl rfl 16 (by decide) (hts (.fieldLink RX5 220 "WordSupperModel" "value" "I") (by decide +kernel)) (fun _ h9 => h9) rfl dX5_nextToken_160 ?_
                        refine x_sipush hx hb dX5_nextToken_163 (by decide) ?_
                        refine x_icmp_le (tgt := 176) hx hb (by omega) (by decide) dX5_nextToken_166 (by decide) (fun c_166 => ?_) (fun c_166 => ?_)
                        · refine x_bipush hx hb dX5_nextToken_176 (by decide) ?_
                          refine lv_aload_n hx hb dX5_nextToken_178 rfl (lv_at hl 0 rfl) ?_
                          refine va_get (D := D) (ci := 4) (v := .int (iI rv)) (C := RX5) (T := TX5) (N := 18) hx hb hts (iT_X5_nextToken_X5) hown hK hP 0 rfl rfl 16 (by decide) (hts (.fieldLink RX5 220 "WordSupperModel" "value" "I") (by decide +kernel)) (fun _ h9 => h9) rfl dX5_nextToken_179 ?_
                          refine x_imul hx hb dX5_nextToken_182 ?_
                          refine lv_aload_n hx hb dX5_nextToken_183 rfl (lv_at hl 0 rfl) ?_
                          refine lv_aload_n hx hb dX5_nextToken_184 rfl (lv_at hl 0 rfl) ?_
                          refine va_get (D := D) (ci := 4) (v := .int (iI ((ev : Nat) : Int))) (C := RX5) (T := TX5) (N := 18) hx hb hts (iT_X5_nextToken_X5) hown hK hP 0 rfl rfl 15 (by decide) (hts (.fieldLink RX5 202 "WordSupperModel" "to" "I") (by decide +kernel)) (fun _ h9 => h9) rfl dX5_nextToken_185 ?_
                          refine x_callV (As := [.int (iI ((ev : Nat) : Int))]) (rest := [.int (iI (10 * rv)), .ref (r 0)]) ⟨hx, hb, hml, hown, hts⟩ (kX5_byteAt r ik ((nn : Nat) : Int) b0 b1 2 ((iv : Nat) : Int) ((ev : Nat) : Int) rv fa TB ev nn rfl hn9 (by omega)) (cwV 1 hts gX5_nextToken_X5_byteAt rfl rfl rfl ykVX5_byteAt ⟨Nat.le_of_ble_eq_true rfl, Nat.le_of_ble_eq_true rfl⟩) hP hK hD hS 0 4 rfl rfl rfl [0, 1] rfl (by decide) (fun _ => rfl) (fun _ => wRo r ik ((nn : Nat) : Int) (jk b0 b1 2 ((iv : Nat) : Int) ((ev : Nat) : Int) rv fa) ++ (wA cI (r 6) 120 TB)) (fun _ => rfl) rfl hl.1 rfl (Nat.le_of_ble_eq_true rfl) dX5_nextToken_188 ⟨Nat.le_of_ble_eq_true rfl, Nat.le_of_ble_eq_true rfl⟩ (fun _ H locs _ hP hD hS => ?_)
                          refine W.eq (g2 := F0 m 191 ls [.int (iI (byF TB nn ev)), .int (iI (10 * rv)), .ref (r 0)]) rfl ?_
                          refine x_iadd hx hb dX5_nextToken_191 ?_
                          refine x_bipush hx hb dX5_nextToken_192 (by decide) ?_
                          refine x_isub hx hb dX5_nextToken_194 ?_
                          refine x_topi (10 * rv + TB ev - 48) (by omega) ?_
                          refine x_putI (D := D) (ty := .int) (C := RX5) (T := TX5) (N := 18) hx hb 4 hts (iT_X5_nextToken_X5) tyX5 tyX5_ok nmX5 hown hK hP hD hS 0 rfl rfl 16 (by decide) (hts (.fieldLink RX5 220 "WordSupperModel" "value" "I") (by decide +kernel)) (fun _ h9 => h9) rfl (by decide +kernel) rfl rfl (Nat.le_of_ble_eq_true rfl) (wRo r ik ((nn : Nat) : Int) (jk b0 b1 2 ((iv : Nat) : Int) ((ev : Nat) : Int) (10 * rv + TB ev - 48) fa) ++ (wA cI (r 6) 120 TB)) (rfl) dX5_nextToken_195 (fun H locs hP hD hS => ?_)
                          refine lv_aload_n hx hb dX5_nextToken_198 rfl (lv_at hl 0 rfl) ?_
                          refine lv_dup hx hb dX5_nextToken_199 rfl ?_
                          refine va_get (D := D) (ci := 4) (v := .int (iI ((ev : Nat) : Int))) (C := RX5) (T := TX5) (N := 18) hx hb hts (iT_X5_nextToken_X5) hown hK hP 0 rfl rfl 15 (by decide) (hts (.fieldLink RX5 202 "WordSupperModel" "to" "I") (by decide +kernel)) (fun _ h9 => h9) rfl dX5_nextToken_200 ?_
                          refine x_iconst hx hb dX5_nextToken_203 ?_
                          refine x_iadd hx hb dX5_nextToken_204 ?_
                          refine x_topi ((ev + 1 : Nat) : Int) (by omega) ?_
                          refine x_putI (D := D) (ty := .int) (C := RX5) (T := TX5) (N := 18) hx hb 4 hts (iT_X5_nextToken_X5) tyX5 tyX5_ok nmX5 hown hK hP hD hS 0 rfl rfl 15 (by decide) (hts (.fieldLink RX5 202 "WordSupperModel" "to" "I") (by decide +kernel)) (fun _ h9 => h9) rfl (by decide +kernel) rfl rfl (Nat.le_of_ble_eq_true rfl) (wRo r ik ((nn : Nat) : Int) (jk b0 b1 2 ((iv : Nat) : Int) ((ev + 1 : Nat) : Int) (10 * rv + TB ev - 48) fa) ++ (wA cI (r 6) 120 TB)) (rfl) dX5_nextToken_205 (fun H locs hP hD hS => ?_)
                          refine lv_goto (tgt := 136) hx hb dX5_nextToken_208 (by decide) ?_
                          exact ih4 (t4 + 1) (ev + 1) (10 * rv + TB ev - 48) _ _ _ (by omega) (by rw [← hd1, dgF, if_pos (by omega), show min 1000 (min 1000 rv * 10 + TB ev - 48) = min 1000 (10 * rv + TB ev - 48) by omega]) (by omega) (by omega) (by omega) hP hD hS (lv_sub hl [0] rfl)
                        · refine lv_aload_n hx hb dX5_nextToken_169 rfl (lv_at hl 0 rfl) ?_
                          refine va_get (D := D) (ci := 4) (v := .int (iI rv)) (C := RX5) (T := TX5) (N := 18) hx hb hts (iT_X5_nextToken_X5) hown hK hP 0 rfl rfl 16 (by decide) (hts (.fieldLink RX5 220 "WordSupperModel" "value" "I") (by decide +kernel)) (fun _ h9 => h9) rfl dX5_nextToken_170 ?_
                          refine lv_goto (tgt := 195) hx hb dX5_nextToken_173 (by decide) ?_
                          refine x_putI (D := D) (ty := .int) (C := RX5) (T := TX5) (N := 18) hx hb 4 hts (iT_X5_nextToken_X5) tyX5 tyX5_ok nmX5 hown hK hP hD hS 0 rfl rfl 16 (by decide) (hts (.fieldLink RX5 220 "WordSupperModel" "value" "I") (by decide +kernel)) (fun _ h9 => h9) rfl (by decide +kernel) rfl rfl (Nat.le_of_ble_eq_true rfl) (wRo r ik ((nn : Nat) : Int) (jk b0 b1 2 ((iv : Nat) : Int) ((ev : Nat) : Int) rv fa) ++ (wA cI (r 6) 120 TB)) (rfl) dX5_nextToken_195 (fun H locs hP hD hS => ?_)
                          refine lv_aload_n hx hb dX5_nextToken_198 rfl (lv_at hl 0 rfl) ?_
                          refine lv_dup hx hb dX5_nextToken_199 rfl ?_
                          refine va_get (D := D) (ci := 4) (v := .int (iI ((ev : Nat) : Int))) (C := RX5) (T := TX5) (N := 18) hx hb hts (iT_X5_nextToken_X5) hown hK hP 0 rfl rfl 15 (by decide) (hts (.fieldLink RX5 202 "WordSupperModel" "to" "I") (by decide +kernel)) (fun _ h9 => h9) rfl dX5_nextToken_200 ?_
                          refine x_iconst hx hb dX5_nextToken_203 ?_
                          refine x_iadd hx hb dX5_nextToken_204 ?_
                          refine x_topi ((ev + 1 : Nat) : Int) (by omega) ?_
                          refine x_putI (D := D) (ty := .int) (C := RX5) (T := TX5) (N := 18) hx hb 4 hts (iT_X5_nextToken_X5) tyX5 tyX5_ok nmX5 hown hK hP hD hS 0 rfl rfl 15 (by decide) (hts (.fieldLink RX5 202 "WordSupperModel" "to" "I") (by decide +kernel)) (fun _ h9 => h9) rfl (by decide +kernel) rfl rfl (Nat.le_of_ble_eq_true rfl) (wRo r ik ((nn : Nat) : Int) (jk b0 b1 2 ((iv : Nat) : Int) ((ev + 1 : Nat) : Int) rv fa) ++ (wA cI (r 6) 120 TB)) (rfl) dX5_nextToken_205 (fun H locs hP hD hS => ?_)
                          refine lv_goto (tgt := 136) hx hb dX5_nextToken_208 (by decide) ?_
                          exact ih4 (t4 + 1) (ev + 1) rv _ _ _ (by omega) (by rw [← hd1, dgF, if_pos (by omega), show min 1000 (min 1000 rv * 10 + TB ev - 48) = min 1000 (rv) by omega]) (by omega) (by omega) (by omega) hP hD hS (lv_sub hl [0] rfl)
                exact L136 120 0 iv 0 _ _ _ (by omega) rfl (by omega) (by omega) (by decide) hP hD hS (lv_sub hl [1] rfl)
              · exact absurd c_106 (by decide)
          · refine x_iconst hx hb dX5_nextToken_67 ?_
            refine lv_goto (tgt := 93) hx hb dX5_nextToken_68 (by decide) ?_
            refine x_putI (D := D) (ty := .int) (C := RX5) (T := TX5) (N := 18) hx hb 4 hts (iT_X5_nextToken_X5) tyX5 tyX5_ok nmX5 hown hK hP hD hS 0 rfl rfl 13 (by decide) (hts (.fieldLink RX5 217 "WordSupperModel" "token" "I") (by decide +kernel)) (fun _ h9 => h9) rfl (by decide +kernel) rfl rfl (Nat.le_of_ble_eq_true rfl) (wRo r ik ((nn : Nat) : Int) (jk b0 b1 1 ((iv : Nat) : Int) ((iv : Nat) : Int) cv fa) ++ (wA cI (r 6) 120 TB)) (rfl) dX5_nextToken_93 (fun H locs hP hD hS => ?_)
            refine lv_aload_n hx hb dX5_nextToken_96 rfl (lv_at hl 1 rfl) ?_
            refine x_iconst hx hb dX5_nextToken_97 ?_
            refine x_putI (D := D) (ty := .int) (C := RX5) (T := TX5) (N := 18) hx hb 4 hts (iT_X5_nextToken_X5) tyX5 tyX5_ok nmX5 hown hK hP hD hS 0 rfl rfl 16 (by decide) (hts (.fieldLink RX5 220 "WordSupperModel" "value" "I") (by decide +kernel)) (fun _ h9 => h9) rfl (by decide +kernel) rfl rfl (Nat.le_of_ble_eq_true rfl) (wRo r ik ((nn : Nat) : Int) (jk b0 b1 1 ((iv : Nat) : Int) ((iv : Nat) : Int) 0 fa) ++ (wA cI (r 6) 120 TB)) (rfl) dX5_nextToken_98 (fun H locs hP hD hS => ?_)
            have L101 : ∀ (k3 t3 : Nat) (ev : Nat) (H : Heap) (locs : List Loc) (ls : Array Slot), t3 + k3 = 120 → (leF TB nn k3 ev = leF TB nn 120 iv) → (nn ≤ ev + k3) → (ev ≤ nn) → va_P D vwCl (wRo r ik ((nn : Nat) : Int) (jk b0 b1 1 ((iv : Nat) : Int) ((ev : Nat) : Int) 0 fa) ++ (wA cI (r 6) 120 TB)) H → va_D A (wRo r ik ((nn : Nat) : Int) (jk b0 b1 1 ((iv : Nat) : Int) ((ev : Nat) : Int) 0 fa) ++ (wA cI (r 6) 120 TB)) → va_S A s.heap H locs → lv_has ls 2 [(0, .ref (r 0))] → W pg l e { frames := 1, cells := 0, slots := 0, locals := 21 } s m args below meth c H locs 0 0 Q (F0 m 101 ls []) := by
              intro k3
              induction k3 with
              | zero =>
                intro t3 ev H locs ls hk3t hl1 hl2 hl3 hP hD hS hl
                refine lv_aload_n hx hb dX5_nextToken_101 rfl (lv_at hl 0 rfl) ?_
                refine va_get (D := D) (ci := 4) (v := .int (iI 1)) (C := RX5) (T := TX5) (N := 18) hx hb hts (iT_X5_nextToken_X5) hown hK hP 0 rfl rfl 13 (by decide) (hts (.fieldLink RX5 217 "WordSupperModel" "token" "I") (by decide +kernel)) (fun _ h9 => h9) rfl dX5_nextToken_102 ?_
                refine x_iconst hx hb dX5_nextToken_105 ?_
                refine x_icmp_ne (tgt := 136) hx hb (by decide) (by decide) dX5_nextToken_106 (by decide) (fun c_106 => ?_) (fun c_106 => ?_)
                · exact absurd c_106 (by decide)
                · refine lv_aload_n hx hb dX5_nextToken_109 rfl (lv_at hl 0 rfl) ?_
                  refine lv_aload_n hx hb dX5_nextToken_110 rfl (lv_at hl 0 rfl) ?_
                  refine va_get (D := D) (ci := 4) (v := .int (iI ((ev : Nat) : Int))) (C := RX5) (T := TX5) (N := 18) hx hb hts (iT_X5_nextToken_X5) hown hK hP 0 rfl rfl 15 (by decide) (hts (.fieldLink RX5 202 "WordSupperModel" "to" "I") (by decide +kernel)) (fun _ h9 => h9) rfl dX5_nextToken_111 ?_
                  have hb3 := by_c (i := ev) hTB hn9
                  refine x_callV (As := [.int (iI ((ev : Nat) : Int))]) (rest := []) ⟨hx, hb, hml, hown, hts⟩ (kX5_byteAt r ik ((nn : Nat) : Int) b0 b1 1 ((iv : Nat) : Int) ((ev : Nat) : Int) 0 fa TB ev nn rfl hn9 (by omega)) (cwV 1 hts gX5_nextToken_X5_byteAt rfl rfl rfl ykVX5_byteAt ⟨Nat.le_of_ble_eq_true rfl, Nat.le_of_ble_eq_true rfl⟩) hP hK hD hS 0 4 rfl rfl rfl [0, 1] rfl (by decide) (fun _ => rfl) (fun _ => wRo r ik ((nn : Nat) : Int) (jk b0 b1 1 ((iv : Nat) : Int) ((ev : Nat) : Int) 0 fa) ++ (wA cI (r 6) 120 TB)) (fun _ => rfl) rfl hl.1 rfl (Nat.le_of_ble_eq_true rfl) dX5_nextToken_114 ⟨Nat.le_of_ble_eq_true rfl, Nat.le_of_ble_eq_true rfl⟩ (fun _ H locs _ hP hD hS => ?_)
                  refine W.eq (g2 := F0 m 117 ls [.int (iI (byF TB nn ev))]) rfl ?_
                  refine x_callS (As := [.int (iI (byF TB nn ev))]) (rest := []) ⟨hx, hb, hml, hown, hts⟩ (kX5_isLetter (byF TB nn ev) (by omega)) (va_cwS 1 hts gX5_nextToken_X5_isLetter rfl rfl rfl ykSX5_isLetter ⟨Nat.le_of_ble_eq_true rfl, Nat.le_of_ble_eq_true rfl⟩) hP hK hD hS [] rfl (by decide) (fun _ => rfl) (fun _ => wRo r ik ((nn : Nat) : Int) (jk b0 b1 1 ((iv : Nat) : Int) ((ev : Nat) : Int) 0 fa) ++ (wA cI (r 6) 120 TB)) (fun _ => rfl) rfl hl.1 rfl (Nat.le_of_ble_eq_true rfl) dX5_nextToken_117 ⟨Nat.le_of_ble_eq_true rfl, Nat.le_of_ble_eq_true rfl⟩ (fun _ H locs _ hP hD hS => ?_)
                  refine W.eq (g2 := F0 m 120 ls [.int (iI (b2 (decide (97 ≤ (byF TB nn ev) ∧ (byF TB nn ev) ≤ 122))))]) rfl ?_
                  refine x_ifb_eq (tgt := 136) hx hb dX5_nextToken_120 (by decide) (fun c_120 => ?_) (fun c_120 => ?_)
                  · refine lv_aload_n hx hb dX5_nextToken_136 rfl (lv_at hl 0 rfl) ?_
                    refine va_get (D := D) (ci := 4) (v := .int (iI 1)) (C := RX5) (T := TX5) (N := 18) hx hb hts (iT_X5_nextToken_X5) hown hK hP 0 rfl rfl 13 (by decide) (hts (.fieldLink RX5 217 "WordSupperModel" "token" "I") (by decide +kernel)) (fun _ h9 => h9) rfl dX5_nextToken_137 ?_
                    refine x_iconst hx hb dX5_nextToken_140 ?_
                    refine x_icmp_ne (tgt := 211) hx hb (by decide) (by decide) dX5_nextToken_141 (by decide) (fun c_141 => ?_) (fun c_141 => ?_)
                    · refine lv_aload_n hx hb dX5_nextToken_211 rfl (lv_at hl 0 rfl) ?_
                      refine lv_dup hx hb dX5_nextToken_212 rfl ?_
                      refine va_get (D := D) (ci := 4) (v := .int (iI ((ev : Nat) : Int))) (C := RX5) (T := TX5) (N := 18) hx hb hts (iT_X5_nextToken_X5) hown hK hP 0 rfl rfl 15 (by decide) (hts (.fieldLink RX5 202 "WordSupperModel" "to" "I") (by decide +kernel)) (fun _ h9 => h9) rfl dX5_nextToken_213 ?_
                      refine lv_aload_n hx hb dX5_nextToken_216 rfl (lv_at hl 0 rfl) ?_
                      refine va_get (D := D) (ci := 4) (v := .int (iI 1)) (C := RX5) (T := TX5) (N := 18) hx hb hts (iT_X5_nextToken_X5) hown hK hP 0 rfl rfl 13 (by decide) (hts (.fieldLink RX5 217 "WordSupperModel" "token" "I") (by decide +kernel)) (fun _ h9 => h9) rfl dX5_nextToken_217 ?_
                      refine x_iconst hx hb dX5_nextToken_220 ?_
                      refine x_icmp_le (tgt := 228) hx hb (by decide) (by decide) dX5_nextToken_221 (by decide) (fun c_221 => ?_) (fun c_221 => ?_)
                      · refine x_iconst hx hb dX5_nextToken_228 ?_
                        refine x_iadd hx hb dX5_nextToken_229 ?_
                        refine x_topi ((ev + 0 : Nat) : Int) (by omega) ?_
                        refine x_putI (D := D) (ty := .int) (C := RX5) (T := TX5) (N := 18) hx hb 4 hts (iT_X5_nextToken_X5) tyX5 tyX5_ok nmX5 hown hK hP hD hS 0 rfl rfl 15 (by decide) (hts (.fieldLink RX5 202 "WordSupperModel" "to" "I") (by decide +kernel)) (fun _ h9 => h9) rfl (by decide +kernel) rfl rfl (Nat.le_of_ble_eq_true rfl) (wRo r ik ((nn : Nat) : Int) (jk b0 b1 1 ((iv : Nat) : Int) ((ev + 0 : Nat) : Int) 0 fa) ++ (wA cI (r 6) 120 TB)) (rfl) dX5_nextToken_230 (fun H locs hP hD hS => ?_)
                        have e_l : leF TB nn 120 iv = ev := hl1.symm
                        exact kend (1, ((iv : Nat) : Int), ((ev + 0 : Nat) : Int), 0) hP hS rfl (tr_of (ty_1 (d := 0) e_f (by omega) (by omega) e_l) (fun q9 => by omega)) dX5_nextToken_233
                      · exact absurd c_221 (by decide)
                    · exact absurd c_141 (by decide)
                  · exfalso; omega
              | succ k3 ih3 =>
                intro t3 ev H locs ls hk3t hl1 hl2 hl3 hP hD hS hl
                refine lv_aload_n hx hb dX5_nextToken_101 rfl (lv_at hl 0 rfl) ?_
                refine va_get (D := D) (ci := 4) (v := .int (iI 1)) (C := RX5) (T := TX5) (N := 18) hx hb hts (iT_X5_nextToken_X5) hown hK hP 0 rfl rfl 13 (by decide) (hts (.fieldLink RX5 217 "WordSupperModel" "token" "I") (by decide +kernel)) (fun _ h9 => h9) rfl dX5_nextToken_102 ?_
                refine x_iconst hx hb dX5_nextToken_105 ?_
                refine x_icmp_ne (tgt := 136) hx hb (by decide) (by decide) dX5_nextToken_106 (by decide) (fun c_106 => ?_) (fun c_106 => ?_)
                · exact absurd c_106 (by decide)
                · refine lv_aload_n hx hb dX5_nextToken_109 rfl (lv_at hl 0 rfl) ?_
                  refine lv_aload_n hx hb dX5_nextToken_110 rfl (lv_at hl 0 rfl) ?_
                  refine va_get (D := D) (ci := 4) (v := .int (iI ((ev : Nat) : Int))) (C := RX5) (T := TX5) (N := 18) hx hb hts (iT_X5_nextToken_X5) hown hK hP 0 rfl rfl 15 (by decide) (hts (.fieldLink RX5 202 "WordSupperModel" "to" "I") (by decide +kernel)) (fun _ h9 => h9) rfl dX5_nextToken_111 ?_
                  have hb3 := by_c (i := ev) hTB hn9
                  refine x_callV (As := [.int (iI ((ev : Nat) : Int))]) (rest := []) ⟨hx, hb, hml, hown, hts⟩ (kX5_byteAt r ik ((nn : Nat) : Int) b0 b1 1 ((iv : Nat) : Int) ((ev : Nat) : Int) 0 fa TB ev nn rfl hn9 (by omega)) (cwV 1 hts gX5_nextToken_X5_byteAt rfl rfl rfl ykVX5_byteAt ⟨Nat.le_of_ble_eq_true rfl, Nat.le_of_ble_eq_true rfl⟩) hP hK hD hS 0 4 rfl rfl rfl [0, 1] rfl (by decide) (fun _ => rfl) (fun _ => wRo r ik ((nn : Nat) : Int) (jk b0 b1 1 ((iv : Nat) : Int) ((ev : Nat) : Int) 0 fa) ++ (wA cI (r 6) 120 TB)) (fun _ => rfl) rfl hl.1 rfl (Nat.le_of_ble_eq_true rfl) dX5_nextToken_114 ⟨Nat.le_of_ble_eq_true rfl, Nat.le_of_ble_eq_true rfl⟩ (fun _ H locs _ hP hD hS => ?_)
                  refine W.eq (g2 := F0 m 117 ls [.int (iI (byF TB nn ev))]) rfl ?_
                  refine x_callS (As := [.int (iI (byF TB nn ev))]) (rest := []) ⟨hx, hb, hml, hown, hts⟩ (kX5_isLetter (byF TB nn ev) (by omega)) (va_cwS 1 hts gX5_nextToken_X5_isLetter rfl rfl rfl ykSX5_isLetter ⟨Nat.le_of_ble_eq_true rfl, Nat.le_of_ble_eq_true rfl⟩) hP hK hD hS [] rfl (by decide) (fun _ => rfl) (fun _ => wRo r ik ((nn : Nat) : Int) (jk b0 b1 1 ((iv : Nat) : Int) ((ev : Nat) : Int) 0 fa) ++ (wA cI (r 6) 120 TB)) (fun _ => rfl) rfl hl.1 rfl (Nat.le_of_ble_eq_true rfl) dX5_nextToken_117 ⟨Nat.le_of_ble_eq_true rfl, Nat.le_of_ble_eq_true rfl⟩ (fun _ H locs _ hP hD hS => ?_)
                  refine W.eq (g2 := F0 m 120 ls [.int (iI (b2 (decide (97 ≤ (byF TB nn ev) ∧ (byF TB nn ev) ≤ 122))))]) rfl ?_
                  refine x_ifb_eq (tgt := 136) hx hb dX5_nextToken_120 (by decide) (fun c_120 => ?_) (fun c_120 => ?_)
                  · refine lv_aload_n hx hb dX5_nextToken_136 rfl (lv_at hl 0 rfl) ?_
                    refine va_get (D := D) (ci := 4) (v := .int (iI 1)) (C := RX5) (T := TX5) (N := 18) hx hb hts (iT_X5_nextToken_X5) hown hK hP 0 rfl rfl 13 (by decide) (hts (.fieldLink RX5 217 "WordSupperModel" "token" "I") (by decide +kernel)) (fun _ h9 => h9) rfl dX5_nextToken_137 ?_
                    refine x_iconst hx hb dX5_nextToken_140 ?_
                    refine x_icmp_ne (tgt := 211) hx hb (by decide) (by decide) dX5_nextToken_141 (by decide) (fun c_141 => ?_) (fun c_141 => ?_)
                    · refine lv_aload_n hx hb dX5_nextToken_211 rfl (lv_at hl 0 rfl) ?_
                      refine lv_dup hx hb dX5_nextToken_212 rfl ?_
                      refine va_get (D := D) (ci := 4) (v := .int (iI ((ev : Nat) : Int))) (C := RX5) (T := TX5) (N := 18) hx hb hts (iT_X5_nextToken_X5) hown hK hP 0 rfl rfl 15 (by decide) (hts (.fieldLink RX5 202 "WordSupperModel" "to" "I") (by decide +kernel)) (fun _ h9 => h9) rfl dX5_nextToken_213 ?_
                      refine lv_aload_n hx hb dX5_nextToken_216 rfl (lv_at hl 0 rfl) ?_
                      refine va_get (D := D) (ci := 4) (v := .int (iI 1)) (C := RX5) (T := TX5) (N := 18) hx hb hts (iT_X5_nextToken_X5) hown hK hP 0 rfl rfl 13 (by decide) (hts (.fieldLink RX5 217 "WordSupperModel" "token" "I") (by decide +kernel)) (fun _ h9 => h9) rfl dX5_nextToken_217 ?_
                      refine x_iconst hx hb dX5_nextToken_220 ?_
                      refine x_icmp_le (tgt := 228) hx hb (by decide) (by decide) dX5_nextToken_221 (by decide) (fun c_221 => ?_) (fun c_221 => ?_)
                      · refine x_iconst hx hb dX5_nextToken_228 ?_
                        refine x_iadd hx hb dX5_nextToken_229 ?_
                        refine x_topi ((ev + 0 : Nat) : Int) (by omega) ?_
                        refine x_putI (D := D) (ty := .int) (C := RX5) (T := TX5) (N := 18) hx hb 4 hts (iT_X5_nextToken_X5) tyX5 tyX5_ok nmX5 hown hK hP hD hS 0 rfl rfl 15 (by decide) (hts (.fieldLink RX5 202 "WordSupperModel" "to" "I") (by decide +kernel)) (fun _ h9 => h9) rfl (by decide +kernel) rfl rfl (Nat.le_of_ble_eq_true rfl) (wRo r ik ((nn : Nat) : Int) (jk b0 b1 1 ((iv : Nat) : Int) ((ev + 0 : Nat) : Int) 0 fa) ++ (wA cI (r 6) 120 TB)) (rfl) dX5_nextToken_230 (fun H locs hP hD hS => ?_)
                        have e_l : leF TB nn 120 iv = ev := by rw [← hl1, leF, if_neg (by omega)]
                        exact kend (1, ((iv : Nat) : Int), ((ev + 0 : Nat) : Int), 0) hP hS rfl (tr_of (ty_1 (d := 0) e_f (by omega) (by omega) e_l) (fun q9 => by omega)) dX5_nextToken_233
                      · exact absurd c_221 (by decide)
                    · exact absurd c_141 (by decide)
                  · refine lv_aload_n hx hb dX5_nextToken_123 rfl (lv_at hl 0 rfl) ?_
                    refine lv_dup hx hb dX5_nextToken_124 rfl ?_
                    refine va_get (D := D) (ci := 4) (v := .int (iI ((ev : Nat) : Int))) (C := RX5) (T := TX5) (N := 18) hx hb hts (iT_X5_nextToken_X5) hown hK hP 0 rfl rfl 15 (by decide) (hts (.fieldLink RX5 202 "WordSupperModel" "to" "I") (by decide +kernel)) (fun _ h9 => h9) rfl dX5_nextToken_125 ?_
                    refine x_iconst hx hb dX5_nextToken_128 ?_
                    refine x_iadd hx hb dX5_nextToken_129 ?_
                    refine x_topi ((ev + 1 : Nat) : Int) (by omega) ?_
                    refine x_putI (D := D) (ty := .int) (C := RX5) (T := TX5) (N := 18) hx hb 4 hts (iT_X5_nextToken_X5) tyX5 tyX5_ok nmX5 hown hK hP hD hS 0 rfl rfl 15 (by decide) (hts (.fieldLink RX5 202 "WordSupperModel" "to" "I") (by decide +kernel)) (fun _ h9 => h9) rfl (by decide +kernel) rfl rfl (Nat.le_of_ble_eq_true rfl) (wRo r ik ((nn : Nat) : Int) (jk b0 b1 1 ((iv : Nat) : Int) ((ev + 1 : Nat) : Int) 0 fa) ++ (wA cI (r 6) 120 TB)) (rfl) dX5_nextToken_130 (fun H locs hP hD hS => ?_)
                    refine lv_goto (tgt := 101) hx hb dX5_nextToken_133 (by decide) ?_
                    exact ih3 (t3 + 1) (ev + 1) _ _ _ (by omega) (by rw [← hl1, leF, if_pos (by omega)]) (by omega) (by omega) hP hD hS (lv_sub hl [0] rfl)
            exact L101 120 0 iv _ _ _ (by omega) rfl (by omega) (by omega) hP hD hS (lv_sub hl [1] rfl)
        · refine x_iconst hx hb dX5_nextToken_56 ?_
          refine lv_goto (tgt := 93) hx hb dX5_nextToken_57 (by decide) ?_
          refine x_putI (D := D) (ty := .int) (C := RX5) (T := TX5) (N := 18) hx hb 4 hts (iT_X5_nextToken_X5) tyX5 tyX5_ok nmX5 hown hK hP hD hS 0 rfl rfl 13 (by decide) (hts (.fieldLink RX5 217 "WordSupperModel" "token" "I") (by decide +kernel)) (fun _ h9 => h9) rfl (by decide +kernel) rfl rfl (Nat.le_of_ble_eq_true rfl) (wRo r ik ((nn : Nat) : Int) (jk b0 b1 0 ((iv : Nat) : Int) ((iv : Nat) : Int) cv fa) ++ (wA cI (r 6) 120 TB)) (rfl) dX5_nextToken_93 (fun H locs hP hD hS => ?_)
          refine lv_aload_n hx hb dX5_nextToken_96 rfl (lv_at hl 1 rfl) ?_
          refine x_iconst hx hb dX5_nextToken_97 ?_
          refine x_putI (D := D) (ty := .int) (C := RX5) (T := TX5) (N := 18) hx hb 4 hts (iT_X5_nextToken_X5) tyX5 tyX5_ok nmX5 hown hK hP hD hS 0 rfl rfl 16 (by decide) (hts (.fieldLink RX5 220 "WordSupperModel" "value" "I") (by decide +kernel)) (fun _ h9 => h9) rfl (by decide +kernel) rfl rfl (Nat.le_of_ble_eq_true rfl) (wRo r ik ((nn : Nat) : Int) (jk b0 b1 0 ((iv : Nat) : Int) ((iv : Nat) : Int) 0 fa) ++ (wA cI (r 6) 120 TB)) (rfl) dX5_nextToken_98 (fun H locs hP hD hS => ?_)
          refine lv_aload_n hx hb dX5_nextToken_101 rfl (lv_at hl 1 rfl) ?_
          refine va_get (D := D) (ci := 4) (v := .int (iI 0)) (C := RX5) (T := TX5) (N := 18) hx hb hts (iT_X5_nextToken_X5) hown hK hP 0 rfl rfl 13 (by decide) (hts (.fieldLink RX5 217 "WordSupperModel" "token" "I") (by decide +kernel)) (fun _ h9 => h9) rfl dX5_nextToken_102 ?_
          refine x_iconst hx hb dX5_nextToken_105 ?_
          refine x_icmp_ne (tgt := 136) hx hb (by decide) (by decide) dX5_nextToken_106 (by decide) (fun c_106 => ?_) (fun c_106 => ?_)
          · refine lv_aload_n hx hb dX5_nextToken_136 rfl (lv_at hl 1 rfl) ?_
            refine va_get (D := D) (ci := 4) (v := .int (iI 0)) (C := RX5) (T := TX5) (N := 18) hx hb hts (iT_X5_nextToken_X5) hown hK hP 0 rfl rfl 13 (by decide) (hts (.fieldLink RX5 217 "WordSupperModel" "token" "I") (by decide +kernel)) (fun _ h9 => h9) rfl dX5_nextToken_137 ?_
            refine x_iconst hx hb dX5_nextToken_140 ?_
            refine x_icmp_ne (tgt := 211) hx hb (by decide) (by decide) dX5_nextToken_141 (by decide) (fun c_141 => ?_) (fun c_141 => ?_)
            · refine lv_aload_n hx hb dX5_nextToken_211 rfl (lv_at hl 1 rfl) ?_
              refine lv_dup hx hb dX5_nextToken_212 rfl ?_
              refine va_get (D := D) (ci := 4) (v := .int (iI ((iv : Nat) : Int))) (C := RX5) (T := TX5) (N := 18) hx hb hts (iT_X5_nextToken_X5) hown hK hP 0 rfl rfl 15 (by decide) (hts (.fieldLink RX5 202 "WordSupperModel" "to" "I") (by decide +kernel)) (fun _ h9 => h9) rfl dX5_nextToken_213 ?_
              refine lv_aload_n hx hb dX5_nextToken_216 rfl (lv_at hl 1 rfl) ?_
              refine va_get (D := D) (ci := 4) (v := .int (iI 0)) (C := RX5) (T := TX5) (N := 18) hx hb hts (iT_X5_nextToken_X5) hown hK hP 0 rfl rfl 13 (by decide) (hts (.fieldLink RX5 217 "WordSupperModel" "token" "I") (by decide +kernel)) (fun _ h9 => h9) rfl dX5_nextToken_217 ?_
              refine x_iconst hx hb dX5_nextToken_220 ?_
              refine x_icmp_le (tgt := 228) hx hb (by decide) (by decide) dX5_nextToken_221 (by decide) (fun c_221 => ?_) (fun c_221 => ?_)
              · refine x_iconst hx hb dX5_nextToken_228 ?_
                refine x_iadd hx hb dX5_nextToken_229 ?_
                refine x_topi ((iv + 0 : Nat) : Int) (by omega) ?_
                refine x_putI (D := D) (ty := .int) (C := RX5) (T := TX5) (N := 18) hx hb 4 hts (iT_X5_nextToken_X5) tyX5 tyX5_ok nmX5 hown hK hP hD hS 0 rfl rfl 15 (by decide) (hts (.fieldLink RX5 202 "WordSupperModel" "to" "I") (by decide +kernel)) (fun _ h9 => h9) rfl (by decide +kernel) rfl rfl (Nat.le_of_ble_eq_true rfl) (wRo r ik ((nn : Nat) : Int) (jk b0 b1 0 ((iv : Nat) : Int) ((iv + 0 : Nat) : Int) 0 fa) ++ (wA cI (r 6) 120 TB)) (rfl) dX5_nextToken_230 (fun H locs hP hD hS => ?_)
                exact kend (0, ((iv : Nat) : Int), ((iv + 0 : Nat) : Int), 0) hP hS rfl (tr_of (ty_0 (d := 0) e_f (by omega)) (fun q9 => by omega)) dX5_nextToken_233
              · exact absurd c_221 (by decide)
            · exact absurd c_141 (by decide)
          · exact absurd c_106 (by decide)
      · exfalso; omega
    | succ k ih =>
      intro t iv H locs ls hkt hk1 hk2 hk3 hP hD hS hl
      refine lv_aload_n hx hb dX5_nextToken_8 rfl (lv_at hl 0 rfl) ?_
      refine lv_aload_n hx hb dX5_nextToken_9 rfl (lv_at hl 0 rfl) ?_
      refine va_get (D := D) (ci := 4) (v := .int (iI ((iv : Nat) : Int))) (C := RX5) (T := TX5) (N := 18) hx hb hts (iT_X5_nextToken_X5) hown hK hP 0 rfl rfl 14 (by decide) (hts (.fieldLink RX5 205 "WordSupperModel" "from" "I") (by decide +kernel)) (fun _ h9 => h9) rfl dX5_nextToken_10 ?_
      have hb1 := by_c (i := iv) hTB hn9
      refine x_callV (As := [.int (iI ((iv : Nat) : Int))]) (rest := []) ⟨hx, hb, hml, hown, hts⟩ (kX5_byteAt r ik ((nn : Nat) : Int) b0 b1 ct ((iv : Nat) : Int) ((e0 : Nat) : Int) cv fa TB iv nn rfl hn9 (by omega)) (cwV 1 hts gX5_nextToken_X5_byteAt rfl rfl rfl ykVX5_byteAt ⟨Nat.le_of_ble_eq_true rfl, Nat.le_of_ble_eq_true rfl⟩) hP hK hD hS 0 4 rfl rfl rfl [0, 1] rfl (by decide) (fun _ => rfl) (fun _ => wRo r ik ((nn : Nat) : Int) (jk b0 b1 ct ((iv : Nat) : Int) ((e0 : Nat) : Int) cv fa) ++ (wA cI (r 6) 120 TB)) (fun _ => rfl) rfl hl.1 rfl (Nat.le_of_ble_eq_true rfl) dX5_nextToken_13 ⟨Nat.le_of_ble_eq_true rfl, Nat.le_of_ble_eq_true rfl⟩ (fun _ H locs _ hP hD hS => ?_)
      refine W.eq (g2 := F0 m 16 ls [.int (iI (byF TB nn iv))]) rfl ?_
      refine x_bipush hx hb dX5_nextToken_16 (by decide) ?_
      refine x_icmp_ne (tgt := 34) hx hb (by omega) (by decide) dX5_nextToken_18 (by decide) (fun c_18 => ?_) (fun c_18 => ?_)
      · have e_f : skF TB nn 120 e0 = iv := by rw [← hk1, skF, if_neg (by omega)]
        refine lv_aload_n hx hb dX5_nextToken_34 rfl (lv_at hl 0 rfl) ?_
        refine lv_aload_n hx hb dX5_nextToken_35 rfl (lv_at hl 0 rfl) ?_
        refine va_get (D := D) (ci := 4) (v := .int (iI ((iv : Nat) : Int))) (C := RX5) (T := TX5) (N := 18) hx hb hts (iT_X5_nextToken_X5) hown hK hP 0 rfl rfl 14 (by decide) (hts (.fieldLink RX5 205 "WordSupperModel" "from" "I") (by decide +kernel)) (fun _ h9 => h9) rfl dX5_nextToken_36 ?_
        refine x_putI (D := D) (ty := .int) (C := RX5) (T := TX5) (N := 18) hx hb 4 hts (iT_X5_nextToken_X5) tyX5 tyX5_ok nmX5 hown hK hP hD hS 0 rfl rfl 15 (by decide) (hts (.fieldLink RX5 202 "WordSupperModel" "to" "I") (by decide +kernel)) (fun _ h9 => h9) rfl (by decide +kernel) rfl rfl (Nat.le_of_ble_eq_true rfl) (wRo r ik ((nn : Nat) : Int) (jk b0 b1 ct ((iv : Nat) : Int) ((iv : Nat) : Int) cv fa) ++ (wA cI (r 6) 120 TB)) (rfl) dX5_nextToken_39 (fun H locs hP hD hS => ?_)
        refine lv_aload_n hx hb dX5_nextToken_42 rfl (lv_at hl 0 rfl) ?_
        refine lv_aload_n hx hb dX5_nextToken_43 rfl (lv_at hl 0 rfl) ?_
        refine va_get (D := D) (ci := 4) (v := .int (iI ((iv : Nat) : Int))) (C := RX5) (T := TX5) (N := 18) hx hb hts (iT_X5_nextToken_X5) hown hK hP 0 rfl rfl 14 (by decide) (hts (.fieldLink RX5 205 "WordSupperModel" "from" "I") (by decide +kernel)) (fun _ h9 => h9) rfl dX5_nextToken_44 ?_
        have hb2 := by_c (i := iv) hTB hn9
        refine x_callV (As := [.int (iI ((iv : Nat) : Int))]) (rest := []) ⟨hx, hb, hml, hown, hts⟩ (kX5_byteAt r ik ((nn : Nat) : Int) b0 b1 ct ((iv : Nat) : Int) ((iv : Nat) : Int) cv fa TB iv nn rfl hn9 (by omega)) (cwV 1 hts gX5_nextToken_X5_byteAt rfl rfl rfl ykVX5_byteAt ⟨Nat.le_of_ble_eq_true rfl, Nat.le_of_ble_eq_true rfl⟩) hP hK hD hS 0 4 rfl rfl rfl [0, 1] rfl (by decide) (fun _ => rfl) (fun _ => wRo r ik ((nn : Nat) : Int) (jk b0 b1 ct ((iv : Nat) : Int) ((iv : Nat) : Int) cv fa) ++ (wA cI (r 6) 120 TB)) (fun _ => rfl) rfl hl.1 rfl (Nat.le_of_ble_eq_true rfl) dX5_nextToken_47 ⟨Nat.le_of_ble_eq_true rfl, Nat.le_of_ble_eq_true rfl⟩ (fun _ H locs _ hP hD hS => ?_)
        refine W.eq (g2 := F0 m 50 ls [.int (iI (byF TB nn iv))]) rfl ?_
        refine lv_istore_n (lv' := [(1, .int (iI (byF TB nn iv))), (0, .ref (r 0))]) hx hb dX5_nextToken_50 rfl hl (by decide) rfl (fun ls hl => ?_)
        refine lv_aload_n hx hb dX5_nextToken_51 rfl (lv_at hl 1 rfl) ?_
        refine lv_iload_n hx hb dX5_nextToken_52 rfl (lv_at hl 0 rfl) ?_
        refine x_if_ge (tgt := 60) hx hb (by omega) dX5_nextToken_53 (by decide) (fun c_53 => ?_) (fun c_53 => ?_)
        · refine lv_iload_n hx hb dX5_nextToken_60 rfl (lv_at hl 0 rfl) ?_
          refine x_callS (As := [.int (iI (byF TB nn iv))]) (rest := [.ref (r 0)]) ⟨hx, hb, hml, hown, hts⟩ (kX5_isLetter (byF TB nn iv) (by omega)) (va_cwS 1 hts gX5_nextToken_X5_isLetter rfl rfl rfl ykSX5_isLetter ⟨Nat.le_of_ble_eq_true rfl, Nat.le_of_ble_eq_true rfl⟩) hP hK hD hS [] rfl (by decide) (fun _ => rfl) (fun _ => wRo r ik ((nn : Nat) : Int) (jk b0 b1 ct ((iv : Nat) : Int) ((iv : Nat) : Int) cv fa) ++ (wA cI (r 6) 120 TB)) (fun _ => rfl) rfl hl.1 rfl (Nat.le_of_ble_eq_true rfl) dX5_nextToken_61 ⟨Nat.le_of_ble_eq_true rfl, Nat.le_of_ble_eq_true rfl⟩ (fun _ H locs _ hP hD hS => ?_)
          refine W.eq (g2 := F0 m 64 ls [.int (iI (b2 (decide (97 ≤ (byF TB nn iv) ∧ (byF TB nn iv) ≤ 122)))), .ref (r 0)]) rfl ?_
          refine x_ifb_eq (tgt := 71) hx hb dX5_nextToken_64 (by decide) (fun c_64 => ?_) (fun c_64 => ?_)
          · refine lv_iload_n hx hb dX5_nextToken_71 rfl (lv_at hl 0 rfl) ?_
            refine x_callS (As := [.int (iI (byF TB nn iv))]) (rest := [.ref (r 0)]) ⟨hx, hb, hml, hown, hts⟩ (kX5_isDigit (byF TB nn iv) (by omega)) (va_cwS 1 hts gX5_nextToken_X5_isDigit rfl rfl rfl ykSX5_isDigit ⟨Nat.le_of_ble_eq_true rfl, Nat.le_of_ble_eq_true rfl⟩) hP hK hD hS [] rfl (by decide) (fun _ => rfl) (fun _ => wRo r ik ((nn : Nat) : Int) (jk b0 b1 ct ((iv : Nat) : Int) ((iv : Nat) : Int) cv fa) ++ (wA cI (r 6) 120 TB)) (fun _ => rfl) rfl hl.1 rfl (Nat.le_of_ble_eq_true rfl) dX5_nextToken_72 ⟨Nat.le_of_ble_eq_true rfl, Nat.le_of_ble_eq_true rfl⟩ (fun _ H locs _ hP hD hS => ?_)
            refine W.eq (g2 := F0 m 75 ls [.int (iI (b2 (decide (48 ≤ (byF TB nn iv) ∧ (byF TB nn iv) ≤ 57)))), .ref (r 0)]) rfl ?_
            refine x_ifb_eq (tgt := 82) hx hb dX5_nextToken_75 (by decide) (fun c_75 => ?_) (fun c_75 => ?_)
            · refine lv_iload_n hx hb dX5_nextToken_82 rfl (lv_at hl 0 rfl) ?_
              refine x_bipush hx hb dX5_nextToken_83 (by decide) ?_
              refine x_icmp_ne (tgt := 92) hx hb (by omega) (by decide) dX5_nextToken_85 (by decide) (fun c_85 => ?_) (fun c_85 => ?_)
              · refine x_iconst hx hb dX5_nextToken_92 ?_
                refine x_putI (D := D) (ty := .int) (C := RX5) (T := TX5) (N := 18) hx hb 4 hts (iT_X5_nextToken_X5) tyX5 tyX5_ok nmX5 hown hK hP hD hS 0 rfl rfl 13 (by decide) (hts (.fieldLink RX5 217 "WordSupperModel" "token" "I") (by decide +kernel)) (fun _ h9 => h9) rfl (by decide +kernel) rfl rfl (Nat.le_of_ble_eq_true rfl) (wRo r ik ((nn : Nat) : Int) (jk b0 b1 4 ((iv : Nat) : Int) ((iv : Nat) : Int) cv fa) ++ (wA cI (r 6) 120 TB)) (rfl) dX5_nextToken_93 (fun H locs hP hD hS => ?_)
                refine lv_aload_n hx hb dX5_nextToken_96 rfl (lv_at hl 1 rfl) ?_
                refine x_iconst hx hb dX5_nextToken_97 ?_
                refine x_putI (D := D) (ty := .int) (C := RX5) (T := TX5) (N := 18) hx hb 4 hts (iT_X5_nextToken_X5) tyX5 tyX5_ok nmX5 hown hK hP hD hS 0 rfl rfl 16 (by decide) (hts (.fieldLink RX5 220 "WordSupperModel" "value" "I") (by decide +kernel)) (fun _ h9 => h9) rfl (by decide +kernel) rfl rfl (Nat.le_of_ble_eq_true rfl) (wRo r ik ((nn : Nat) : Int) (jk b0 b1 4 ((iv : Nat) : Int) ((iv : Nat) : Int) 0 fa) ++ (wA cI (r 6) 120 TB)) (rfl) dX5_nextToken_98 (fun H locs hP hD hS => ?_)
                refine lv_aload_n hx hb dX5_nextToken_101 rfl (lv_at hl 1 rfl) ?_
                refine va_get (D := D) (ci := 4) (v := .int (iI 4)) (C := RX5) (T := TX5) (N := 18) hx hb hts (iT_X5_nextToken_X5) hown hK hP 0 rfl rfl 13 (by decide) (hts (.fieldLink RX5 217 "WordSupperModel" "token" "I") (by decide +kernel)) (fun _ h9 => h9) rfl dX5_nextToken_102 ?_
                refine x_iconst hx hb dX5_nextToken_105 ?_
                refine x_icmp_ne (tgt := 136) hx hb (by decide) (by decide) dX5_nextToken_106 (by decide) (fun c_106 => ?_) (fun c_106 => ?_)
                · refine lv_aload_n hx hb dX5_nextToken_136 rfl (lv_at hl 1 rfl) ?_
                  refine va_get (D := D) (ci := 4) (v := .int (iI 4)) (C := RX5) (T := TX5) (N := 18) hx hb hts (iT_X5_nextToken_X5) hown hK hP 0 rfl rfl 13 (by decide) (hts (.fieldLink RX5 217 "WordSupperModel" "token" "I") (by decide +kernel)) (fun _ h9 => h9) rfl dX5_nextToken_137 ?_
                  refine x_iconst hx hb dX5_nextToken_140 ?_
                  refine x_icmp_ne (tgt := 211) hx hb (by decide) (by decide) dX5_nextToken_141 (by decide) (fun c_141 => ?_) (fun c_141 => ?_)
                  · refine lv_aload_n hx hb dX5_nextToken_211 rfl (lv_at hl 1 rfl) ?_
                    refine lv_dup hx hb dX5_nextToken_212 rfl ?_
                    refine va_get (D := D) (ci := 4) (v := .int (iI ((iv : Nat) : Int))) (C := RX5) (T := TX5) (N := 18) hx hb hts (iT_X5_nextToken_X5) hown hK hP 0 rfl rfl 15 (by decide) (hts (.fieldLink RX5 202 "WordSupperModel" "to" "I") (by decide +kernel)) (fun _ h9 => h9) rfl dX5_nextToken_213 ?_
                    refine lv_aload_n hx hb dX5_nextToken_216 rfl (lv_at hl 1 rfl) ?_
                    refine va_get (D := D) (ci := 4) (v := .int (iI 4)) (C := RX5) (T := TX5) (N := 18) hx hb hts (iT_X5_nextToken_X5) hown hK hP 0 rfl rfl 13 (by decide) (hts (.fieldLink RX5 217 "WordSupperModel" "token" "I") (by decide +kernel)) (fun _ h9 => h9) rfl dX5_nextToken_217 ?_
                    refine x_iconst hx hb dX5_nextToken_220 ?_
                    refine x_icmp_le (tgt := 228) hx hb (by decide) (by decide) dX5_nextToken_221 (by decide) (fun c_221 => ?_) (fun c_221 => ?_)
                    · exact absurd c_221 (by decide)
                    · refine x_iconst hx hb dX5_nextToken_224 ?_
                      refine lv_goto (tgt := 229) hx hb dX5_nextToken_225 (by decide) ?_
                      refine x_iadd hx hb dX5_nextToken_229 ?_
                      refine x_topi ((iv + 1 : Nat) : Int) (by omega) ?_
                      refine x_putI (D := D) (ty := .int) (C := RX5) (T := TX5) (N := 18) hx hb 4 hts (iT_X5_nextToken_X5) tyX5 tyX5_ok nmX5 hown hK hP hD hS 0 rfl rfl 15 (by decide) (hts (.fieldLink RX5 202 "WordSupperModel" "to" "I") (by decide +kernel)) (fun _ h9 => h9) rfl (by decide +kernel) rfl rfl (Nat.le_of_ble_eq_true rfl) (wRo r ik ((nn : Nat) : Int) (jk b0 b1 4 ((iv : Nat) : Int) ((iv + 1 : Nat) : Int) 0 fa) ++ (wA cI (r 6) 120 TB)) (rfl) dX5_nextToken_230 (fun H locs hP hD hS => ?_)
                      exact kend (4, ((iv : Nat) : Int), ((iv + 1 : Nat) : Int), 0) hP hS rfl (tr_of (ty_4 (d := 0) e_f (by omega) (by omega) (by omega) (by omega)) (fun q9 => by omega)) dX5_nextToken_233
                  · exact absurd c_141 (by decide)
                · exact absurd c_106 (by decide)
              · refine x_iconst hx hb dX5_nextToken_88 ?_
                refine lv_goto (tgt := 93) hx hb dX5_nextToken_89 (by decide) ?_
                refine x_putI (D := D) (ty := .int) (C := RX5) (T := TX5) (N := 18) hx hb 4 hts (iT_X5_nextToken_X5) tyX5 tyX5_ok nmX5 hown hK hP hD hS 0 rfl rfl 13 (by decide) (hts (.fieldLink RX5 217 "WordSupperModel" "token" "I") (by decide +kernel)) (fun _ h9 => h9) rfl (by decide +kernel) rfl rfl (Nat.le_of_ble_eq_true rfl) (wRo r ik ((nn : Nat) : Int) (jk b0 b1 3 ((iv : Nat) : Int) ((iv : Nat) : Int) cv fa) ++ (wA cI (r 6) 120 TB)) (rfl) dX5_nextToken_93 (fun H locs hP hD hS => ?_)
                refine lv_aload_n hx hb dX5_nextToken_96 rfl (lv_at hl 1 rfl) ?_
                refine x_iconst hx hb dX5_nextToken_97 ?_
                refine x_putI (D := D) (ty := .int) (C := RX5) (T := TX5) (N := 18) hx hb 4 hts (iT_X5_nextToken_X5) tyX5 tyX5_ok nmX5 hown hK hP hD hS 0 rfl rfl 16 (by decide) (hts (.fieldLink RX5 220 "WordSupperModel" "value" "I") (by decide +kernel)) (fun _ h9 => h9) rfl (by decide +kernel) rfl rfl (Nat.le_of_ble_eq_true rfl) (wRo r ik ((nn : Nat) : Int) (jk b0 b1 3 ((iv : Nat) : Int) ((iv : Nat) : Int) 0 fa) ++ (wA cI (r 6) 120 TB)) (rfl) dX5_nextToken_98 (fun H locs hP hD hS => ?_)
                refine lv_aload_n hx hb dX5_nextToken_101 rfl (lv_at hl 1 rfl) ?_
                refine va_get (D := D) (ci := 4) (v := .int (iI 3)) (C := RX5) (T := TX5) (N := 18) hx hb hts (iT_X5_nextToken_X5) hown hK hP 0 rfl rfl 13 (by decide) (hts (.fieldLink RX5 217 "WordSupperModel" "token" "I") (by decide +kernel)) (fun _ h9 => h9) rfl dX5_nextToken_102 ?_
                refine x_iconst hx hb dX5_nextToken_105 ?_
                refine x_icmp_ne (tgt := 136) hx hb (by decide) (by decide) dX5_nextToken_106 (by decide) (fun c_106 => ?_) (fun c_106 => ?_)
                · refine lv_aload_n hx hb dX5_nextToken_136 rfl (lv_at hl 1 rfl) ?_
                  refine va_get (D := D) (ci := 4) (v := .int (iI 3)) (C := RX5) (T := TX5) (N := 18) hx hb hts (iT_X5_nextToken_X5) hown hK hP 0 rfl rfl 13 (by decide) (hts (.fieldLink RX5 217 "WordSupperModel" "token" "I") (by decide +kernel)) (fun _ h9 => h9) rfl dX5_nextToken_137 ?_
                  refine x_iconst hx hb dX5_nextToken_140 ?_
                  refine x_icmp_ne (tgt := 211) hx hb (by decide) (by decide) dX5_nextToken_141 (by decide) (fun c_141 => ?_) (fun c_141 => ?_)
                  · refine lv_aload_n hx hb dX5_nextToken_211 rfl (lv_at hl 1 rfl) ?_
                    refine lv_dup hx hb dX5_nextToken_212 rfl ?_
                    refine va_get (D := D) (ci := 4) (v := .int (iI ((iv : Nat) : Int))) (C := RX5) (T := TX5) (N := 18) hx hb hts (iT_X5_nextToken_X5) hown hK hP 0 rfl rfl 15 (by decide) (hts (.fieldLink RX5 202 "WordSupperModel" "to" "I") (by decide +kernel)) (fun _ h9 => h9) rfl dX5_nextToken_213 ?_
                    refine lv_aload_n hx hb dX5_nextToken_216 rfl (lv_at hl 1 rfl) ?_
                    refine va_get (D := D) (ci := 4) (v := .int (iI 3)) (C := RX5) (T := TX5) (N := 18) hx hb hts (iT_X5_nextToken_X5) hown hK hP 0 rfl rfl 13 (by decide) (hts (.fieldLink RX5 217 "WordSupperModel" "token" "I") (by decide +kernel)) (fun _ h9 => h9) rfl dX5_nextToken_217 ?_
                    refine x_iconst hx hb dX5_nextToken_220 ?_
                    refine x_icmp_le (tgt := 228) hx hb (by decide) (by decide) dX5_nextToken_221 (by decide) (fun c_221 => ?_) (fun c_221 => ?_)
                    · exact absurd c_221 (by decide)
                    · refine x_iconst hx hb dX5_nextToken_224 ?_
                      refine lv_goto (tgt := 229) hx hb dX5_nextToken_225 (by decide) ?_
                      refine x_iadd hx hb dX5_nextToken_229 ?_
                      refine x_topi ((iv + 1 : Nat) : Int) (by omega) ?_
                      refine x_putI (D := D) (ty := .int) (C := RX5) (T := TX5) (N := 18) hx hb 4 hts (iT_X5_nextToken_X5) tyX5 tyX5_ok nmX5 hown hK hP hD hS 0 rfl rfl 15 (by decide) (hts (.fieldLink RX5 202 "WordSupperModel" "to" "I") (by decide +kernel)) (fun _ h9 => h9) rfl (by decide +kernel) rfl rfl (Nat.le_of_ble_eq_true rfl) (wRo r ik ((nn : Nat) : Int) (jk b0 b1 3 ((iv : Nat) : Int) ((iv + 1 : Nat) : Int) 0 fa) ++ (wA cI (r 6) 120 TB)) (rfl) dX5_nextToken_230 (fun H locs hP hD hS => ?_)
                      exact kend (3, ((iv : Nat) : Int), ((iv + 1 : Nat) : Int), 0) hP hS rfl (tr_of (ty_3 (d := 0) e_f (by omega) (by omega) (by omega) (by omega)) (fun q9 => by omega)) dX5_nextToken_233
                  · exact absurd c_141 (by decide)
                · exact absurd c_106 (by decide)
            · refine x_iconst hx hb dX5_nextToken_78 ?_
              refine lv_goto (tgt := 93) hx hb dX5_nextToken_79 (by decide) ?_
              refine x_putI (D := D) (ty := .int) (C := RX5) (T := TX5) (N := 18) hx hb 4 hts (iT_X5_nextToken_X5) tyX5 tyX5_ok nmX5 hown hK hP hD hS 0 rfl rfl 13 (by decide) (hts (.fieldLink RX5 217 "WordSupperModel" "token" "I") (by decide +kernel)) (fun _ h9 => h9) rfl (by decide +kernel) rfl rfl (Nat.le_of_ble_eq_true rfl) (wRo r ik ((nn : Nat) : Int) (jk b0 b1 2 ((iv : Nat) : Int) ((iv : Nat) : Int) cv fa) ++ (wA cI (r 6) 120 TB)) (rfl) dX5_nextToken_93 (fun H locs hP hD hS => ?_)
              refine lv_aload_n hx hb dX5_nextToken_96 rfl (lv_at hl 1 rfl) ?_
              refine x_iconst hx hb dX5_nextToken_97 ?_
              refine x_putI (D := D) (ty := .int) (C := RX5) (T := TX5) (N := 18) hx hb 4 hts (iT_X5_nextToken_X5) tyX5 tyX5_ok nmX5 hown hK hP hD hS 0 rfl rfl 16 (by decide) (hts (.fieldLink RX5 220 "WordSupperModel" "value" "I") (by decide +kernel)) (fun _ h9 => h9) rfl (by decide +kernel) rfl rfl (Nat.le_of_ble_eq_true rfl) (wRo r ik ((nn : Nat) : Int) (jk b0 b1 2 ((iv : Nat) : Int) ((iv : Nat) : Int) 0 fa) ++ (wA cI (r 6) 120 TB)) (rfl) dX5_nextToken_98 (fun H locs hP hD hS => ?_)
              refine lv_aload_n hx hb dX5_nextToken_101 rfl (lv_at hl 1 rfl) ?_
              refine va_get (D := D) (ci := 4) (v := .int (iI 2)) (C := RX5) (T := TX5) (N := 18) hx hb hts (iT_X5_nextToken_X5) hown hK hP 0 rfl rfl 13 (by decide) (hts (.fieldLink RX5 217 "WordSupperModel" "token" "I") (by decide +kernel)) (fun _ h9 => h9) rfl dX5_nextToken_102 ?_
              refine x_iconst hx hb dX5_nextToken_105 ?_
              refine x_icmp_ne (tgt := 136) hx hb (by decide) (by decide) dX5_nextToken_106 (by decide) (fun c_106 => ?_) (fun c_106 => ?_)
              · have L136 : ∀ (k4 t4 : Nat) (ev : Nat) (rv : Int) (H : Heap) (locs : List Loc) (ls : Array Slot), t4 + k4 = 120 → (dgF TB nn k4 ev (min 1000 rv) = dgF TB nn 120 iv 0) → (nn ≤ ev + k4) → (ev ≤ nn) → (0 ≤ rv ∧ rv ≤ 99999) → va_P D vwCl (wRo r ik ((nn : Nat) : Int) (jk b0 b1 2 ((iv : Nat) : Int) ((ev : Nat) : Int) rv fa) ++ (wA cI (r 6) 120 TB)) H → va_D A (wRo r ik ((nn : Nat) : Int) (jk b0 b1 2 ((iv : Nat) : Int) ((ev : Nat) : Int) rv fa) ++ (wA cI (r 6) 120 TB)) → va_S A s.heap H locs → lv_has ls 2 [(0, .ref (r 0))] → W pg l e { frames := 1, cells := 0, slots := 0, locals := 21 } s m args below meth c H locs 0 0 Q (F0 m 136 ls []) := by
                  intro k4
                  induction k4 with
                  | zero =>
                    intro t4 ev rv H locs ls hk4t hd1 hd2 hd3 hd4 hP hD hS hl
                    refine lv_aload_n hx hb dX5_nextToken_136 rfl (lv_at hl 0 rfl) ?_
                    refine va_get (D := D) (ci := 4) (v := .int (iI 2)) (C := RX5) (T := TX5) (N := 18) hx hb hts (iT_X5_nextToken_X5) hown hK hP 0 rfl rfl 13 (by decide) (hts (.fieldLink RX5 217 "WordSupperModel" "token" "I") (by decide +kernel)) (fun _ h9 => h9) rfl dX5_nextToken_137 ?_
                    refine x_iconst hx hb dX5_nextToken_140 ?_
                    refine x_icmp_ne (tgt := 211) hx hb (by decide) (by decide) dX5_nextToken_141 (by decide) (fun c_141 => ?_) (fun c_141 => ?_)
                    · exact absurd c_141 (by decide)
                    · refine lv_aload_n hx hb dX5_nextToken_144 rfl (lv_at hl 0 rfl) ?_
                      refine lv_aload_n hx hb dX5_nextToken_145 rfl (lv_at hl 0 rfl) ?_
                      refine va_get (D := D) (ci := 4) (v := .int (iI ((ev : Nat) : Int))) (C := RX5) (T := TX5) (N := 18) hx hb hts (iT_X5_nextToken_X5) hown hK hP 0 rfl rfl 15 (by decide) (hts (.fieldLink RX5 202 "WordSupperModel" "to" "I") (by decide +kernel)) (fun _ h9 => h9) rfl dX5_nextToken_146 ?_
                      have hb4 := by_c (i := ev) hTB hn9
                      refine x_callV (As := [.int (iI ((ev : Nat) : Int))]) (rest := []) ⟨hx, hb, hml, hown, hts⟩ (kX5_byteAt r ik ((nn : Nat) : Int) b0 b1 2 ((iv : Nat) : Int) ((ev : Nat) : Int) rv fa TB ev nn rfl hn9 (by omega)) (cwV 1 hts gX5_nextToken_X5_byteAt rfl rfl rfl ykVX5_byteAt ⟨Nat.le_of_ble_eq_true rfl, Nat.le_of_ble_eq_true rfl⟩) hP hK hD hS 0 4 rfl rfl rfl [0, 1] rfl (by decide) (fun _ => rfl) (fun _ => wRo r ik ((nn : Nat) : Int) (jk b0 b1 2 ((iv : Nat) : Int) ((ev : Nat) : Int) rv fa) ++ (wA cI (r 6) 120 TB)) (fun _ => rfl) rfl hl.1 rfl (Nat.le_of_ble_eq_true rfl) dX5_nextToken_149 ⟨Nat.le_of_ble_eq_true rfl, Nat.le_of_ble_eq_true rfl⟩ (fun _ H locs _ hP hD hS => ?_)
                      refine W.eq (g2 := F0 m 152 ls [.int (iI (byF TB nn ev))]) rfl ?_
                      refine x_callS (As := [.int (iI (byF TB nn ev))]) (rest := []) ⟨hx, hb, hml, hown, hts⟩ (kX5_isDigit (byF TB nn ev) (by omega)) (va_cwS 1 hts gX5_nextToken_X5_isDigit rfl rfl rfl ykSX5_isDigit ⟨Nat.le_of_ble_eq_true rfl, Nat.le_of_ble_eq_true rfl⟩) hP hK hD hS [] rfl (by decide) (fun _ => rfl) (fun _ => wRo r ik ((nn : Nat) : Int) (jk b0 b1 2 ((iv : Nat) : Int) ((ev : Nat) : Int) rv fa) ++ (wA cI (r 6) 120 TB)) (fun _ => rfl) rfl hl.1 rfl (Nat.le_of_ble_eq_true rfl) dX5_nextToken_152 ⟨Nat.le_of_ble_eq_true rfl, Nat.le_of_ble_eq_true rfl⟩ (fun _ H locs _ hP hD hS => ?_)
                      refine W.eq (g2 := F0 m 155 ls [.int (iI (b2 (decide (48 ≤ (byF TB nn ev) ∧ (byF TB nn ev) ≤ 57))))]) rfl ?_
                      refine x_ifb_eq (tgt := 211) hx hb dX5_nextToken_155 (by decide) (fun c_155 => ?_) (fun c_155 => ?_)
                      · refine lv_aload_n hx hb dX5_nextToken_211 rfl (lv_at hl 0 rfl) ?_
                        refine lv_dup hx hb dX5_nextToken_212 rfl ?_
                        refine va_get (D := D) (ci := 4) (v := .int (iI ((ev : Nat) : Int))) (C := RX5) (T := TX5) (N := 18) hx hb hts (iT_X5_nextToken_X5) hown hK hP 0 rfl rfl 15 (by decide) (hts (.fieldLink RX5 202 "WordSupperModel" "to" "I") (by decide +kernel)) (fun _ h9 => h9) rfl dX5_nextToken_213 ?_
                        refine lv_aload_n hx hb dX5_nextToken_216 rfl (lv_at hl 0 rfl) ?_
                        refine va_get (D := D) (ci := 4) (v := .int (iI 2)) (C := RX5) (T := TX5) (N := 18) hx hb hts (iT_X5_nextToken_X5) hown hK hP 0 rfl rfl 13 (by decide) (hts (.fieldLink RX5 217 "WordSupperModel" "token" "I") (by decide +kernel)) (fun _ h9 => h9) rfl dX5_nextToken_217 ?_
                        refine x_iconst hx hb dX5_nextToken_220 ?_
                        refine x_icmp_le (tgt := 228) hx hb (by decide) (by decide) dX5_nextToken_221 (by decide) (fun c_221 => ?_) (fun c_221 => ?_)
                        · refine x_iconst hx hb dX5_nextToken_228 ?_
                          refine x_iadd hx hb dX5_nextToken_229 ?_
                          refine x_topi ((ev + 0 : Nat) : Int) (by omega) ?_
                          refine x_putI (D := D) (ty := .int) (C := RX5) (T := TX5) (N := 18) hx hb 4 hts (iT_X5_nextToken_X5) tyX5 tyX5_ok nmX5 hown hK hP hD hS 0 rfl rfl 15 (by decide) (hts (.fieldLink RX5 202 "WordSupperModel" "to" "I") (by decide +kernel)) (fun _ h9 => h9) rfl (by decide +kernel) rfl rfl (Nat.le_of_ble_eq_true rfl) (wRo r ik ((nn : Nat) : Int) (jk b0 b1 2 ((iv : Nat) : Int) ((ev + 0 : Nat) : Int) rv fa) ++ (wA cI (r 6) 120 TB)) (rfl) dX5_nextToken_230 (fun H locs hP hD hS => ?_)
                          have e_d : dgF TB nn 120 iv 0 = (ev, min 1000 rv) := hd1.symm
                          exact kend (2, ((iv : Nat) : Int), ((ev + 0 : Nat) : Int), rv) hP hS rfl (tr_of (ty_2 e_f (by omega) (by omega) (by omega) e_d) (fun q9 => by exact ⟨rfl, hd4⟩)) dX5_nextToken_233
                        · exact absurd c_221 (by decide)
                      · exfalso; omega
                  | succ k4 ih4 =>
                    intro t4 ev rv H locs ls hk4t hd1 hd2 hd3 hd4 hP hD hS hl
                    refine lv_aload_n hx hb dX5_nextToken_136 rfl (lv_at hl 0 rfl) ?_
                    refine va_get (D := D) (ci := 4) (v := .int (iI 2)) (C := RX5) (T := TX5) (N := 18) hx hb hts (iT_X5_nextToken_X5) hown hK hP 0 rfl rfl 13 (by decide) (hts (.fieldLink RX5 217 "WordSupperModel" "token" "I") (by decide +kernel)) (fun _ h9 => h9) rfl dX5_nextToken_137 ?_
                    refine x_iconst hx hb dX5_nextToken_140 ?_
                    refine x_icmp_ne (tgt := 211) hx hb (by decide) (by decide) dX5_nextToken_141 (by decide) (fun c_141 => ?_) (fun c_141 => ?_)
                    · exact absurd c_141 (by decide)
                    · refine lv_aload_n hx hb dX5_nextToken_144 rfl (lv_at hl 0 rfl) ?_
                      refine lv_aload_n hx hb dX5_nextToken_145 rfl (lv_at hl 0 rfl) ?_
                      refine va_get (D := D) (ci := 4) (v := .int (iI ((ev : Nat) : Int))) (C := RX5) (T := TX5) (N := 18) hx hb hts (iT_X5_nextToken_X5) hown hK hP 0 rfl rfl 15 (by decide) (hts (.fieldLink RX5 202 "WordSupperModel" "to" "I") (by decide +kernel)) (fun _ h9 => h9) rfl dX5_nextToken_146 ?_
                      have hb4 := by_c (i := ev) hTB hn9
                      refine x_callV (As := [.int (iI ((ev : Nat) : Int))]) (rest := []) ⟨hx, hb, hml, hown, hts⟩ (kX5_byteAt r ik ((nn : Nat) : Int) b0 b1 2 ((iv : Nat) : Int) ((ev : Nat) : Int) rv fa TB ev nn rfl hn9 (by omega)) (cwV 1 hts gX5_nextToken_X5_byteAt rfl rfl rfl ykVX5_byteAt ⟨Nat.le_of_ble_eq_true rfl, Nat.le_of_ble_eq_true rfl⟩) hP hK hD hS 0 4 rfl rfl rfl [0, 1] rfl (by decide) (fun _ => rfl) (fun _ => wRo r ik ((nn : Nat) : Int) (jk b0 b1 2 ((iv : Nat) : Int) ((ev : Nat) : Int) rv fa) ++ (wA cI (r 6) 120 TB)) (fun _ => rfl) rfl hl.1 rfl (Nat.le_of_ble_eq_true rfl) dX5_nextToken_149 ⟨Nat.le_of_ble_eq_true rfl, Nat.le_of_ble_eq_true rfl⟩ (fun _ H locs _ hP hD hS => ?_)
                      refine W.eq (g2 := F0 m 152 ls [.int (iI (byF TB nn ev))]) rfl ?_
                      refine x_callS (As := [.int (iI (byF TB nn ev))]) (rest := []) ⟨hx, hb, hml, hown, hts⟩ (kX5_isDigit (byF TB nn ev) (by omega)) (va_cwS 1 hts gX5_nextToken_X5_isDigit rfl rfl rfl ykSX5_isDigit ⟨Nat.le_of_ble_eq_true rfl, Nat.le_of_ble_eq_true rfl⟩) hP hK hD hS [] rfl (by decide) (fun _ => rfl) (fun _ => wRo r ik ((nn : Nat) : Int) (jk b0 b1 2 ((iv : Nat) : Int) ((ev : Nat) : Int) rv fa) ++ (wA cI (r 6) 120 TB)) (fun _ => rfl) rfl hl.1 rfl (Nat.le_of_ble_eq_true rfl) dX5_nextToken_152 ⟨Nat.le_of_ble_eq_true rfl, Nat.le_of_ble_eq_true rfl⟩ (fun _ H locs _ hP hD hS => ?_)
                      refine W.eq (g2 := F0 m 155 ls [.int (iI (b2 (decide (48 ≤ (byF TB nn ev) ∧ (byF TB nn ev) ≤ 57))))]) rfl ?_
                      refine x_ifb_eq (tgt := 211) hx hb dX5_nextToken_155 (by decide) (fun c_155 => ?_) (fun c_155 => ?_)
                      · refine lv_aload_n hx hb dX5_nextToken_211 rfl (lv_at hl 0 rfl) ?_
                        refine lv_dup hx hb dX5_nextToken_212 rfl ?_
                        refine va_get (D := D) (ci := 4) (v := .int (iI ((ev : Nat) : Int))) (C := RX5) (T := TX5) (N := 18) hx hb hts (iT_X5_nextToken_X5) hown hK hP 0 rfl rfl 15 (by decide) (hts (.fieldLink RX5 202 "WordSupperModel" "to" "I") (by decide +kernel)) (fun _ h9 => h9) rfl dX5_nextToken_213 ?_
                        refine lv_aload_n hx hb dX5_nextToken_216 rfl (lv_at hl 0 rfl) ?_
                        refine va_get (D := D) (ci := 4) (v := .int (iI 2)) (C := RX5) (T := TX5) (N := 18) hx hb hts (iT_X5_nextToken_X5) hown hK hP 0 rfl rfl 13 (by decide) (hts (.fieldLink RX5 217 "WordSupperModel" "token" "I") (by decide +kernel)) (fun _ h9 => h9) rfl dX5_nextToken_217 ?_
                        refine x_iconst hx hb dX5_nextToken_220 ?_
                        refine x_icmp_le (tgt := 228) hx hb (by decide) (by decide) dX5_nextToken_221 (by decide) (fun c_221 => ?_) (fun c_221 => ?_)
                        · refine x_iconst hx hb dX5_nextToken_228 ?_
                          refine x_iadd hx hb dX5_nextToken_229 ?_
                          refine x_topi ((ev + 0 : Nat) : Int) (by omega) ?_
                          refine x_putI (D := D) (ty := .int) (C := RX5) (T := TX5) (N := 18) hx hb 4 hts (iT_X5_nextToken_X5) tyX5 tyX5_ok nmX5 hown hK hP hD hS 0 rfl rfl 15 (by decide) (hts (.fieldLink RX5 202 "WordSupperModel" "to" "I") (by decide +kernel)) (fun _ h9 => h9) rfl (by decide +kernel) rfl rfl (Nat.le_of_ble_eq_true rfl) (wRo r ik ((nn : Nat) : Int) (jk b0 b1 2 ((iv : Nat) : Int) ((ev + 0 : Nat) : Int) rv fa) ++ (wA cI (r 6) 120 TB)) (rfl) dX5_nextToken_230 (fun H locs hP hD hS => ?_)
                          have e_d : dgF TB nn 120 iv 0 = (ev, min 1000 rv) := by rw [← hd1, dgF, if_neg (by omega)]
                          exact kend (2, ((iv : Nat) : Int), ((ev + 0 : Nat) : Int), rv) hP hS rfl (tr_of (ty_2 e_f (by omega) (by omega) (by omega) e_d) (fun q9 => by exact ⟨rfl, hd4⟩)) dX5_nextToken_233
                        · exact absurd c_221 (by decide)
                      · refine lv_aload_n hx hb dX5_nextToken_158 rfl (lv_at hl 0 rfl) ?_
                        refine lv_aload_n hx hb dX5_nextToken_159 rfl (lv_at hl 0 rfl) ?_
                        refine va_get (D := D) (ci := 4) (v := .int (iI rv)) (C := RX5) (T := TX5) (N := 18) hx hb hts (iT_X5_nextToken_X5) hown hK hP 0 rfl rfl 16 (by decide) (hts (.fieldLink RX5 220 "WordSupperModel" "value" "I") (by decide +kernel)) (fun _ h9 => h9) rfl dX5_nextToken_160 ?_
                        refine x_sipush hx hb dX5_nextToken_163 (by decide) ?_
                        refine x_icmp_le (tgt := 176) hx hb (by omega) (by decide) dX5_nextToken_166 (by decide) (fun c_166 => ?_) (fun c_166 => ?_)
                        · refine x_bipush hx hb dX5_nextToken_176 (by decide) ?_
                          refine lv_aload_n hx hb dX5_nextToken_178 rfl (lv_at hl 0 rfl) ?_
                          refine va_get (D := D) (ci := 4) (v := .int (iI rv)) (C := RX5) (T := TX5) (N := 18) hx hb hts (iT_X5_nextToken_X5) hown hK hP 0 rfl rfl 16 (by decide) (hts (.fieldLink RX5 220 "WordSupperModel" "value" "I") (by decide +kernel)) (fun _ h9 => h9) rfl dX5_nextToken_179 ?_
                          refine x_imul hx hb dX5_nextToken_182 ?_
                          refine lv_aload_n hx hb dX5_nextToken_183 rfl (lv_at hl 0 rfl) ?_
                          refine lv_aload_n hx hb dX5_nextToken_184 rfl (lv_at hl 0 rfl) ?_
                          refine va_get (D := D) (ci := 4) (v := .int (iI ((ev : Nat) : Int))) (C := RX5) (T := TX5) (N := 18) hx hb hts (iT_X5_nextToken_X5) hown hK hP 0 rfl rfl 15 (by decide) (hts (.fieldLink RX5 202 "WordSupperModel" "to" "I") (by decide +kernel)) (fun _ h9 => h9) rfl dX5_nextToken_185 ?_
                          refine x_callV (As := [.int (iI ((ev : Nat) : Int))]) (rest := [.int (iI (10 * rv)), .ref (r 0)]) ⟨hx, hb, hml, hown, hts⟩ (kX5_byteAt r ik ((nn : Nat) : Int) b0 b1 2 ((iv : Nat) : Int) ((ev : Nat) : Int) rv fa TB ev nn rfl hn9 (by omega)) (cwV 1 hts gX5_nextToken_X5_byteAt rfl rfl rfl ykVX5_byteAt ⟨Nat.le_of_ble_eq_true rfl, Nat.le_of_ble_eq_true rfl⟩) hP hK hD hS 0 4 rfl rfl rfl [0, 1] rfl (by decide) (fun _ => rfl) (fun _ => wRo r ik ((nn : Nat) : Int) (jk b0 b1 2 ((iv : Nat) : Int) ((ev : Nat) : Int) rv fa) ++ (wA cI (r 6) 120 TB)) (fun _ => rfl) rfl hl.1 rfl (Nat.le_of_ble_eq_true rfl) dX5_nextToken_188 ⟨Nat.le_of_ble_eq_true rfl, Nat.le_of_ble_eq_true rfl⟩ (fun _ H locs _ hP hD hS => ?_)
                          refine W.eq (g2 := F0 m 191 ls [.int (iI (byF TB nn ev)), .int (iI (10 * rv)), .ref (r 0)]) rfl ?_
                          refine x_iadd hx hb dX5_nextToken_191 ?_
                          refine x_bipush hx hb dX5_nextToken_192 (by decide) ?_
                          refine x_isub hx hb dX5_nextToken_194 ?_
                          refine x_topi (10 * rv + TB ev - 48) (by omega) ?_
                          refine x_putI (D := D) (ty := .int) (C := RX5) (T := TX5) (N := 18) hx hb 4 hts (iT_X5_nextToken_X5) tyX5 tyX5_ok nmX5 hown hK hP hD hS 0 rfl rfl 16 (by decide) (hts (.fieldLink RX5 220 "WordSupperModel" "value" "I") (by decide +kernel)) (fun _ h9 => h9) rfl (by decide +kernel) rfl rfl (Nat.le_of_ble_eq_true rfl) (wRo r ik ((nn : Nat) : Int) (jk b0 b1 2 ((iv : Nat) : Int) ((ev : Nat) : Int) (10 * rv + TB ev - 48) fa) ++ (wA cI (r 6) 120 TB)) (rfl) dX5_nextToken_195 (fun H locs hP hD hS => ?_)
                          refine lv_aload_n hx hb dX5_nextToken_198 rfl (lv_at hl 0 rfl) ?_
                          refine lv_dup hx hb dX5_nextToken_199 rfl ?_
                          refine va_get (D := D) (ci := 4) (v := .int (iI ((ev : Nat) : Int))) (C := RX5) (T := TX5) (N := 18) hx hb hts (iT_X5_nextToken_X5) hown hK hP 0 rfl rfl 15 (by decide) (hts (.fieldLink RX5 202 "WordSupperModel" "to" "I") (by decide +kernel)) (fun _ h9 => h9) rfl dX5_nextToken_200 ?_
                          refine x_iconst hx hb dX5_nextToken_203 ?_
                          refine x_iadd hx hb dX5_nextToken_204 ?_
                          refine x_topi ((ev + 1 : Nat) : Int) (by omega) ?_
                          refine x_putI (D := D) (ty := .int) (C := RX5) (T := TX5) (N := 18) hx hb 4 hts (iT_X5_nextToken_X5) tyX5 tyX5_ok nmX5 hown hK hP hD hS 0 rfl rfl 15 (by decide) (hts (.fieldLink RX5 202 "WordSupperModel" "to" "I") (by decide +kernel)) (fun _ h9 => h9) rfl (by decide +kernel) rfl rfl (Nat.le_of_ble_eq_true rfl) (wRo r ik ((nn : Nat) : Int) (jk b0 b1 2 ((iv : Nat) : Int) ((ev + 1 : Nat) : Int) (10 * rv + TB ev - 48) fa) ++ (wA cI (r 6) 120 TB)) (rfl) dX5_nextToken_205 (fun H locs hP hD hS => ?_)
                          refine lv_goto (tgt := 136) hx hb dX5_nextToken_208 (by decide) ?_
                          exact ih4 (t4 + 1) (ev + 1) (10 * rv + TB ev - 48) _ _ _ (by omega) (by rw [← hd1, dgF, if_pos (by omega), show min 1000 (min 1000 rv * 10 + TB ev - 48) = min 1000 (10 * rv + TB ev - 48) by omega]) (by omega) (by omega) (by omega) hP hD hS (lv_sub hl [0] rfl)
                        · refine lv_aload_n hx hb dX5_nextToken_169 rfl (lv_at hl 0 rfl) ?_
                          refine va_get (D := D) (ci := 4) (v := .int (iI rv)) (C := RX5) (T := TX5) (N := 18) hx hb hts (iT_X5_nextToken_X5) hown hK hP 0 rfl rfl 16 (by decide) (hts (.fieldLink RX5 220 "WordSupperModel" "value" "I") (by decide +kernel)) (fun _ h9 => h9) rfl dX5_nextToken_170 ?_
                          refine lv_goto (tgt := 195) hx hb dX5_nextToken_173 (by decide) ?_
                          refine x_putI (D := D) (ty := .int) (C := RX5) (T := TX5) (N := 18) hx hb 4 hts (iT_X5_nextToken_X5) tyX5 tyX5_ok nmX5 hown hK hP hD hS 0 rfl rfl 16 (by decide) (hts (.fieldLink RX5 220 "WordSupperModel" "value" "I") (by decide +kernel)) (fun _ h9 => h9) rfl (by decide +kernel) rfl rfl (Nat.le_of_ble_eq_true rfl) (wRo r ik ((nn : Nat) : Int) (jk b0 b1 2 ((iv : Nat) : Int) ((ev : Nat) : Int) rv fa) ++ (wA cI (r 6) 120 TB)) (rfl) dX5_nextToken_195 (fun H locs hP hD hS => ?_)
                          refine lv_aload_n hx hb dX5_nextToken_198 rfl (lv_at hl 0 rfl) ?_
                          refine lv_dup hx hb dX5_nextToken_199 rfl ?_
                          refine va_get (D := D) (ci := 4) (v := .int (iI ((ev : Nat) : Int))) (C := RX5) (T := TX5) (N := 18) hx hb hts (iT_X5_nextToken_X5) hown hK hP 0 rfl rfl 15 (by decide) (hts (.fieldLink RX5 202 "WordSupperModel" "to" "I") (by decide +kernel)) (fun _ h9 => h9) rfl dX5_nextToken_200 ?_
                          refine x_iconst hx hb dX5_nextToken_203 ?_
                          refine x_iadd hx hb dX5_nextToken_204 ?_
                          refine x_topi ((ev + 1 : Nat) : Int) (by omega) ?_
                          refine x_putI (D := D) (ty := .int) (C := RX5) (T := TX5) (N := 18) hx hb 4 hts (iT_X5_nextToken_X5) tyX5 tyX5_ok nmX5 hown hK hP hD hS 0 rfl rfl 15 (by decide) (hts (.fieldLink RX5 202 "WordSupperModel" "to" "I") (by decide +kernel)) (fun _ h9 => h9) rfl (by decide +kernel) rfl rfl (Nat.le_of_ble_eq_true rfl) (wRo r ik ((nn : Nat) : Int) (jk b0 b1 2 ((iv : Nat) : Int) ((ev + 1 : Nat) : Int) rv fa) ++ (wA cI (r 6) 120 TB)) (rfl) dX5_nextToken_205 (fun H locs hP hD hS => ?_)
                          refine lv_goto (tgt := 136) hx hb dX5_nextToken_208 (by decide) ?_
                          exact ih4 (t4 + 1) (ev + 1) rv _ _ _ (by omega) (by rw [← hd1, dgF, if_pos (by omega), show min 1000 (min 1000 rv * 10 + TB ev - 48) = min 1000 (rv) by omega]) (by omega) (by omega) (by omega) hP hD hS (lv_sub hl [0] rfl)
                exact L136 120 0 iv 0 _ _ _ (by omega) rfl (by omega) (by omega) (by decide) hP hD hS (lv_sub hl [1] rfl)
              · exact absurd c_106 (by decide)
          · refine x_iconst hx hb dX5_nextToken_67 ?_
            refine lv_goto (tgt := 93) hx hb dX5_nextToken_68 (by decide) ?_
            refine x_putI (D := D) (ty := .int) (C := RX5) (T := TX5) (N := 18) hx hb 4 hts (iT_X5_nextToken_X5) tyX5 tyX5_ok nmX5 hown hK hP hD hS 0 rfl rfl 13 (by decide) (hts (.fieldLink RX5 217 "WordSupperModel" "token" "I") (by decide +kernel)) (fun _ h9 => h9) rfl (by decide +kernel) rfl rfl (Nat.le_of_ble_eq_true rfl) (wRo r ik ((nn : Nat) : Int) (jk b0 b1 1 ((iv : Nat) : Int) ((iv : Nat) : Int) cv fa) ++ (wA cI (r 6) 120 TB)) (rfl) dX5_nextToken_93 (fun H locs hP hD hS => ?_)
            refine lv_aload_n hx hb dX5_nextToken_96 rfl (lv_at hl 1 rfl) ?_
            refine x_iconst hx hb dX5_nextToken_97 ?_
            refine x_putI (D := D) (ty := .int) (C := RX5) (T := TX5) (N := 18) hx hb 4 hts (iT_X5_nextToken_X5) tyX5 tyX5_ok nmX5 hown hK hP hD hS 0 rfl rfl 16 (by decide) (hts (.fieldLink RX5 220 "WordSupperModel" "value" "I") (by decide +kernel)) (fun _ h9 => h9) rfl (by decide +kernel) rfl rfl (Nat.le_of_ble_eq_true rfl) (wRo r ik ((nn : Nat) : Int) (jk b0 b1 1 ((iv : Nat) : Int) ((iv : Nat) : Int) 0 fa) ++ (wA cI (r 6) 120 TB)) (rfl) dX5_nextToken_98 (fun H locs hP hD hS => ?_)
            have L101 : ∀ (k3 t3 : Nat) (ev : Nat) (H : Heap) (locs : List Loc) (ls : Array Slot), t3 + k3 = 120 → (leF TB nn k3 ev = leF TB nn 120 iv) → (nn ≤ ev + k3) → (ev ≤ nn) → va_P D vwCl (wRo r ik ((nn : Nat) : Int) (jk b0 b1 1 ((iv : Nat) : Int) ((ev : Nat) : Int) 0 fa) ++ (wA cI (r 6) 120 TB)) H → va_D A (wRo r ik ((nn : Nat) : Int) (jk b0 b1 1 ((iv : Nat) : Int) ((ev : Nat) : Int) 0 fa) ++ (wA cI (r 6) 120 TB)) → va_S A s.heap H locs → lv_has ls 2 [(0, .ref (r 0))] → W pg l e { frames := 1, cells := 0, slots := 0, locals := 21 } s m args below meth c H locs 0 0 Q (F0 m 101 ls []) := by
              intro k3
              induction k3 with
              | zero =>
                intro t3 ev H locs ls hk3t hl1 hl2 hl3 hP hD hS hl
                refine lv_aload_n hx hb dX5_nextToken_101 rfl (lv_at hl 0 rfl) ?_
                refine va_get (D := D) (ci := 4) (v := .int (iI 1)) (C := RX5) (T := TX5) (N := 18) hx hb hts (iT_X5_nextToken_X5) hown hK hP 0 rfl rfl 13 (by decide) (hts (.fieldLink RX5 217 "WordSupperModel" "token" "I") (by decide +kernel)) (fun _ h9 => h9) rfl dX5_nextToken_102 ?_
                refine x_iconst hx hb dX5_nextToken_105 ?_
                refine x_icmp_ne (tgt := 136) hx hb (by decide) (by decide) dX5_nextToken_106 (by decide) (fun c_106 => ?_) (fun c_106 => ?_)
                · exact absurd c_106 (by decide)
                · refine lv_aload_n hx hb dX5_nextToken_109 rfl (lv_at hl 0 rfl) ?_
                  refine lv_aload_n hx hb dX5_nextToken_110 rfl (lv_at hl 0 rfl) ?_
                  refine va_get (D := D) (ci := 4) (v := .int (iI ((ev : Nat) : Int))) (C := RX5) (T := TX5) (N := 18) hx hb hts (iT_X5_nextToken_X5) hown hK hP 0 rfl rfl 15 (by decide) (hts (.fieldLink RX5 202 "WordSupperModel" "to" "I") (by decide +kernel)) (fun _ h9 => h9) rfl dX5_nextToken_111 ?_
                  have hb3 := by_c (i := ev) hTB hn9
                  refine x_callV (As := [.int (iI ((ev : Nat) : Int))]) (rest := []) ⟨hx, hb, hml, hown, hts⟩ (kX5_byteAt r ik ((nn : Nat) : Int) b0 b1 1 ((iv : Nat) : Int) ((ev : Nat) : Int) 0 fa TB ev nn rfl hn9 (by omega)) (cwV 1 hts gX5_nextToken_X5_byteAt rfl rfl rfl ykVX5_byteAt ⟨Nat.le_of_ble_eq_true rfl, Nat.le_of_ble_eq_true rfl⟩) hP hK hD hS 0 4 rfl rfl rfl [0, 1] rfl (by decide) (fun _ => rfl) (fun _ => wRo r ik ((nn : Nat) : Int) (jk b0 b1 1 ((iv : Nat) : Int) ((ev : Nat) : Int) 0 fa) ++ (wA cI (r 6) 120 TB)) (fun _ => rfl) rfl hl.1 rfl (Nat.le_of_ble_eq_true rfl) dX5_nextToken_114 ⟨Nat.le_of_ble_eq_true rfl, Nat.le_of_ble_eq_true rfl⟩ (fun _ H locs _ hP hD hS => ?_)
                  refine W.eq (g2 := F0 m 117 ls [.int (iI (byF TB nn ev))]) rfl ?_
                  refine x_callS (As := [.int (iI (byF TB nn ev))]) (rest := []) ⟨hx, hb, hml, hown, hts⟩ (kX5_isLetter (byF TB nn ev) (by omega)) (va_cwS 1 hts gX5_nextToken_X5_isLetter rfl rfl rfl ykSX5_isLetter ⟨Nat.le_of_ble_eq_true rfl, Nat.le_of_ble_eq_true rfl⟩) hP hK hD hS [] rfl (by decide) (fun _ => rfl) (fun _ => wRo r ik ((nn : Nat) : Int) (jk b0 b1 1 ((iv : Nat) : Int) ((ev : Nat) : Int) 0 fa) ++ (wA cI (r 6) 120 TB)) (fun _ => rfl) rfl hl.1 rfl (Nat.le_of_ble_eq_true rfl) dX5_nextToken_117 ⟨Nat.le_of_ble_eq_true rfl, Nat.le_of_ble_eq_true rfl⟩ (fun _ H locs _ hP hD hS => ?_)
                  refine W.eq (g2 := F0 m 120 ls [.int (iI (b2 (decide (97 ≤ (byF TB nn ev) ∧ (byF TB nn ev) ≤ 122))))]) rfl ?_
                  refine x_ifb_eq (tgt := 136) hx hb dX5_nextToken_120 (by decide) (fun c_120 => ?_) (fun c_120 => ?_)
                  · refine lv_aload_n hx hb dX5_nextToken_136 rfl (lv_at hl 0 rfl) ?_
                    refine va_get (D := D) (ci := 4) (v := .int (iI 1)) (C := RX5) (T := TX5) (N := 18) hx hb hts (iT_X5_nextToken_X5) hown hK hP 0 rfl rfl 13 (by decide) (hts (.fieldLink RX5 217 "WordSupperModel" "token" "I") (by decide +kernel)) (fun _ h9 => h9) rfl dX5_nextToken_137 ?_
                    refine x_iconst hx hb dX5_nextToken_140 ?_
                    refine x_icmp_ne (tgt := 211) hx hb (by decide) (by decide) dX5_nextToken_141 (by decide) (fun c_141 => ?_) (fun c_141 => ?_)
                    · refine lv_aload_n hx hb dX5_nextToken_211 rfl (lv_at hl 0 rfl) ?_
                      refine lv_dup hx hb dX5_nextToken_212 rfl ?_
                      refine va_get (D := D) (ci := 4) (v := .int (iI ((ev : Nat) : Int))) (C := RX5) (T := TX5) (N := 18) hx hb hts (iT_X5_nextToken_X5) hown hK hP 0 rfl rfl 15 (by decide) (hts (.fieldLink RX5 202 "WordSupperModel" "to" "I") (by decide +kernel)) (fun _ h9 => h9) rfl dX5_nextToken_213 ?_
                      refine lv_aload_n hx hb dX5_nextToken_216 rfl (lv_at hl 0 rfl) ?_
                      refine va_get (D := D) (ci := 4) (v := .int (iI 1)) (C := RX5) (T := TX5) (N := 18) hx hb hts (iT_X5_nextToken_X5) hown hK hP 0 rfl rfl 13 (by decide) (hts (.fieldLink RX5 217 "WordSupperModel" "token" "I") (by decide +kernel)) (fun _ h9 => h9) rfl dX5_nextToken_217 ?_
                      refine x_iconst hx hb dX5_nextToken_220 ?_
                      refine x_icmp_le (tgt := 228) hx hb (by decide) (by decide) dX5_nextToken_221 (by decide) (fun c_221 => ?_) (fun c_221 => ?_)
                      · refine x_iconst hx hb dX5_nextToken_228 ?_
                        refine x_iadd hx hb dX5_nextToken_229 ?_
                        refine x_topi ((ev + 0 : Nat) : Int) (by omega) ?_
                        refine x_putI (D := D) (ty := .int) (C := RX5) (T := TX5) (N := 18) hx hb 4 hts (iT_X5_nextToken_X5) tyX5 tyX5_ok nmX5 hown hK hP hD hS 0 rfl rfl 15 (by decide) (hts (.fieldLink RX5 202 "WordSupperModel" "to" "I") (by decide +kernel)) (fun _ h9 => h9) rfl (by decide +kernel) rfl rfl (Nat.le_of_ble_eq_true rfl) (wRo r ik ((nn : Nat) : Int) (jk b0 b1 1 ((iv : Nat) : Int) ((ev + 0 : Nat) : Int) 0 fa) ++ (wA cI (r 6) 120 TB)) (rfl) dX5_nextToken_230 (fun H locs hP hD hS => ?_)
                        have e_l : leF TB nn 120 iv = ev := hl1.symm
                        exact kend (1, ((iv : Nat) : Int), ((ev + 0 : Nat) : Int), 0) hP hS rfl (tr_of (ty_1 (d := 0) e_f (by omega) (by omega) e_l) (fun q9 => by omega)) dX5_nextToken_233
                      · exact absurd c_221 (by decide)
                    · exact absurd c_141 (by decide)
                  · exfalso; omega
              | succ k3 ih3 =>
                intro t3 ev H locs ls hk3t hl1 hl2 hl3 hP hD hS hl
                refine lv_aload_n hx hb dX5_nextToken_101 rfl (lv_at hl 0 rfl) ?_
                refine va_get (D := D) (ci := 4) (v := .int (iI 1)) (C := RX5) (T := TX5) (N := 18) hx hb hts (iT_X5_nextToken_X5) hown hK hP 0 rfl rfl 13 (by decide) (hts (.fieldLink RX5 217 "WordSupperModel" "token" "I") (by decide +kernel)) (fun _ h9 => h9) rfl dX5_nextToken_102 ?_
                refine x_iconst hx hb dX5_nextToken_105 ?_
                refine x_icmp_ne (tgt := 136) hx hb (by decide) (by decide) dX5_nextToken_106 (by decide) (fun c_106 => ?_) (fun c_106 => ?_)
                · exact absurd c_106 (by decide)
                · refine lv_aload_n hx hb dX5_nextToken_109 rfl (lv_at hl 0 rfl) ?_
                  refine lv_aload_n hx hb dX5_nextToken_110 rfl (lv_at hl 0 rfl) ?_
                  refine va_get (D := D) (ci := 4) (v := .int (iI ((ev : Nat) : Int))) (C := RX5) (T := TX5) (N := 18) hx hb hts (iT_X5_nextToken_X5) hown hK hP 0 rfl rfl 15 (by decide) (hts (.fieldLink RX5 202 "WordSupperModel" "to" "I") (by decide +kernel)) (fun _ h9 => h9) rfl dX5_nextToken_111 ?_
                  have hb3 := by_c (i := ev) hTB hn9
                  refine x_callV (As := [.int (iI ((ev : Nat) : Int))]) (rest := []) ⟨hx, hb, hml, hown, hts⟩ (kX5_byteAt r ik ((nn : Nat) : Int) b0 b1 1 ((iv : Nat) : Int) ((ev : Nat) : Int) 0 fa TB ev nn rfl hn9 (by omega)) (cwV 1 hts gX5_nextToken_X5_byteAt rfl rfl rfl ykVX5_byteAt ⟨Nat.le_of_ble_eq_true rfl, Nat.le_of_ble_eq_true rfl⟩) hP hK hD hS 0 4 rfl rfl rfl [0, 1] rfl (by decide) (fun _ => rfl) (fun _ => wRo r ik ((nn : Nat) : Int) (jk b0 b1 1 ((iv : Nat) : Int) ((ev : Nat) : Int) 0 fa) ++ (wA cI (r 6) 120 TB)) (fun _ => rfl) rfl hl.1 rfl (Nat.le_of_ble_eq_true rfl) dX5_nextToken_114 ⟨Nat.le_of_ble_eq_true rfl, Nat.le_of_ble_eq_true rfl⟩ (fun _ H locs _ hP hD hS => ?_)
                  refine W.eq (g2 := F0 m 117 ls [.int (iI (byF TB nn ev))]) rfl ?_
                  refine x_callS (As := [.int (iI (byF TB nn ev))]) (rest := []) ⟨hx, hb, hml, hown, hts⟩ (kX5_isLetter (byF TB nn ev) (by omega)) (va_cwS 1 hts gX5_nextToken_X5_isLetter rfl rfl rfl ykSX5_isLetter ⟨Nat.le_of_ble_eq_true rfl, Nat.le_of_ble_eq_true rfl⟩) hP hK hD hS [] rfl (by decide) (fun _ => rfl) (fun _ => wRo r ik ((nn : Nat) : Int) (jk b0 b1 1 ((iv : Nat) : Int) ((ev : Nat) : Int) 0 fa) ++ (wA cI (r 6) 120 TB)) (fun _ => rfl) rfl hl.1 rfl (Nat.le_of_ble_eq_true rfl) dX5_nextToken_117 ⟨Nat.le_of_ble_eq_true rfl, Nat.le_of_ble_eq_true rfl⟩ (fun _ H locs _ hP hD hS => ?_)
                  refine W.eq (g2 := F0 m 120 ls [.int (iI (b2 (decide (97 ≤ (byF TB nn ev) ∧ (byF TB nn ev) ≤ 122))))]) rfl ?_
                  refine x_ifb_eq (tgt := 136) hx hb dX5_nextToken_120 (by decide) (fun c_120 => ?_) (fun c_120 => ?_)
                  · refine lv_aload_n hx hb dX5_nextToken_136 rfl (lv_at hl 0 rfl) ?_
                    refine va_get (D := D) (ci := 4) (v := .int (iI 1)) (C := RX5) (T := TX5) (N := 18) hx hb hts (iT_X5_nextToken_X5) hown hK hP 0 rfl rfl 13 (by decide) (hts (.fieldLink RX5 217 "WordSupperModel" "token" "I") (by decide +kernel)) (fun _ h9 => h9) rfl dX5_nextToken_137 ?_
                    refine x_iconst hx hb dX5_nextToken_140 ?_
                    refine x_icmp_ne (tgt := 211) hx hb (by decide) (by decide) dX5_nextToken_141 (by decide) (fun c_141 => ?_) (fun c_141 => ?_)
                    · refine lv_aload_n hx hb dX5_nextToken_211 rfl (lv_at hl 0 rfl) ?_
                      refine lv_dup hx hb dX5_nextToken_212 rfl ?_
                      refine va_get (D := D) (ci := 4) (v := .int (iI ((ev : Nat) : Int))) (C := RX5) (T := TX5) (N := 18) hx hb hts (iT_X5_nextToken_X5) hown hK hP 0 rfl rfl 15 (by decide) (hts (.fieldLink RX5 202 "WordSupperModel" "to" "I") (by decide +kernel)) (fun _ h9 => h9) rfl dX5_nextToken_213 ?_
                      refine lv_aload_n hx hb dX5_nextToken_216 rfl (lv_at hl 0 rfl) ?_
                      refine va_get (D := D) (ci := 4) (v := .int (iI 1)) (C := RX5) (T := TX5) (N := 18) hx hb hts (iT_X5_nextToken_X5) hown hK hP 0 rfl rfl 13 (by decide) (hts (.fieldLink RX5 217 "WordSupperModel" "token" "I") (by decide +kernel)) (fun _ h9 => h9) rfl dX5_nextToken_217 ?_
                      refine x_iconst hx hb dX5_nextToken_220 ?_
                      refine x_icmp_le (tgt := 228) hx hb (by decide) (by decide) dX5_nextToken_221 (by decide) (fun c_221 => ?_) (fun c_221 => ?_)
                      · refine x_iconst hx hb dX5_nextToken_228 ?_
                        refine x_iadd hx hb dX5_nextToken_229 ?_
                        refine x_topi ((ev + 0 : Nat) : Int) (by omega) ?_
                        refine x_putI (D := D) (ty := .int) (C := RX5) (T := TX5) (N := 18) hx hb 4 hts (iT_X5_nextToken_X5) tyX5 tyX5_ok nmX5 hown hK hP hD hS 0 rfl rfl 15 (by decide) (hts (.fieldLink RX5 202 "WordSupperModel" "to" "I") (by decide +kernel)) (fun _ h9 => h9) rfl (by decide +kernel) rfl rfl (Nat.le_of_ble_eq_true rfl) (wRo r ik ((nn : Nat) : Int) (jk b0 b1 1 ((iv : Nat) : Int) ((ev + 0 : Nat) : Int) 0 fa) ++ (wA cI (r 6) 120 TB)) (rfl) dX5_nextToken_230 (fun H locs hP hD hS => ?_)
                        have e_l : leF TB nn 120 iv = ev := by rw [← hl1, leF, if_neg (by omega)]
                        exact kend (1, ((iv : Nat) : Int), ((ev + 0 : Nat) : Int), 0) hP hS rfl (tr_of (ty_1 (d := 0) e_f (by omega) (by omega) e_l) (fun q9 => by omega)) dX5_nextToken_233
                      · exact absurd c_221 (by decide)
                    · exact absurd c_141 (by decide)
                  · refine lv_aload_n hx hb dX5_nextToken_123 rfl (lv_at hl 0 rfl) ?_
                    refine lv_dup hx hb dX5_nextToken_124 rfl ?_
                    refine va_get (D := D) (ci := 4) (v := .int (iI ((ev : Nat) : Int))) (C := RX5) (T := TX5) (N := 18) hx hb hts (iT_X5_nextToken_X5) hown hK hP 0 rfl rfl 15 (by decide) (hts (.fieldLink RX5 202 "WordSupperModel" "to" "I") (by decide +kernel)) (fun _ h9 => h9) rfl dX5_nextToken_125 ?_
                    refine x_iconst hx hb dX5_nextToken_128 ?_
                    refine x_iadd hx hb dX5_nextToken_129 ?_
                    refine x_topi ((ev + 1 : Nat) : Int) (by omega) ?_
                    refine x_putI (D := D) (ty := .int) (C := RX5) (T := TX5) (N := 18) hx hb 4 hts (iT_X5_nextToken_X5) tyX5 tyX5_ok nmX5 hown hK hP hD hS 0 rfl rfl 15 (by decide) (hts (.fieldLink RX5 202 "WordSupperModel" "to" "I") (by decide +kernel)) (fun _ h9 => h9) rfl (by decide +kernel) rfl rfl (Nat.le_of_ble_eq_true rfl) (wRo r ik ((nn : Nat) : Int) (jk b0 b1 1 ((iv : Nat) : Int) ((ev + 1 : Nat) : Int) 0 fa) ++ (wA cI (r 6) 120 TB)) (rfl) dX5_nextToken_130 (fun H locs hP hD hS => ?_)
                    refine lv_goto (tgt := 101) hx hb dX5_nextToken_133 (by decide) ?_
                    exact ih3 (t3 + 1) (ev + 1) _ _ _ (by omega) (by rw [← hl1, leF, if_pos (by omega)]) (by omega) (by omega) hP hD hS (lv_sub hl [0] rfl)
            exact L101 120 0 iv _ _ _ (by omega) rfl (by omega) (by omega) hP hD hS (lv_sub hl [1] rfl)
        · refine x_iconst hx hb dX5_nextToken_56 ?_
          refine lv_goto (tgt := 93) hx hb dX5_nextToken_57 (by decide) ?_
          refine x_putI (D := D) (ty := .int) (C := RX5) (T := TX5) (N := 18) hx hb 4 hts (iT_X5_nextToken_X5) tyX5 tyX5_ok nmX5 hown hK hP hD hS 0 rfl rfl 13 (by decide) (hts (.fieldLink RX5 217 "WordSupperModel" "token" "I") (by decide +kernel)) (fun _ h9 => h9) rfl (by decide +kernel) rfl rfl (Nat.le_of_ble_eq_true rfl) (wRo r ik ((nn : Nat) : Int) (jk b0 b1 0 ((iv : Nat) : Int) ((iv : Nat) : Int) cv fa) ++ (wA cI (r 6) 120 TB)) (rfl) dX5_nextToken_93 (fun H locs hP hD hS => ?_)
          refine lv_aload_n hx hb dX5_nextToken_96 rfl (lv_at hl 1 rfl) ?_
          refine x_iconst hx hb dX5_nextToken_97 ?_
          refine x_putI (D := D) (ty := .int) (C := RX5) (T := TX5) (N := 18) hx hb 4 hts (iT_X5_nextToken_X5) tyX5 tyX5_ok nmX5 hown hK hP hD hS 0 rfl rfl 16 (by decide) (hts (.fieldLink RX5 220 "WordSupperModel" "value" "I") (by decide +kernel)) (fun _ h9 => h9) rfl (by decide +kernel) rfl rfl (Nat.le_of_ble_eq_true rfl) (wRo r ik ((nn : Nat) : Int) (jk b0 b1 0 ((iv : Nat) : Int) ((iv : Nat) : Int) 0 fa) ++ (wA cI (r 6) 120 TB)) (rfl) dX5_nextToken_98 (fun H locs hP hD hS => ?_)
          refine lv_aload_n hx hb dX5_nextToken_101 rfl (lv_at hl 1 rfl) ?_
          refine va_get (D := D) (ci := 4) (v := .int (iI 0)) (C := RX5) (T := TX5) (N := 18) hx hb hts (iT_X5_nextToken_X5) hown hK hP 0 rfl rfl 13 (by decide) (hts (.fieldLink RX5 217 "WordSupperModel" "token" "I") (by decide +kernel)) (fun _ h9 => h9) rfl dX5_nextToken_102 ?_
          refine x_iconst hx hb dX5_nextToken_105 ?_
          refine x_icmp_ne (tgt := 136) hx hb (by decide) (by decide) dX5_nextToken_106 (by decide) (fun c_106 => ?_) (fun c_106 => ?_)
          · refine lv_aload_n hx hb dX5_nextToken_136 rfl (lv_at hl 1 rfl) ?_
            refine va_get (D := D) (ci := 4) (v := .int (iI 0)) (C := RX5) (T := TX5) (N := 18) hx hb hts (iT_X5_nextToken_X5) hown hK hP 0 rfl rfl 13 (by decide) (hts (.fieldLink RX5 217 "WordSupperModel" "token" "I") (by decide +kernel)) (fun _ h9 => h9) rfl dX5_nextToken_137 ?_
            refine x_iconst hx hb dX5_nextToken_140 ?_
            refine x_icmp_ne (tgt := 211) hx hb (by decide) (by decide) dX5_nextToken_141 (by decide) (fun c_141 => ?_) (fun c_141 => ?_)
            · refine lv_aload_n hx hb dX5_nextToken_211 rfl (lv_at hl 1 rfl) ?_
              refine lv_dup hx hb dX5_nextToken_212 rfl ?_
              refine va_get (D := D) (ci := 4) (v := .int (iI ((iv : Nat) : Int))) (C := RX5) (T := TX5) (N := 18) hx hb hts (iT_X5_nextToken_X5) hown hK hP 0 rfl rfl 15 (by decide) (hts (.fieldLink RX5 202 "WordSupperModel" "to" "I") (by decide +kernel)) (fun _ h9 => h9) rfl dX5_nextToken_213 ?_
              refine lv_aload_n hx hb dX5_nextToken_216 rfl (lv_at hl 1 rfl) ?_
              refine va_get (D := D) (ci := 4) (v := .int (iI 0)) (C := RX5) (T := TX5) (N := 18) hx hb hts (iT_X5_nextToken_X5) hown hK hP 0 rfl rfl 13 (by decide) (hts (.fieldLink RX5 217 "WordSupperModel" "token" "I") (by decide +kernel)) (fun _ h9 => h9) rfl dX5_nextToken_217 ?_
              refine x_iconst hx hb dX5_nextToken_220 ?_
              refine x_icmp_le (tgt := 228) hx hb (by decide) (by decide) dX5_nextToken_221 (by decide) (fun c_221 => ?_) (fun c_221 => ?_)
              · refine x_iconst hx hb dX5_nextToken_228 ?_
                refine x_iadd hx hb dX5_nextToken_229 ?_
                refine x_topi ((iv + 0 : Nat) : Int) (by omega) ?_
                refine x_putI (D := D) (ty := .int) (C := RX5) (T := TX5) (N := 18) hx hb 4 hts (iT_X5_nextToken_X5) tyX5 tyX5_ok nmX5 hown hK hP hD hS 0 rfl rfl 15 (by decide) (hts (.fieldLink RX5 202 "WordSupperModel" "to" "I") (by decide +kernel)) (fun _ h9 => h9) rfl (by decide +kernel) rfl rfl (Nat.le_of_ble_eq_true rfl) (wRo r ik ((nn : Nat) : Int) (jk b0 b1 0 ((iv : Nat) : Int) ((iv + 0 : Nat) : Int) 0 fa) ++ (wA cI (r 6) 120 TB)) (rfl) dX5_nextToken_230 (fun H locs hP hD hS => ?_)
                exact kend (0, ((iv : Nat) : Int), ((iv + 0 : Nat) : Int), 0) hP hS rfl (tr_of (ty_0 (d := 0) e_f (by omega)) (fun q9 => by omega)) dX5_nextToken_233
              · exact absurd c_221 (by decide)
            · exact absurd c_141 (by decide)
          · exact absurd c_106 (by decide)
      · refine lv_aload_n hx hb dX5_nextToken_21 rfl (lv_at hl 0 rfl) ?_
        refine lv_dup hx hb dX5_nextToken_22 rfl ?_
        refine va_get (D := D) (ci := 4) (v := .int (iI ((iv : Nat) : Int))) (C := RX5) (T := TX5) (N := 18) hx hb hts (iT_X5_nextToken_X5) hown hK hP 0 rfl rfl 14 (by decide) (hts (.fieldLink RX5 205 "WordSupperModel" "from" "I") (by decide +kernel)) (fun _ h9 => h9) rfl dX5_nextToken_23 ?_
        refine x_iconst hx hb dX5_nextToken_26 ?_
        refine x_iadd hx hb dX5_nextToken_27 ?_
        refine x_topi ((iv + 1 : Nat) : Int) (by omega) ?_
        refine x_putI (D := D) (ty := .int) (C := RX5) (T := TX5) (N := 18) hx hb 4 hts (iT_X5_nextToken_X5) tyX5 tyX5_ok nmX5 hown hK hP hD hS 0 rfl rfl 14 (by decide) (hts (.fieldLink RX5 205 "WordSupperModel" "from" "I") (by decide +kernel)) (fun _ h9 => h9) rfl (by decide +kernel) rfl rfl (Nat.le_of_ble_eq_true rfl) (wRo r ik ((nn : Nat) : Int) (jk b0 b1 ct ((iv + 1 : Nat) : Int) ((e0 : Nat) : Int) cv fa) ++ (wA cI (r 6) 120 TB)) (rfl) dX5_nextToken_28 (fun H locs hP hD hS => ?_)
        refine lv_goto (tgt := 8) hx hb dX5_nextToken_31 (by decide) ?_
        exact ih (t + 1) (iv + 1) _ _ _ (by omega) (by rw [← hk1, skF, if_pos (by omega)]) (by omega) (by omega) hP hD hS (lv_sub hl [0] rfl)
  exact L8 120 0 e0 _ _ _ (by omega) rfl (by omega) hen hP hD hS (lv_sub hl [0] rfl)
