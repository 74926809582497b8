/-! rows over whole numbers: a machine int is iI n, a long lI n, an array of ints aI g -/
def iI (n : Int) : Int32 := Int32.ofInt n
def lI (n : Int) : Int64 := Int64.ofInt n
def aI (g : Nat → Int) : Nat → Int32 := fun j => iI (g j)
def b2 (b : Bool) : Int := if b then 1 else 0
abbrev rI (a : Int) : Prop := -2147483648 ≤ a ∧ a ≤ 2147483647
abbrev rL (a : Int) : Prop := -9223372036854775808 ≤ a ∧ a ≤ 9223372036854775807
theorem iI_to {a : Int} (h : rI a) : (iI a).toInt = a := Int32.toInt_ofInt_of_le (by omega) (by omega)
theorem lI_to {a : Int} (h : rL a) : (lI a).toInt = a := Int64.toInt_ofInt_of_le (by omega) (by omega)
theorem iI_self (x : Int32) : iI x.toInt = x := Int32.ofInt_toInt x
theorem iI_rng (x : Int32) : rI x.toInt := ⟨by have := x.le_toInt; omega, by have := x.toInt_lt; omega⟩
theorem iI_ex (x : Int32) : ∃ a : Int, x = iI a ∧ rI a := ⟨x.toInt, (iI_self x).symm, iI_rng x⟩
theorem iI_add (a b : Int) : iI a + iI b = iI (a + b) := (Int32.ofInt_add a b).symm
theorem iI_sub (a b : Int) : iI a - iI b = iI (a - b) := (Int32.ofInt_sub a b).symm
theorem iI_mul (a b : Int) : iI a * iI b = iI (a * b) := (Int32.ofInt_mul a b).symm
theorem iI_neg (a : Int) : - iI a = iI (-a) := (Int32.ofInt_neg a).symm
theorem lI_mul (a b : Int) : lI a * lI b = lI (a * b) := (Int64.ofInt_mul a b).symm
theorem lI_sub (a b : Int) : lI a - lI b = lI (a - b) := (Int64.ofInt_sub a b).symm
theorem iI_le {a b : Int} (ha : rI a) (hb : rI b) : iI a ≤ iI b ↔ a ≤ b := by rw [Int32.le_iff_toInt_le, iI_to ha, iI_to hb]
theorem iI_lt {a b : Int} (ha : rI a) (hb : rI b) : iI a < iI b ↔ a < b := by rw [Int32.lt_iff_toInt_lt, iI_to ha, iI_to hb]
theorem iI_eq {a b : Int} (ha : rI a) (hb : rI b) : iI a = iI b ↔ a = b := by rw [← Int32.toInt_inj, iI_to ha, iI_to hb]
theorem lI_le {a b : Int} (ha : rL a) (hb : rL b) : lI a ≤ lI b ↔ a ≤ b := by rw [Int64.le_iff_toInt_le, lI_to ha, lI_to hb]
theorem lI_lt {a b : Int} (ha : rL a) (hb : rL b) : lI a < lI b ↔ a < b := by rw [Int64.lt_iff_toInt_lt, lI_to ha, lI_to hb]
theorem lI_eq {a b : Int} (ha : rL a) (hb : rL b) : lI a = lI b ↔ a = b := by rw [← Int64.toInt_inj, lI_to ha, lI_to hb]
theorem iI_l {a : Int} (h : rI a) : (iI a).toInt64 = lI a := by
  apply Int64.toInt_inj.mp
  rw [Int32.toInt_toInt64, iI_to h, lI_to ⟨by omega, by omega⟩]
theorem iI_clamp {a : Int} (h : rI a) : (iI a).toNatClampNeg = a.toNat := by
  rw [← Int32.toNat_toInt, iI_to h]
theorem iI_in {n : Nat} {a : Int} (j : Nat) (hj : a = (j : Int)) (h : j < n) (hn : n < 2147483648) : vp_in (iI a) n ∧ (iI a).toNatClampNeg = j := by
  subst hj
  have hr : rI (j : Int) := ⟨by omega, by omega⟩
  refine ⟨?_, by rw [iI_clamp hr]; omega⟩
  rintro (h1 | h1)
  · rw [Int32.lt_iff_toInt_lt, iI_to hr] at h1
    have : (0 : Int32).toInt = 0 := rfl
    omega
  · rw [iI_clamp hr] at h1
    omega
theorem tdiv_nn {a b : Int} (h : 0 ≤ a) : a.tdiv b = a / b := Int.tdiv_eq_ediv_of_nonneg h
theorem iI_div {a b : Int} (h0 : 0 ≤ a) (ha : rI a) (hb0 : 0 < b) (hb : rI b) : iI a / iI b = iI (a / b) := by
  apply Int32.toInt_inj.mp
  have hd : a / b ≤ a := Int.ediv_le_self b h0
  have hd0 : 0 ≤ a / b := Int.ediv_nonneg h0 (by omega)
  rw [Int32.toInt_div_of_ne_right _ _ (fun h => ?_), iI_to ha, iI_to hb, tdiv_nn h0, iI_to ⟨by omega, by omega⟩]
  have h1 := congrArg Int32.toInt h
  rw [iI_to hb] at h1
  have : (-1 : Int32).toInt = -1 := rfl
  omega
theorem iI_rem {a b : Int} (h0 : 0 ≤ a) (ha : rI a) (hb0 : 0 < b) (hb : rI b) : iI a - iI a / iI b * iI b = iI (a % b) := by
  rw [iI_div h0 ha hb0 hb, iI_mul, iI_sub]
  congr 1
  rw [Int.emod_def, Int.mul_comm]
theorem lI_div {a b : Int} (h0 : 0 ≤ a) (ha : rL a) (hb0 : 0 < b) (hb : rL b) : lI a / lI b = lI (a / b) := by
  apply Int64.toInt_inj.mp
  have hd : a / b ≤ a := Int.ediv_le_self b h0
  have hd0 : 0 ≤ a / b := Int.ediv_nonneg h0 (by omega)
  rw [Int64.toInt_div_of_ne_right _ _ (fun h => ?_), lI_to ha, lI_to hb, tdiv_nn h0, lI_to ⟨by omega, by omega⟩]
  have h1 := congrArg Int64.toInt h
  rw [lI_to hb] at h1
  have : (-1 : Int64).toInt = -1 := rfl
  omega
theorem lI_rem {a b : Int} (h0 : 0 ≤ a) (ha : rL a) (hb0 : 0 < b) (hb : rL b) : lI a - lI a / lI b * lI b = lI (a % b) := by
  rw [lI_div h0 ha hb0 hb, lI_mul, lI_sub]
  congr 1
  rw [Int.emod_def, Int.mul_comm]
def andI (a b : Int) : Int := (iI a &&& iI b).toInt
def orI (a b : Int) : Int := (iI a ||| iI b).toInt
def shlI (a b : Int) : Int := (iI a <<< (iI b &&& 31)).toInt
def shrI (a b : Int) : Int := (iI a >>> (iI b &&& 31)).toInt
def ushrI (a b : Int) : Int := ((iI a).toUInt32 >>> ((iI b).toUInt32 &&& Int32.toUInt32 31)).toInt32.toInt
def byteI (a : Int) : Int := (iI a).toInt8.toInt32.toInt
def shortI (a : Int) : Int := (iI a).toInt16.toInt32.toInt
theorem andI_r (a b : Int) : rI (andI a b) := iI_rng _
theorem orI_r (a b : Int) : rI (orI a b) := iI_rng _
theorem shlI_r (a b : Int) : rI (shlI a b) := iI_rng _
theorem shrI_r (a b : Int) : rI (shrI a b) := iI_rng _
theorem ushrI_r (a b : Int) : rI (ushrI a b) := iI_rng _
theorem byteI_r (a : Int) : rI (byteI a) := iI_rng _
theorem shortI_r (a : Int) : rI (shortI a) := iI_rng _
theorem b2_r (b : Bool) : rI (b2 b) := by cases b <;> decide
theorem b2_0 (b : Bool) : iI (b2 b) = 0 ↔ b = false := by cases b <;> decide
theorem b2_t {p : Prop} [Decidable p] (h : p) : b2 (decide p) = 1 := by simp [b2, h]
theorem b2_f {p : Prop} [Decidable p] (h : ¬ p) : b2 (decide p) = 0 := by simp [b2, h]
theorem iI_max {a b : Int} (ha : rI a) (hb : rI b) : (if iI a < iI b then iI b else iI a) = iI (max a b) := by
  simp only [iI_lt ha hb]
  split
  · rw [Int.max_eq_right (by omega)]
  · rw [Int.max_eq_left (by omega)]
theorem iI_min {a b : Int} (ha : rI a) (hb : rI b) : (if iI b < iI a then iI b else iI a) = iI (min a b) := by
  simp only [iI_lt hb ha]
  split
  · rw [Int.min_eq_right (by omega)]
  · rw [Int.min_eq_left (by omega)]
theorem aI_up (g : Nat → Int) (j : Nat) (v : Int) : upd (aI g) j (iI v) = aI (va_up g j v) := by
  funext k
  by_cases h : k = j
  · subst h; simp [upd, aI, va_up]
  · simp [upd, aI, va_up, h]
theorem aI_cpy (f g : Nat → Int) (sp dp n : Nat) : va_cpy (aI f) (aI g) sp dp n = aI (va_cpy f g sp dp n) := by
  funext k
  by_cases h : dp ≤ k ∧ k < dp + n <;> simp [va_cpy, aI, h]
theorem an_i {a b : Int} (h : b = a) : some (Value.int (iI a)) = some (Value.int (iI b)) := by rw [h]
theorem an_l {a b : Int} (h : b = a) : some (Value.long (lI a)) = some (Value.long (lI b)) := by rw [h]
theorem x_sw (x lo hi : Int) : (x < lo ∨ hi < x) ∨ (¬ x < lo ∧ ¬ hi < x) := by omega
def cpI (x y : Int) : Int := if y < x then 1 else if x = y then 0 else -1
theorem cpI_r (x y : Int) : rI (cpI x y) := by
  unfold cpI
  split
  · decide
  · split <;> decide
theorem cpI_c (x y : Int) : (y < x ∧ cpI x y = 1) ∨ (x = y ∧ cpI x y = 0) ∨ (x < y ∧ cpI x y = -1) := by
  unfold cpI
  split
  · left; exact ⟨by assumption, rfl⟩
  · split
    · right; left; exact ⟨by assumption, rfl⟩
    · right; right; exact ⟨by omega, rfl⟩
theorem cpI_lt {x y : Int} (h : cpI x y < 0) : x < y := by have := cpI_c x y; omega
theorem cpI_nlt {x y : Int} (h : 0 ≤ cpI x y) : y ≤ x := by have := cpI_c x y; omega
theorem cpI_ge {x y : Int} (h : 0 ≤ cpI x y) : y ≤ x := by have := cpI_c x y; omega
theorem cpI_nge {x y : Int} (h : cpI x y < 0) : x < y := by have := cpI_c x y; omega
theorem cpI_gt {x y : Int} (h : 0 < cpI x y) : y < x := by have := cpI_c x y; omega
theorem cpI_ngt {x y : Int} (h : cpI x y ≤ 0) : x ≤ y := by have := cpI_c x y; omega
theorem cpI_le {x y : Int} (h : cpI x y ≤ 0) : x ≤ y := by have := cpI_c x y; omega
theorem cpI_nle {x y : Int} (h : 0 < cpI x y) : y < x := by have := cpI_c x y; omega
theorem cpI_eq {x y : Int} (h : cpI x y = 0) : x = y := by have := cpI_c x y; omega
theorem cpI_neq {x y : Int} (h : cpI x y ≠ 0) : x ≠ y := by have := cpI_c x y; omega
theorem cpI_ne {x y : Int} (h : cpI x y ≠ 0) : x ≠ y := by have := cpI_c x y; omega
theorem cpI_nne {x y : Int} (h : cpI x y = 0) : x = y := by have := cpI_c x y; omega
theorem lg_cmp_i {x y : Int} (hx : rL x) (hy : rL y) : lg_cmp (lI x) (lI y) = iI (cpI x y) := by
  rcases cpI_c x y with ⟨h, e⟩ | ⟨h, e⟩ | ⟨h, e⟩
  · rw [e]
    have h1 : lI x > lI y := (lI_lt hy hx).mpr h
    simp [lg_cmp, h1]; rfl
  · rw [e]
    subst h
    have h1 : ¬ lI x > lI x := fun q => by have := (lI_lt hx hx).mp q; omega
    simp [lg_cmp]; rfl
  · rw [e]
    have h1 : ¬ lI x > lI y := fun q => by have := (lI_lt hy hx).mp q; omega
    have h2 : ¬ lI x = lI y := fun q => by have := (lI_eq hx hy).mp q; omega
    simp only [lg_cmp, h1, h2]; rfl
theorem aI_zero : (fun _ : Nat => (0 : Int32)) = aI (fun _ => 0) := rfl
section XR
variable {p : Program} {l : Launch} {e : Env} {R : Room} {s : State} {m : MethodId} {args : Array Value} {below : List Frame} {meth : Method} {c : Code} {H : Heap} {locs : List Loc} {cells slots : Nat} {Q : State → Prop}
variable {cc : ByteArray} {pc : Nat} {ls : Array Slot} {rest : List Value}
theorem x_iconst (hexec : p.tables.exec = Jvm.exec) (hb : c.code = cc) {n : Int} (hdg : decode cc pc = .ok (.iconst n, 1))
    (k : W p l e R s m args below meth c H locs cells slots Q (F0 m (pc + 1) ls (.int (iI n) :: rest))) : W p l e R s m args below meth c H locs cells slots Q (F0 m pc ls rest) := by
  exact lv_iconst hexec hb hdg rfl k
theorem x_bipush (hexec : p.tables.exec = Jvm.exec) (hb : c.code = cc) {n : Int} (hdg : decode cc pc = .ok (.bipush n, 2)) (hv : (Int8.ofInt n).toInt32 = iI n)
    (k : W p l e R s m args below meth c H locs cells slots Q (F0 m (pc + 2) ls (.int (iI n) :: rest))) : W p l e R s m args below meth c H locs cells slots Q (F0 m pc ls rest) := by
  exact lv_bipush hexec hb hdg hv k
theorem x_sipush (hexec : p.tables.exec = Jvm.exec) (hb : c.code = cc) {n : Int} (hdg : decode cc pc = .ok (.sipush n, 3)) (hv : (Int16.ofInt n).toInt32 = iI n)
    (k : W p l e R s m args below meth c H locs cells slots Q (F0 m (pc + 3) ls (.int (iI n) :: rest))) : W p l e R s m args below meth c H locs cells slots Q (F0 m pc ls rest) := by
  exact lv_sipush hexec hb hdg hv k
theorem x_ldc (hexec : p.tables.exec = Jvm.exec) (hb : c.code = cc) {own : String} {index : Nat} {v : Int32} (n : Int) (hn : v = iI n) (hown : s.vm.findClass own = some m.cls) (hconst : (Jvm.Cond.constant own index v).before args s = true) (hdg : decode cc pc = .ok (.ldc index, 2))
    (k : W p l e R s m args below meth c H locs cells slots Q (F0 m (pc + 2) ls (.int (iI n) :: rest))) : W p l e R s m args below meth c H locs cells slots Q (F0 m pc ls rest) := by
  subst hn
  exact lv_ldc hexec hb hown hconst hdg k
theorem x_ldcw (hexec : p.tables.exec = Jvm.exec) (hb : c.code = cc) {own : String} {index : Nat} {v : Int32} (n : Int) (hn : v = iI n) (hown : s.vm.findClass own = some m.cls) (hconst : (Jvm.Cond.constant own index v).before args s = true) (hdg : decode cc pc = .ok (.ldc_w index, 3))
    (k : W p l e R s m args below meth c H locs cells slots Q (F0 m (pc + 3) ls (.int (iI n) :: rest))) : W p l e R s m args below meth c H locs cells slots Q (F0 m pc ls rest) := by
  subst hn
  exact lv_ldcw hexec hb hown hconst hdg k
theorem x_ldc2 (hexec : p.tables.exec = Jvm.exec) (hb : c.code = cc) {own : String} {index : Nat} {v : Int64} (n : Int) (hn : v = lI n) (hown : s.vm.findClass own = some m.cls) (hconst : (Jvm.Cond.constantLong own index v).before args s = true) (hdg : decode cc pc = .ok (.ldc2_w index, 3))
    (k : W p l e R s m args below meth c H locs cells slots Q (F0 m (pc + 3) ls (.long (lI n) :: rest))) : W p l e R s m args below meth c H locs cells slots Q (F0 m pc ls rest) := by
  subst hn
  exact lv_ldc2 hexec hb hown hconst hdg k
theorem x_lconst (hexec : p.tables.exec = Jvm.exec) (hb : c.code = cc) {n : Fin 2} (v : Int) (hv : (n : Nat) = v) (hdg : decode cc pc = .ok (.lconst n, 1))
    (k : W p l e R s m args below meth c H locs cells slots Q (F0 m (pc + 1) ls (.long (lI v) :: rest))) : W p l e R s m args below meth c H locs cells slots Q (F0 m pc ls rest) := by
  subst hv
  exact lv_lconst hexec hb hdg rfl k
theorem x_iadd (hexec : p.tables.exec = Jvm.exec) (hb : c.code = cc) {x y : Int} (hdg : decode cc pc = .ok (.iadd, 1))
    (k : W p l e R s m args below meth c H locs cells slots Q (F0 m (pc + 1) ls (.int (iI (x + y)) :: rest))) : W p l e R s m args below meth c H locs cells slots Q (F0 m pc ls (.int (iI y) :: .int (iI x) :: rest)) := by
  refine lv_iadd hexec hb hdg ?_
  rw [iI_add]
  exact k
theorem x_isub (hexec : p.tables.exec = Jvm.exec) (hb : c.code = cc) {x y : Int} (hdg : decode cc pc = .ok (.isub, 1))
    (k : W p l e R s m args below meth c H locs cells slots Q (F0 m (pc + 1) ls (.int (iI (x - y)) :: rest))) : W p l e R s m args below meth c H locs cells slots Q (F0 m pc ls (.int (iI y) :: .int (iI x) :: rest)) := by
  refine lv_isub hexec hb hdg ?_
  rw [iI_sub]
  exact k
theorem x_imul (hexec : p.tables.exec = Jvm.exec) (hb : c.code = cc) {x y : Int} (hdg : decode cc pc = .ok (.imul, 1))
    (k : W p l e R s m args below meth c H locs cells slots Q (F0 m (pc + 1) ls (.int (iI (x * y)) :: rest))) : W p l e R s m args below meth c H locs cells slots Q (F0 m pc ls (.int (iI y) :: .int (iI x) :: rest)) := by
  refine lv_imul hexec hb hdg ?_
  rw [iI_mul]
  exact k
theorem x_ineg (hexec : p.tables.exec = Jvm.exec) (hb : c.code = cc) {x : Int} (hdg : decode cc pc = .ok (.ineg, 1))
    (k : W p l e R s m args below meth c H locs cells slots Q (F0 m (pc + 1) ls (.int (iI (-x)) :: rest))) : W p l e R s m args below meth c H locs cells slots Q (F0 m pc ls (.int (iI x) :: rest)) := by
  refine lv_ineg hexec hb hdg ?_
  rw [iI_neg]
  exact k
theorem x_idiv (hexec : p.tables.exec = Jvm.exec) (hb : c.code = cc) {x y : Int} (h0 : 0 ≤ x) (hx : rI x) (hy0 : 0 < y) (hy : rI y) (hdg : decode cc pc = .ok (.idiv, 1))
    (k : W p l e R s m args below meth c H locs cells slots Q (F0 m (pc + 1) ls (.int (iI (x / y)) :: rest))) : W p l e R s m args below meth c H locs cells slots Q (F0 m pc ls (.int (iI y) :: .int (iI x) :: rest)) := by
  refine lv_idiv hexec hb hdg (fun h => ?_) ?_
  · have h1 := (iI_eq (b := 0) hy ⟨by omega, by omega⟩).mp h
    omega
  · rw [iI_div h0 hx hy0 hy]
    exact k
theorem x_irem (hexec : p.tables.exec = Jvm.exec) (hb : c.code = cc) {x y : Int} (h0 : 0 ≤ x) (hx : rI x) (hy0 : 0 < y) (hy : rI y) (hdg : decode cc pc = .ok (.irem, 1))
    (k : W p l e R s m args below meth c H locs cells slots Q (F0 m (pc + 1) ls (.int (iI (x % y)) :: rest))) : W p l e R s m args below meth c H locs cells slots Q (F0 m pc ls (.int (iI y) :: .int (iI x) :: rest)) := by
  refine lv_irem hexec hb hdg (fun h => ?_) ?_
  · have h1 := (iI_eq (b := 0) hy ⟨by omega, by omega⟩).mp h
    omega
  · rw [iI_rem h0 hx hy0 hy]
    exact k
theorem x_ldiv (hexec : p.tables.exec = Jvm.exec) (hb : c.code = cc) {x y : Int} (h0 : 0 ≤ x) (hx : rL x) (hy0 : 0 < y) (hy : rL y) (hdg : decode cc pc = .ok (.ldiv, 1))
    (k : W p l e R s m args below meth c H locs cells slots Q (F0 m (pc + 1) ls (.long (lI (x / y)) :: rest))) : W p l e R s m args below meth c H locs cells slots Q (F0 m pc ls (.long (lI y) :: .long (lI x) :: rest)) := by
  refine lv_ldiv hexec hb hdg (fun h => ?_) ?_
  · have h1 := (lI_eq (b := 0) hy ⟨by omega, by omega⟩).mp h
    omega
  · rw [lI_div h0 hx hy0 hy]
    exact k
theorem x_lrem (hexec : p.tables.exec = Jvm.exec) (hb : c.code = cc) {x y : Int} (h0 : 0 ≤ x) (hx : rL x) (hy0 : 0 < y) (hy : rL y) (hdg : decode cc pc = .ok (.lrem, 1))
    (k : W p l e R s m args below meth c H locs cells slots Q (F0 m (pc + 1) ls (.long (lI (x % y)) :: rest))) : W p l e R s m args below meth c H locs cells slots Q (F0 m pc ls (.long (lI y) :: .long (lI x) :: rest)) := by
  refine lv_lrem hexec hb hdg (fun h => ?_) ?_
  · have h1 := (lI_eq (b := 0) hy ⟨by omega, by omega⟩).mp h
    omega
  · rw [lI_rem h0 hx hy0 hy]
    exact k
theorem x_lmul (hexec : p.tables.exec = Jvm.exec) (hb : c.code = cc) {x y : Int} (hdg : decode cc pc = .ok (.lmul, 1))
    (k : W p l e R s m args below meth c H locs cells slots Q (F0 m (pc + 1) ls (.long (lI (x * y)) :: rest))) : W p l e R s m args below meth c H locs cells slots Q (F0 m pc ls (.long (lI y) :: .long (lI x) :: rest)) := by
  refine lv_lmul hexec hb hdg ?_
  rw [lI_mul]
  exact k
theorem x_iand (hexec : p.tables.exec = Jvm.exec) (hb : c.code = cc) {x y : Int} (hdg : decode cc pc = .ok (.iand, 1))
    (k : W p l e R s m args below meth c H locs cells slots Q (F0 m (pc + 1) ls (.int (iI (andI x y)) :: rest))) : W p l e R s m args below meth c H locs cells slots Q (F0 m pc ls (.int (iI y) :: .int (iI x) :: rest)) := by
  refine lv_iand hexec hb hdg ?_
  unfold andI at k
  rw [iI_self] at k
  exact k
theorem x_ior (hexec : p.tables.exec = Jvm.exec) (hb : c.code = cc) {x y : Int} (hdg : decode cc pc = .ok (.ior, 1))
    (k : W p l e R s m args below meth c H locs cells slots Q (F0 m (pc + 1) ls (.int (iI (orI x y)) :: rest))) : W p l e R s m args below meth c H locs cells slots Q (F0 m pc ls (.int (iI y) :: .int (iI x) :: rest)) := by
  refine lv_ior hexec hb hdg ?_
  unfold orI at k
  rw [iI_self] at k
  exact k
theorem x_ishl (hexec : p.tables.exec = Jvm.exec) (hb : c.code = cc) {x y : Int} (hdg : decode cc pc = .ok (.ishl, 1))
    (k : W p l e R s m args below meth c H locs cells slots Q (F0 m (pc + 1) ls (.int (iI (shlI x y)) :: rest))) : W p l e R s m args below meth c H locs cells slots Q (F0 m pc ls (.int (iI y) :: .int (iI x) :: rest)) := by
  refine lv_ishl hexec hb hdg ?_
  unfold shlI at k
  rw [iI_self] at k
  exact k
theorem x_ishr (hexec : p.tables.exec = Jvm.exec) (hb : c.code = cc) {x y : Int} (hdg : decode cc pc = .ok (.ishr, 1))
    (k : W p l e R s m args below meth c H locs cells slots Q (F0 m (pc + 1) ls (.int (iI (shrI x y)) :: rest))) : W p l e R s m args below meth c H locs cells slots Q (F0 m pc ls (.int (iI y) :: .int (iI x) :: rest)) := by
  refine lv_ishr hexec hb hdg ?_
  unfold shrI at k
  rw [iI_self] at k
  exact k
theorem x_iushr (hexec : p.tables.exec = Jvm.exec) (hb : c.code = cc) {x y : Int} (hdg : decode cc pc = .ok (.iushr, 1))
    (k : W p l e R s m args below meth c H locs cells slots Q (F0 m (pc + 1) ls (.int (iI (ushrI x y)) :: rest))) : W p l e R s m args below meth c H locs cells slots Q (F0 m pc ls (.int (iI y) :: .int (iI x) :: rest)) := by
  unfold ushrI at k
  rw [iI_self] at k
  exact lv_iushr hexec hb hdg rfl k
theorem x_i2l (hexec : p.tables.exec = Jvm.exec) (hb : c.code = cc) {x : Int} (hx : rI x) (hdg : decode cc pc = .ok (.i2l, 1))
    (k : W p l e R s m args below meth c H locs cells slots Q (F0 m (pc + 1) ls (.long (lI x) :: rest))) : W p l e R s m args below meth c H locs cells slots Q (F0 m pc ls (.int (iI x) :: rest)) := by
  exact lv_i2l hexec hb hdg (iI_l hx) k
theorem x_i2b (hexec : p.tables.exec = Jvm.exec) (hb : c.code = cc) {x : Int} (hdg : decode cc pc = .ok (.i2b, 1))
    (k : W p l e R s m args below meth c H locs cells slots Q (F0 m (pc + 1) ls (.int (iI (byteI x)) :: rest))) : W p l e R s m args below meth c H locs cells slots Q (F0 m pc ls (.int (iI x) :: rest)) := by
  unfold byteI at k
  rw [iI_self] at k
  exact lv_i2b hexec hb hdg rfl k
theorem x_i2s (hexec : p.tables.exec = Jvm.exec) (hb : c.code = cc) {x : Int} (hdg : decode cc pc = .ok (.i2s, 1))
    (k : W p l e R s m args below meth c H locs cells slots Q (F0 m (pc + 1) ls (.int (iI (shortI x)) :: rest))) : W p l e R s m args below meth c H locs cells slots Q (F0 m pc ls (.int (iI x) :: rest)) := by
  unfold shortI at k
  rw [iI_self] at k
  exact lv_i2s hexec hb hdg rfl k
theorem x_iinc (hexec : p.tables.exec = Jvm.exec) (hb : c.code = cc) {i nL : Nat} {n : Int} (k : Nat) {x : Int} (v : Int) (hv : x + n = v) {lv : List (Nat × Value)} (lv' : List (Nat × Value)) (hdg : decode cc pc = .ok (.iinc i n, 3)) (h : lv_has ls nL lv) (hk : lv[k]? = some (i, .int (iI x))) (hn : i < nL) (hl : (i, Value.int (iI v)) :: lv.filter (fun q => !(q.1 == i) && !(q.1 + 1 == i && q.2.category == 2)) = lv')
    (kk : ∀ ls' : Array Slot, lv_has ls' nL lv' → W p l e R s m args below meth c H locs cells slots Q (F0 m (pc + 3) ls' rest)) : W p l e R s m args below meth c H locs cells slots Q (F0 m pc ls rest) := by
  subst hv
  exact lv_iinc hexec hb hdg h hk (iI_add x n) hn hl kk
theorem x_putI (hexec : p.tables.exec = Jvm.exec) (hb : c.code = cc) {D : va_G} {cl : List vw_C} {tys : List (ClassId × FieldType)} {ws : va_W} {a : Nat} {A : Nat → Prop} {H0 : Heap} {own ref C : String} {T : u_T} {N index : Nat} {Ts : List Cond} (ci : Nat) (hts : ∀ w ∈ Ts, w.before args s = true) (hin : ∀ w ∈ u_ws C T N, w ∈ Ts) (ty0 : Nat → FieldType) (hty : ∀ k, k < N → parseFieldDescriptor (T k).2.2.1 = some (ty0 k)) (hnm : ∀ a, a < N → ∀ b, b < N → a ≠ b → (T a).2.1 ≠ (T b).2.1) (hown : s.vm.findClass own = some m.cls) (hK : va_K D cl tys s) (hP : va_P D cl ws H) (hD : va_D A ws) (hS0 : va_S A H0 H locs) (q0 : Nat) {fs : List Value} (he : ws[q0]? = some (a, .inr (ci, fs))) (hc : cl[ci]? = some (C, T, N)) (k : Nat) (hk : k < N) (hlink : (Cond.fieldLink own index ref (T k).2.1 (T k).2.2.1).before args s = true) (hsame : ∀ x, s.fieldFound? (T k).1 (T k).2.1 (T k).2.2.1 = some x → s.fieldFound? ref (T k).2.1 (T k).2.2.1 = some x) (hfin : (T k).2.2.2 = false) {ty : FieldType} {x : Int} (hd : parseFieldDescriptor (T k).2.2.1 = some ty) (hn : narrow ty (.int (iI x)) = .int (iI x)) (hfit : fits ty (.int (iI x)) = true) (hl : k < fs.length) (ws1 : va_W) (hw : ws.set q0 (a, .inr (ci, fs.set k (.int (iI x)))) = ws1)
    (hdg : decode cc pc = .ok (.putfield index, 3)) (kk : ∀ (H : Heap) (locs : List Loc), va_P D cl ws1 H → va_D A ws1 → va_S A H0 H locs → W p l e R s m args below meth c H locs cells slots Q (F0 m (pc + 3) ls rest)) : W p l e R s m args below meth c H locs cells slots Q (F0 m pc ls (.int (iI x) :: .ref a :: rest)) := by
  subst hw
  exact va_put hexec hb hts hin ty0 hty hnm hown hK hP hD hS0 q0 he hc k hk hlink hsame hfin hd hn hfit hl hdg kk
theorem x_topi {x : Int} (a : Int) (h : x = a) (k : W p l e R s m args below meth c H locs cells slots Q (F0 m pc ls (.int (iI a) :: rest))) : W p l e R s m args below meth c H locs cells slots Q (F0 m pc ls (.int (iI x) :: rest)) := by
  subst h
  exact k
theorem x_topl {x : Int} (a : Int) (h : x = a) (k : W p l e R s m args below meth c H locs cells slots Q (F0 m pc ls (.long (lI a) :: rest))) : W p l e R s m args below meth c H locs cells slots Q (F0 m pc ls (.long (lI x) :: rest)) := by
  subst h
  exact k
theorem x_topv {x : Value} (a : Value) (h : x = a) (k : W p l e R s m args below meth c H locs cells slots Q (F0 m pc ls (a :: rest))) : W p l e R s m args below meth c H locs cells slots Q (F0 m pc ls (x :: rest)) := by
  subst h
  exact k
theorem x_icmp_eq (hexec : p.tables.exec = Jvm.exec) (hb : c.code = cc) {x y : Int} {off : Int} {tgt : Nat} (hx : rI x) (hy : rI y) (hdg : decode cc pc = .ok (.if_icmp .eq off, 3)) (ht : (pc : Int) + off = (tgt : Int))
    (kt : x = y → W p l e R s m args below meth c H locs cells slots Q (F0 m tgt ls rest)) (kf : x ≠ y → W p l e R s m args below meth c H locs cells slots Q (F0 m (pc + 3) ls rest)) : W p l e R s m args below meth c H locs cells slots Q (F0 m pc ls (.int (iI y) :: .int (iI x) :: rest)) := by
  exact lv_icmp_eq hexec hb hdg ht (fun h => kt ((iI_eq hx hy).mp h)) (fun h => kf (fun q => h ((iI_eq hx hy).mpr q)))
theorem x_if_eq (hexec : p.tables.exec = Jvm.exec) (hb : c.code = cc) {x : Int} {off : Int} {tgt : Nat} (hx : rI x) (hdg : decode cc pc = .ok (.ifCond .eq off, 3)) (ht : (pc : Int) + off = (tgt : Int))
    (kt : x = 0 → W p l e R s m args below meth c H locs cells slots Q (F0 m tgt ls rest)) (kf : x ≠ 0 → W p l e R s m args below meth c H locs cells slots Q (F0 m (pc + 3) ls rest)) : W p l e R s m args below meth c H locs cells slots Q (F0 m pc ls (.int (iI x) :: rest)) := by
  have hy : rI 0 := ⟨by omega, by omega⟩
  exact lv_if_eq hexec hb hdg ht (fun h => kt ((iI_eq hx hy).mp h)) (fun h => kf (fun q => h ((iI_eq hx hy).mpr q)))
theorem x_icmp_ne (hexec : p.tables.exec = Jvm.exec) (hb : c.code = cc) {x y : Int} {off : Int} {tgt : Nat} (hx : rI x) (hy : rI y) (hdg : decode cc pc = .ok (.if_icmp .ne off, 3)) (ht : (pc : Int) + off = (tgt : Int))
    (kt : x ≠ y → W p l e R s m args below meth c H locs cells slots Q (F0 m tgt ls rest)) (kf : x = y → W p l e R s m args below meth c H locs cells slots Q (F0 m (pc + 3) ls rest)) : W p l e R s m args below meth c H locs cells slots Q (F0 m pc ls (.int (iI y) :: .int (iI x) :: rest)) := by
  exact lv_icmp_ne hexec hb hdg ht (fun h => kt (fun q => h ((iI_eq hx hy).mpr q))) (fun h => kf ((iI_eq hx hy).mp (by first | exact h | exact Decidable.of_not_not h)))
theorem x_if_ne (hexec : p.tables.exec = Jvm.exec) (hb : c.code = cc) {x : Int} {off : Int} {tgt : Nat} (hx : rI x) (hdg : decode cc pc = .ok (.ifCond .ne off, 3)) (ht : (pc : Int) + off = (tgt : Int))
    (kt : x ≠ 0 → W p l e R s m args below meth c H locs cells slots Q (F0 m tgt ls rest)) (kf : x = 0 → W p l e R s m args below meth c H locs cells slots Q (F0 m (pc + 3) ls rest)) : W p l e R s m args below meth c H locs cells slots Q (F0 m pc ls (.int (iI x) :: rest)) := by
  have hy : rI 0 := ⟨by omega, by omega⟩
  exact lv_if_ne hexec hb hdg ht (fun h => kt (fun q => h ((iI_eq hx hy).mpr q))) (fun h => kf ((iI_eq hx hy).mp (by first | exact h | exact Decidable.of_not_not h)))
theorem x_icmp_lt (hexec : p.tables.exec = Jvm.exec) (hb : c.code = cc) {x y : Int} {off : Int} {tgt : Nat} (hx : rI x) (hy : rI y) (hdg : decode cc pc = .ok (.if_icmp .lt off, 3)) (ht : (pc : Int) + off = (tgt : Int))
    (kt : x < y → W p l e R s m args below meth c H locs cells slots Q (F0 m tgt ls rest)) (kf : y ≤ x → W p l e R s m args below meth c H locs cells slots Q (F0 m (pc + 3) ls rest)) : W p l e R s m args below meth c H locs cells slots Q (F0 m pc ls (.int (iI y) :: .int (iI x) :: rest)) := by
  exact lv_icmp_lt hexec hb hdg ht (fun h => kt ((iI_lt hx hy).mp h)) (fun h => kf (Int.not_lt.mp (fun q => h ((iI_lt hx hy).mpr q))))
theorem x_if_lt (hexec : p.tables.exec = Jvm.exec) (hb : c.code = cc) {x : Int} {off : Int} {tgt : Nat} (hx : rI x) (hdg : decode cc pc = .ok (.ifCond .lt off, 3)) (ht : (pc : Int) + off = (tgt : Int))
    (kt : x < 0 → W p l e R s m args below meth c H locs cells slots Q (F0 m tgt ls rest)) (kf : 0 ≤ x → W p l e R s m args below meth c H locs cells slots Q (F0 m (pc + 3) ls rest)) : W p l e R s m args below meth c H locs cells slots Q (F0 m pc ls (.int (iI x) :: rest)) := by
  have hy : rI 0 := ⟨by omega, by omega⟩
  exact lv_if_lt hexec hb hdg ht (fun h => kt ((iI_lt hx hy).mp h)) (fun h => kf (Int.not_lt.mp (fun q => h ((iI_lt hx hy).mpr q))))
theorem x_icmp_ge (hexec : p.tables.exec = Jvm.exec) (hb : c.code = cc) {x y : Int} {off : Int} {tgt : Nat} (hx : rI x) (hy : rI y) (hdg : decode cc pc = .ok (.if_icmp .ge off, 3)) (ht : (pc : Int) + off = (tgt : Int))
    (kt : y ≤ x → W p l e R s m args below meth c H locs cells slots Q (F0 m tgt ls rest)) (kf : x < y → W p l e R s m args below meth c H locs cells slots Q (F0 m (pc + 3) ls rest)) : W p l e R s m args below meth c H locs cells slots Q (F0 m pc ls (.int (iI y) :: .int (iI x) :: rest)) := by
  exact lv_icmp_ge hexec hb hdg ht (fun h => kt ((iI_le hy hx).mp h)) (fun h => kf (Int.not_le.mp (fun q => h ((iI_le hy hx).mpr q))))
theorem x_if_ge (hexec : p.tables.exec = Jvm.exec) (hb : c.code = cc) {x : Int} {off : Int} {tgt : Nat} (hx : rI x) (hdg : decode cc pc = .ok (.ifCond .ge off, 3)) (ht : (pc : Int) + off = (tgt : Int))
    (kt : 0 ≤ x → W p l e R s m args below meth c H locs cells slots Q (F0 m tgt ls rest)) (kf : x < 0 → W p l e R s m args below meth c H locs cells slots Q (F0 m (pc + 3) ls rest)) : W p l e R s m args below meth c H locs cells slots Q (F0 m pc ls (.int (iI x) :: rest)) := by
  have hy : rI 0 := ⟨by omega, by omega⟩
  exact lv_if_ge hexec hb hdg ht (fun h => kt ((iI_le hy hx).mp h)) (fun h => kf (Int.not_le.mp (fun q => h ((iI_le hy hx).mpr q))))
theorem x_icmp_gt (hexec : p.tables.exec = Jvm.exec) (hb : c.code = cc) {x y : Int} {off : Int} {tgt : Nat} (hx : rI x) (hy : rI y) (hdg : decode cc pc = .ok (.if_icmp .gt off, 3)) (ht : (pc : Int) + off = (tgt : Int))
    (kt : y < x → W p l e R s m args below meth c H locs cells slots Q (F0 m tgt ls rest)) (kf : x ≤ y → W p l e R s m args below meth c H locs cells slots Q (F0 m (pc + 3) ls rest)) : W p l e R s m args below meth c H locs cells slots Q (F0 m pc ls (.int (iI y) :: .int (iI x) :: rest)) := by
  exact lv_icmp_gt hexec hb hdg ht (fun h => kt ((iI_lt hy hx).mp h)) (fun h => kf (Int.not_lt.mp (fun q => h ((iI_lt hy hx).mpr q))))
theorem x_if_gt (hexec : p.tables.exec = Jvm.exec) (hb : c.code = cc) {x : Int} {off : Int} {tgt : Nat} (hx : rI x) (hdg : decode cc pc = .ok (.ifCond .gt off, 3)) (ht : (pc : Int) + off = (tgt : Int))
    (kt : 0 < x → W p l e R s m args below meth c H locs cells slots Q (F0 m tgt ls rest)) (kf : x ≤ 0 → W p l e R s m args below meth c H locs cells slots Q (F0 m (pc + 3) ls rest)) : W p l e R s m args below meth c H locs cells slots Q (F0 m pc ls (.int (iI x) :: rest)) := by
  have hy : rI 0 := ⟨by omega, by omega⟩
  exact lv_if_gt hexec hb hdg ht (fun h => kt ((iI_lt hy hx).mp h)) (fun h => kf (Int.not_lt.mp (fun q => h ((iI_lt hy hx).mpr q))))
theorem x_icmp_le (hexec : p.tables.exec = Jvm.exec) (hb : c.code = cc) {x y : Int} {off : Int} {tgt : Nat} (hx : rI x) (hy : rI y) (hdg : decode cc pc = .ok (.if_icmp .le off, 3)) (ht : (pc : Int) + off = (tgt : Int))
    (kt : x ≤ y → W p l e R s m args below meth c H locs cells slots Q (F0 m tgt ls rest)) (kf : y < x → W p l e R s m args below meth c H locs cells slots Q (F0 m (pc + 3) ls rest)) : W p l e R s m args below meth c H locs cells slots Q (F0 m pc ls (.int (iI y) :: .int (iI x) :: rest)) := by
  exact lv_icmp_le hexec hb hdg ht (fun h => kt ((iI_le hx hy).mp h)) (fun h => kf (Int.not_le.mp (fun q => h ((iI_le hx hy).mpr q))))
theorem x_if_le (hexec : p.tables.exec = Jvm.exec) (hb : c.code = cc) {x : Int} {off : Int} {tgt : Nat} (hx : rI x) (hdg : decode cc pc = .ok (.ifCond .le off, 3)) (ht : (pc : Int) + off = (tgt : Int))
    (kt : x ≤ 0 → W p l e R s m args below meth c H locs cells slots Q (F0 m tgt ls rest)) (kf : 0 < x → W p l e R s m args below meth c H locs cells slots Q (F0 m (pc + 3) ls rest)) : W p l e R s m args below meth c H locs cells slots Q (F0 m pc ls (.int (iI x) :: rest)) := by
  have hy : rI 0 := ⟨by omega, by omega⟩
  exact lv_if_le hexec hb hdg ht (fun h => kt ((iI_le hx hy).mp h)) (fun h => kf (Int.not_le.mp (fun q => h ((iI_le hx hy).mpr q))))
theorem x_ifb_eq (hexec : p.tables.exec = Jvm.exec) (hb : c.code = cc) {q : Prop} [Decidable q] {off : Int} {tgt : Nat} (hdg : decode cc pc = .ok (.ifCond .eq off, 3)) (ht : (pc : Int) + off = (tgt : Int))
    (kt : ¬ q → W p l e R s m args below meth c H locs cells slots Q (F0 m tgt ls rest)) (kf : q → W p l e R s m args below meth c H locs cells slots Q (F0 m (pc + 3) ls rest)) : W p l e R s m args below meth c H locs cells slots Q (F0 m pc ls (.int (iI (b2 (decide q))) :: rest)) := by
  exact x_if_eq hexec hb (b2_r _) hdg ht (fun h => kt (fun q1 => by rw [b2_t q1] at h; omega)) (fun h => kf (Decidable.byContradiction fun q1 => h (b2_f q1)))
theorem x_ifb_ne (hexec : p.tables.exec = Jvm.exec) (hb : c.code = cc) {q : Prop} [Decidable q] {off : Int} {tgt : Nat} (hdg : decode cc pc = .ok (.ifCond .ne off, 3)) (ht : (pc : Int) + off = (tgt : Int))
    (kt : q → W p l e R s m args below meth c H locs cells slots Q (F0 m tgt ls rest)) (kf : ¬ q → W p l e R s m args below meth c H locs cells slots Q (F0 m (pc + 3) ls rest)) : W p l e R s m args below meth c H locs cells slots Q (F0 m pc ls (.int (iI (b2 (decide q))) :: rest)) := by
  exact x_if_ne hexec hb (b2_r _) hdg ht (fun h => kt (Decidable.byContradiction fun q1 => h (b2_f q1))) (fun h => kf (fun q1 => by rw [b2_t q1] at h; omega))
theorem x_lcmp_lt (hexec : p.tables.exec = Jvm.exec) (hb : c.code = cc) {x y : Int} {off : Int} {tgt : Nat} (hx : rL x) (hy : rL y) (hd0 : decode cc pc = .ok (.lcmp, 1)) (hdg : decode cc (pc + 1) = .ok (.ifCond .lt off, 3)) (ht : ((pc + 1 : Nat) : Int) + off = (tgt : Int))
    (kt : x < y → W p l e R s m args below meth c H locs cells slots Q (F0 m tgt ls rest)) (kf : y ≤ x → W p l e R s m args below meth c H locs cells slots Q (F0 m (pc + 1 + 3) ls rest)) : W p l e R s m args below meth c H locs cells slots Q (F0 m pc ls (.long (lI y) :: .long (lI x) :: rest)) := by
  refine W.lcmp hexec hb hd0 ?_
  rw [lg_cmp_i hx hy]
  have hr : rI (cpI x y) := cpI_r x y
  refine x_if_lt hexec hb hr hdg ht (fun h => kt (cpI_lt h)) (fun h => kf (cpI_nlt h))
theorem x_lcmp_ge (hexec : p.tables.exec = Jvm.exec) (hb : c.code = cc) {x y : Int} {off : Int} {tgt : Nat} (hx : rL x) (hy : rL y) (hd0 : decode cc pc = .ok (.lcmp, 1)) (hdg : decode cc (pc + 1) = .ok (.ifCond .ge off, 3)) (ht : ((pc + 1 : Nat) : Int) + off = (tgt : Int))
    (kt : y ≤ x → W p l e R s m args below meth c H locs cells slots Q (F0 m tgt ls rest)) (kf : x < y → W p l e R s m args below meth c H locs cells slots Q (F0 m (pc + 1 + 3) ls rest)) : W p l e R s m args below meth c H locs cells slots Q (F0 m pc ls (.long (lI y) :: .long (lI x) :: rest)) := by
  refine W.lcmp hexec hb hd0 ?_
  rw [lg_cmp_i hx hy]
  have hr : rI (cpI x y) := cpI_r x y
  refine x_if_ge hexec hb hr hdg ht (fun h => kt (cpI_ge h)) (fun h => kf (cpI_nge h))
theorem x_lcmp_gt (hexec : p.tables.exec = Jvm.exec) (hb : c.code = cc) {x y : Int} {off : Int} {tgt : Nat} (hx : rL x) (hy : rL y) (hd0 : decode cc pc = .ok (.lcmp, 1)) (hdg : decode cc (pc + 1) = .ok (.ifCond .gt off, 3)) (ht : ((pc + 1 : Nat) : Int) + off = (tgt : Int))
    (kt : y < x → W p l e R s m args below meth c H locs cells slots Q (F0 m tgt ls rest)) (kf : x ≤ y → W p l e R s m args below meth c H locs cells slots Q (F0 m (pc + 1 + 3) ls rest)) : W p l e R s m args below meth c H locs cells slots Q (F0 m pc ls (.long (lI y) :: .long (lI x) :: rest)) := by
  refine W.lcmp hexec hb hd0 ?_
  rw [lg_cmp_i hx hy]
  have hr : rI (cpI x y) := cpI_r x y
  refine x_if_gt hexec hb hr hdg ht (fun h => kt (cpI_gt h)) (fun h => kf (cpI_ngt h))
theorem x_lcmp_le (hexec : p.tables.exec = Jvm.exec) (hb : c.code = cc) {x y : Int} {off : Int} {tgt : Nat} (hx : rL x) (hy : rL y) (hd0 : decode cc pc = .ok (.lcmp, 1)) (hdg : decode cc (pc + 1) = .ok (.ifCond .le off, 3)) (ht : ((pc + 1 : Nat) : Int) + off = (tgt : Int))
    (kt : x ≤ y → W p l e R s m args below meth c H locs cells slots Q (F0 m tgt ls rest)) (kf : y < x → W p l e R s m args below meth c H locs cells slots Q (F0 m (pc + 1 + 3) ls rest)) : W p l e R s m args below meth c H locs cells slots Q (F0 m pc ls (.long (lI y) :: .long (lI x) :: rest)) := by
  refine W.lcmp hexec hb hd0 ?_
  rw [lg_cmp_i hx hy]
  have hr : rI (cpI x y) := cpI_r x y
  refine x_if_le hexec hb hr hdg ht (fun h => kt (cpI_le h)) (fun h => kf (cpI_nle h))
theorem x_lcmp_eq (hexec : p.tables.exec = Jvm.exec) (hb : c.code = cc) {x y : Int} {off : Int} {tgt : Nat} (hx : rL x) (hy : rL y) (hd0 : decode cc pc = .ok (.lcmp, 1)) (hdg : decode cc (pc + 1) = .ok (.ifCond .eq off, 3)) (ht : ((pc + 1 : Nat) : Int) + off = (tgt : Int))
    (kt : x = y → W p l e R s m args below meth c H locs cells slots Q (F0 m tgt ls rest)) (kf : x ≠ y → W p l e R s m args below meth c H locs cells slots Q (F0 m (pc + 1 + 3) ls rest)) : W p l e R s m args below meth c H locs cells slots Q (F0 m pc ls (.long (lI y) :: .long (lI x) :: rest)) := by
  refine W.lcmp hexec hb hd0 ?_
  rw [lg_cmp_i hx hy]
  have hr : rI (cpI x y) := cpI_r x y
  refine x_if_eq hexec hb hr hdg ht (fun h => kt (cpI_eq h)) (fun h => kf (cpI_neq h))
theorem x_lcmp_ne (hexec : p.tables.exec = Jvm.exec) (hb : c.code = cc) {x y : Int} {off : Int} {tgt : Nat} (hx : rL x) (hy : rL y) (hd0 : decode cc pc = .ok (.lcmp, 1)) (hdg : decode cc (pc + 1) = .ok (.ifCond .ne off, 3)) (ht : ((pc + 1 : Nat) : Int) + off = (tgt : Int))
    (kt : x ≠ y → W p l e R s m args below meth c H locs cells slots Q (F0 m tgt ls rest)) (kf : x = y → W p l e R s m args below meth c H locs cells slots Q (F0 m (pc + 1 + 3) ls rest)) : W p l e R s m args below meth c H locs cells slots Q (F0 m pc ls (.long (lI y) :: .long (lI x) :: rest)) := by
  refine W.lcmp hexec hb hd0 ?_
  rw [lg_cmp_i hx hy]
  have hr : rI (cpI x y) := cpI_r x y
  refine x_if_ne hexec hb hr hdg ht (fun h => kt (cpI_ne h)) (fun h => kf (cpI_nne h))
theorem x_iald (hexec : p.tables.exec = Jvm.exec) (hb : c.code = cc) {D : va_G} {cl : List vw_C} {tys : List (ClassId × FieldType)} {ws : va_W} {a : Nat} (hK : va_K D cl tys s) (hP : va_P D cl ws H) (q0 t0 : Nat) {cA : ClassId} {n : Nat} {g : Nat → Int} (ha : ws[q0]? = some (a, .inl (cA, n, .inl (aI g)))) (ht : tys[t0]? = some (cA, .int)) {i : Int} (j : Nat) (hj : i = (j : Int)) (hlt : j < n) (hn : n < 2147483648) (v : Int) (hv : g j = v) (hdg : decode cc pc = .ok (.iaload, 1))
    (kk : W p l e R s m args below meth c H locs cells slots Q (F0 m (pc + 1) ls (.int (iI v) :: rest))) : W p l e R s m args below meth c H locs cells slots Q (F0 m pc ls (.int (iI i) :: .ref a :: rest)) := by
  obtain ⟨h1, h2⟩ := iI_in j hj hlt hn
  refine va_iald hexec hb hK hP q0 t0 ha ht h1 hdg ?_
  rw [h2]
  subst hv
  exact kk
theorem x_bald (hexec : p.tables.exec = Jvm.exec) (hb : c.code = cc) {D : va_G} {cl : List vw_C} {tys : List (ClassId × FieldType)} {ws : va_W} {a : Nat} (hK : va_K D cl tys s) (hP : va_P D cl ws H) (q0 t0 : Nat) {cA : ClassId} {n : Nat} {g : Nat → Int} (ha : ws[q0]? = some (a, .inl (cA, n, .inl (aI g)))) (ht : tys[t0]? = some (cA, .byte)) {i : Int} (j : Nat) (hj : i = (j : Int)) (hlt : j < n) (hn : n < 2147483648) (v : Int) (hv : g j = v) (hdg : decode cc pc = .ok (.baload, 1))
    (kk : W p l e R s m args below meth c H locs cells slots Q (F0 m (pc + 1) ls (.int (iI v) :: rest))) : W p l e R s m args below meth c H locs cells slots Q (F0 m pc ls (.int (iI i) :: .ref a :: rest)) := by
  obtain ⟨h1, h2⟩ := iI_in j hj hlt hn
  refine va_bald hexec hb hK hP q0 t0 ha ht h1 hdg ?_
  rw [h2]
  subst hv
  exact kk
theorem x_iast (hexec : p.tables.exec = Jvm.exec) (hb : c.code = cc) {D : va_G} {cl : List vw_C} {tys : List (ClassId × FieldType)} {ws : va_W} {a : Nat} {A : Nat → Prop} {H0 : Heap} (hK : va_K D cl tys s) (hP : va_P D cl ws H) (hD : va_D A ws) (hS : va_S A H0 H locs) (q0 t0 : Nat) {cA : ClassId} {n : Nat} {g : Nat → Int} (ha : ws[q0]? = some (a, .inl (cA, n, .inl (aI g)))) (ht : tys[t0]? = some (cA, .int)) {i x : Int} (j : Nat) (hj : i = (j : Int)) (hlt : j < n) (hn : n < 2147483648) (ws1 : va_W) (hw : ws.set q0 (a, .inl (cA, n, .inl (aI (va_up g j x)))) = ws1) (hdg : decode cc pc = .ok (.iastore, 1))
    (kk : ∀ (H : Heap) (locs : List Loc), va_P D cl ws1 H → va_D A ws1 → va_S A H0 H locs → W p l e R s m args below meth c H locs cells slots Q (F0 m (pc + 1) ls rest)) : W p l e R s m args below meth c H locs cells slots Q (F0 m pc ls (.int (iI x) :: .int (iI i) :: .ref a :: rest)) := by
  obtain ⟨h1, h2⟩ := iI_in j hj hlt hn
  subst hw
  refine va_iast hexec hb hK hP hD hS q0 t0 ha ht h1 hdg (fun H1 locs1 p1 p2 p3 => ?_)
  rw [h2, aI_up] at p1 p2
  exact kk H1 locs1 p1 p2 p3
theorem x_bast (hexec : p.tables.exec = Jvm.exec) (hb : c.code = cc) {D : va_G} {cl : List vw_C} {tys : List (ClassId × FieldType)} {ws : va_W} {a : Nat} {A : Nat → Prop} {H0 : Heap} (hK : va_K D cl tys s) (hP : va_P D cl ws H) (hD : va_D A ws) (hS : va_S A H0 H locs) (q0 t0 : Nat) {cA : ClassId} {n : Nat} {g : Nat → Int} (ha : ws[q0]? = some (a, .inl (cA, n, .inl (aI g)))) (ht : tys[t0]? = some (cA, .byte)) {i x : Int} (j : Nat) (hj : i = (j : Int)) (hlt : j < n) (hn : n < 2147483648) (hx : byteI x = x) (ws1 : va_W) (hw : ws.set q0 (a, .inl (cA, n, .inl (aI (va_up g j x)))) = ws1) (hdg : decode cc pc = .ok (.bastore, 1))
    (kk : ∀ (H : Heap) (locs : List Loc), va_P D cl ws1 H → va_D A ws1 → va_S A H0 H locs → W p l e R s m args below meth c H locs cells slots Q (F0 m (pc + 1) ls rest)) : W p l e R s m args below meth c H locs cells slots Q (F0 m pc ls (.int (iI x) :: .int (iI i) :: .ref a :: rest)) := by
  obtain ⟨h1, h2⟩ := iI_in j hj hlt hn
  subst hw
  have h3 : vp_nar .byte (iI x) = iI x := by
    rw [vp_nar_byte]
    unfold byteI at hx
    have h4 := congrArg iI hx
    rw [iI_self] at h4
    exact h4
  refine va_bast hexec hb hK hP hD hS q0 t0 ha ht h1 hdg (fun H1 locs1 p1 p2 p3 => ?_)
  rw [h3, h2, aI_up] at p1 p2
  exact kk H1 locs1 p1 p2 p3
theorem x_copy (hexec : p.tables.exec = Jvm.exec) (hb : c.code = cc) {D : va_G} {cl : List vw_C} {tys : List (ClassId × FieldType)} {ws : va_W} {a a0 : Nat} {A : Nat → Prop} {H0 : Heap} {own : String} {index : Nat} (hml : c.maxLocals = ls.size) (hown : s.vm.findClass own = some m.cls) (hlink : (Cond.methodLink own index arraycopyName).before args s = true) (hnat : (Cond.native arraycopyName).before args s = true) (hstat : (Cond.static arraycopyName).before args s = true) (hini : (Cond.initialized "java/lang/System").before args s = true) (hK : va_K D cl tys s) (hP : va_P D cl ws H) (hD : va_D A ws) (hS : va_S A H0 H locs) (q0 q1 t0 : Nat) {cA : ClassId} {n0 n1 : Nat} {f g : Nat → Int} (ha0 : ws[q0]? = some (a0, .inl (cA, n0, .inl (aI f)))) (ha1 : ws[q1]? = some (a, .inl (cA, n1, .inl (aI g)))) (ht0 : tys[t0]? = some (cA, .int)) {sp dp n : Int} (js jd jn : Nat) (hjs : sp = (js : Int)) (hjd : dp = (jd : Int)) (hjn : n = (jn : Int)) (h4 : js + jn ≤ n0) (h5 : jd + jn ≤ n1) (hn0 : n0 < 2147483648) (hn1 : n1 < 2147483648) (hframes : 1 ≤ R.frames) (hlocals : (rest.map fun v => v.category).sum + (nativeFrameWords "java/lang/System" "arraycopy" 5 + 11) ≤ R.locals) (ws1 : va_W) (hw : ws.set q1 (a, .inl (cA, n1, .inl (aI (va_cpy f g js jd jn)))) = ws1) (hdg : decode cc pc = .ok (.invokestatic index, 3))
    (kk : ∀ (H : Heap) (locs : List Loc), va_P D cl ws1 H → va_D A ws1 → va_S A H0 H locs → W p l e R s m args below meth c H locs cells slots Q (F0 m (pc + 3) ls rest)) : W p l e R s m args below meth c H locs cells slots Q (F0 m pc ls (.int (iI n) :: .int (iI dp) :: .ref a :: .int (iI sp) :: .ref a0 :: rest)) := by
  subst hw hjs hjd hjn
  have r1 : rI (js : Int) := ⟨by omega, by omega⟩
  have r2 : rI (jd : Int) := ⟨by omega, by omega⟩
  have r3 : rI (jn : Int) := ⟨by omega, by omega⟩
  have ng : ∀ j : Nat, rI (j : Int) → ¬ iI (j : Int) < 0 := fun j r h => by
    have h1 := (iI_lt (b := 0) r ⟨by omega, by omega⟩).mp h
    omega
  have e1 : (iI (js : Int)).toNatClampNeg = js := by rw [iI_clamp r1]; omega
  have e2 : (iI (jd : Int)).toNatClampNeg = jd := by rw [iI_clamp r2]; omega
  have e3 : (iI (jn : Int)).toNatClampNeg = jn := by rw [iI_clamp r3]; omega
  refine va_copyi hexec hb hml hown hlink hnat hstat hini hK hP hD hS q0 q1 t0 t0 ha0 ha1 ht0 ht0 rfl (ng _ r1) (ng _ r2) (ng _ r3) (by rw [e1, e3]; exact h4) (by rw [e2, e3]; exact h5) (fun _ _ => rfl) hframes hlocals hdg (fun H1 locs1 p1 p2 p3 => ?_)
  rw [e1, e2, e3, aI_cpy] at p1 p2
  exact kk H1 locs1 p1 p2 p3
theorem x_mmax (hexec : p.tables.exec = Jvm.exec) (hb : c.code = cc) (hml : c.maxLocals = ls.size) {own : String} {index : Nat} (hown : s.vm.findClass own = some m.cls) (hlink : (Cond.methodLink own index Lib.Math.max.name).before args s = true) (hstat : (Cond.static Lib.Math.max.name).before args s = true) (hini : (Cond.initialized "java/lang/Math").before args s = true) (hcode : (Cond.code Lib.Math.max.name Lib.Math.max.code 2 (some .int)).before args s = true)
    (hframes : 1 ≤ R.frames) (hlocals : (rest.map fun v => v.category).sum + 13 ≤ R.locals) (hc : cells ≤ R.cells) (hs : slots ≤ R.slots) {x y : Int} (hx : rI x) (hy : rI y) (hdg : decode cc pc = .ok (.invokestatic index, 3))
    (kk : W p l e R s m args below meth c H locs cells slots Q (F0 m (pc + 3) ls (.int (iI (max x y)) :: rest))) : W p l e R s m args below meth c H locs cells slots Q (F0 m pc ls (.int (iI y) :: .int (iI x) :: rest)) := by
  refine va_mmax hexec hb hml hown hlink hstat hini hcode hframes hlocals hc hs hdg ?_
  rw [iI_max hx hy]
  exact kk
theorem x_mmin (hexec : p.tables.exec = Jvm.exec) (hb : c.code = cc) (hml : c.maxLocals = ls.size) {own : String} {index : Nat} (hown : s.vm.findClass own = some m.cls) (hlink : (Cond.methodLink own index Lib.Math.min.name).before args s = true) (hstat : (Cond.static Lib.Math.min.name).before args s = true) (hini : (Cond.initialized "java/lang/Math").before args s = true) (hcode : (Cond.code Lib.Math.min.name Lib.Math.min.code 2 (some .int)).before args s = true)
    (hframes : 1 ≤ R.frames) (hlocals : (rest.map fun v => v.category).sum + 13 ≤ R.locals) (hc : cells ≤ R.cells) (hs : slots ≤ R.slots) {x y : Int} (hx : rI x) (hy : rI y) (hdg : decode cc pc = .ok (.invokestatic index, 3))
    (kk : W p l e R s m args below meth c H locs cells slots Q (F0 m (pc + 3) ls (.int (iI (min x y)) :: rest))) : W p l e R s m args below meth c H locs cells slots Q (F0 m pc ls (.int (iI y) :: .int (iI x) :: rest)) := by
  refine va_mmin hexec hb hml hown hlink hstat hini hcode hframes hlocals hc hs hdg ?_
  rw [iI_min hx hy]
  exact kk
end XR
/-! contracts: a world of cells w becomes w' u, the answer is ans u, no cell is made -/
abbrev aO (w : va_W) : Nat → Prop := fun q => ∃ (k : Nat) (e : va_E), w[k]? = some (q, e)
def xB (D : va_G) (tys : List (ClassId × FieldType)) (w : va_W) : State → Prop := fun U => va_P D vwCl w U.heap ∧ va_K D vwCl tys U ∧ va_D (fun _ => True) w
def xQ (D : va_G) {S : Type} (ans : S → Option Value) (post : S → Prop) (w' : S → va_W) (A : Nat → Prop) : Array Value → State → Outcome → State → Prop := fun _ st oc t => (∃ u : S, oc = .returned (ans u) ∧ post u ∧ va_P D vwCl (w' u) t.heap) ∧ va_F A st t
def Ct (l : Launch) (y : MethodName) (ws : List Cond) (fr lo : Nat) (D : va_G) (tys : List (ClassId × FieldType)) (av : List Value) (w : va_W) {S : Type} (ans : S → Option Value) (post : S → Prop) (w' : S → va_W) : Prop :=
  Met l y ws { frames := fr, cells := 0, slots := 0, locals := lo } (va_Pc av (xB D tys w)) (xQ D ans post w' (aO w)) 0 0 (aO w)
def x_pick : Nat → List Nat → va_W → (Nat × va_E) → Nat × va_E
  | n, i :: is, e :: es, c => bif Nat.beq i n then e else x_pick n is es c
  | _, _, _, c => c
def x_put : Nat → va_W → List Nat → va_W → va_W
  | _, [], _, _ => []
  | n, c :: ws, is, es => x_pick n is es c :: x_put (n + 1) ws is es
theorem x_pick_get : ∀ (is : List Nat) (es : va_W), is.length = es.length → ∀ (n : Nat) (c : Nat × va_E), (∃ j : Nat, is[j]? = some n ∧ es[j]? = some (x_pick n is es c)) ∨ (n ∉ is ∧ x_pick n is es c = c)
  | [], es, _, n, c => Or.inr ⟨by simp, by cases es <;> rfl⟩
  | i :: is, [], hl, _, _ => by simp at hl
  | i :: is, e :: es, hl, n, c => by
    rw [x_pick]
    by_cases h : i = n
    · subst h
      have hb : Nat.beq i i = true := Nat.beq_refl i
      rw [hb]
      exact Or.inl ⟨0, by simp, by simp⟩
    · have hb : Nat.beq i n = false := by
        cases hx : Nat.beq i n with
        | true => exact absurd (Nat.eq_of_beq_eq_true hx) h
        | false => rfl
      rw [hb]
      show (∃ j : Nat, (i :: is)[j]? = some n ∧ (e :: es)[j]? = some (x_pick n is es c)) ∨ (n ∉ i :: is ∧ x_pick n is es c = c)
      rcases x_pick_get is es (by simpa using hl) n c with ⟨j, h1, h2⟩ | ⟨h1, h2⟩
      · exact Or.inl ⟨j + 1, by simpa using h1, by simpa using h2⟩
      · exact Or.inr ⟨by simp [h1, Ne.symm h], h2⟩
theorem x_put_get0 : ∀ (ws : va_W) (n : Nat) (is : List Nat) (es : va_W), is.length = es.length → ∀ (k : Nat) (q : Nat × va_E), (x_put n ws is es)[k]? = some q → (∃ j : Nat, is[j]? = some (n + k) ∧ es[j]? = some q) ∨ (n + k ∉ is ∧ ws[k]? = some q)
  | [], n, is, es, _, k, q, h => by simp [x_put] at h
  | c :: ws, n, is, es, hl, 0, q, h => by
    rw [x_put, List.getElem?_cons_zero] at h
    cases h
    rcases x_pick_get is es hl n c with ⟨j, h1, h2⟩ | ⟨h1, h2⟩
    · exact Or.inl ⟨j, h1, h2⟩
    · exact Or.inr ⟨h1, by rw [h2]; rfl⟩
  | c :: ws, n, is, es, hl, k + 1, q, h => by
    rw [x_put, List.getElem?_cons_succ] at h
    have := x_put_get0 ws (n + 1) is es hl k q h
    rw [show n + (k + 1) = n + 1 + k by omega, List.getElem?_cons_succ]
    exact this
theorem x_put_get (is : List Nat) (es ws : va_W) (hl : is.length = es.length) (k : Nat) (q : Nat × va_E) (h : (x_put 0 ws is es)[k]? = some q) : (∃ j : Nat, is[j]? = some k ∧ es[j]? = some q) ∨ (k ∉ is ∧ ws[k]? = some q) := by
  have := x_put_get0 ws 0 is es hl k q h
  rwa [Nat.zero_add] at this
section XC
variable {p : Program} {l : Launch} {e : Env} {R : Room} {s : State} {m : MethodId} {args : Array Value} {below : List Frame} {meth : Method} {c : Code} {H : Heap} {locs : List Loc} {cells slots : Nat} {Q : State → Prop}
variable {cc : ByteArray} {pc : Nat} {ls : Array Slot} {rest st0 : List Value} {D : va_G} {tys : List (ClassId × FieldType)} {ws w : va_W} {A : Nat → Prop} {H0 : Heap}
variable {S : Type} {ans : S → Option Value} {post : S → Prop} {w' : S → va_W} {y : MethodName} {bytes : ByteArray} {maxL nL n index fr lo : Nat} {ret : Option FieldType} {wsy Ts : List Cond} {own C : String} {b : Addr} {As av : List Value}
theorem x_goon (hr : va_Run p l e R s m args below meth c H locs cells slots 0 0 (F0 m pc ls st0) rest (xQ D ans post w' (aO w) av.toArray) (aO w)) (hP : va_P D vwCl ws H) (hD : va_D A ws) (hS : va_S A H0 H locs) (is : List Nat) (hC : is.map (fun i => ws[i]?) = w.map some) (hw' : ∀ u, (w' u).map Prod.fst = w.map Prod.fst) (wn : S → va_W) (hn : ∀ u, x_put 0 ws is (w' u) = wn u)
    (kk : ∀ (u : S) (H1 : Heap) (locs1 : List Loc), post u → va_P D vwCl (wn u) H1 → va_D A (wn u) → va_S A H0 H1 locs1 → W p l e R s m args below meth c H1 locs1 cells slots Q (F0 m (pc + 3) ls ((ans u).toList ++ rest))) : W p l e R s m args below meth c H locs cells slots Q (F0 m pc ls st0) := by
  intro T hT X
  obtain ⟨v, st₀, t, T', L, h0, X', hL, e1, e2, ⟨⟨u, hv, hp, hb⟩, hz, hk⟩, st⟩ := hr T hT X
  cases hv
  rw [h0] at hz hk
  have inC : ∀ (j i : Nat), is[j]? = some i → ∃ q, ws[i]? = some q ∧ w[j]? = some q := by
    intro j i hj
    have h1 : (is.map (fun i => ws[i]?))[j]? = some (ws[i]?) := by rw [List.getElem?_map, hj]; rfl
    rw [hC, List.getElem?_map] at h1
    cases hwj : w[j]? with
    | none => rw [hwj] at h1; cases h1
    | some q => rw [hwj] at h1; exact ⟨q, (Option.some.inj h1).symm, rfl⟩
  have ofC : ∀ (j : Nat) (q : Nat × va_E), w[j]? = some q → ∃ i, is[j]? = some i ∧ ws[i]? = some q := by
    intro j q hj
    have h1 : (w.map some)[j]? = some (some q) := by rw [List.getElem?_map, hj]; rfl
    rw [← hC, List.getElem?_map] at h1
    cases hi : is[j]? with
    | none => rw [hi] at h1; cases h1
    | some i => rw [hi] at h1; exact ⟨i, rfl, Option.some.inj h1⟩
  have hlen : is.length = (w' u).length := by
    have h1 := congrArg List.length hC
    have h2 := congrArg List.length (hw' u)
    simp only [List.length_map] at h1 h2
    omega
  have old : ∀ (k : Nat) (q : Nat × va_E), (x_put 0 ws is (w' u))[k]? = some q → ∃ q0, ws[k]? = some q0 ∧ q0.1 = q.1 := by
    intro k q hq
    rcases x_put_get is (w' u) ws hlen k q hq with ⟨j, h1, h2⟩ | ⟨-, h2⟩
    · obtain ⟨q0, h3, h4⟩ := inC j k h1
      refine ⟨q0, h3, ?_⟩
      have h5 : ((w' u).map Prod.fst)[j]? = some q.1 := by rw [List.getElem?_map, h2]; rfl
      rw [hw' u, List.getElem?_map, h4] at h5
      exact Option.some.inj h5
    · exact ⟨q, h2, rfl⟩
  have hP1 : va_P D vwCl (x_put 0 ws is (w' u)) t.heap := by
    intro k q hq
    rcases x_put_get is (w' u) ws hlen k q hq with ⟨j, -, h2⟩ | ⟨h1, h2⟩
    · exact hb j q h2
    · refine (hP k q h2).kept (hk q.1 (hP k q h2).lt ?_)
      rintro ⟨k2, e2, h3⟩
      obtain ⟨i, h4, h5⟩ := ofC k2 _ h3
      have h6 := hD.1 i k _ _ h5 h2 rfl
      subst h6
      exact h1 (List.mem_of_getElem? h4)
  have hD1 : va_D A (x_put 0 ws is (w' u)) := by
    refine ⟨fun i j p q hi hj hpq => ?_, fun k q hq => ?_⟩
    · obtain ⟨p0, h1, h2⟩ := old i p hi
      obtain ⟨q0, h3, h4⟩ := old j q hj
      exact hD.1 i j p0 q0 h1 h3 (h2.trans (hpq.trans h4.symm))
    · obtain ⟨q0, h1, h2⟩ := old k q hq
      rw [← h2]
      exact hD.2 k q0 h1
  have sub : ∀ q, aO w q → A q := by
    rintro q ⟨k, e, h⟩
    obtain ⟨i, -, h5⟩ := ofC k _ h
    exact hD.2 i _ h5
  rw [hn u] at hP1 hD1
  obtain ⟨t2, a1, b1⟩ := kk u T'.heap (locs ++ L) hp (by rw [e1]; exact hP1) hD1
    ⟨Nat.le_trans hS.1 (by rw [e1]; exact hz), fun q h1 h2 => by rw [e1, hk q (Nat.lt_of_lt_of_le h1 hS.1) (fun z => h2 (sub q z))]; exact hS.2.1 q h1 h2, fun q hq => by
      rcases List.mem_append.mp hq with h | h
      · exact hS.2.2 q h
      · exact sub _ (hL q h)⟩ T' rfl X'
  exact ⟨t2, st t2 a1, b1⟩
theorem xB_blind : FrameBlind (va_Pc av (xB D tys w)) := fun a U g mk q => ⟨q.1, q.2.1, va_K.moved (u := U) (U := U.calling g mk a) (Vm.Alike.refl U.vm) q.2.2.1, q.2.2.2⟩
theorem xB_pre (hP : va_P D vwCl ws H) (hK : va_K D vwCl tys s) (hD : va_D A ws) (is : List Nat) (hC : is.map (fun i => ws[i]?) = w.map some) (hnd : va_nd is = true) (U : State) (hU : U.heap = H) (hW : s.WarmedH U.vm) : va_Pc av (xB D tys w) av.toArray U := by
  refine ⟨rfl, ?_, va_K.moved hW.alike hK, (hD.sub is hnd hC).weaken (fun _ _ _ _ => trivial)⟩
  rw [hU]
  intro k q hk
  have h1 : (w.map some)[k]? = some (some q) := by rw [List.getElem?_map, hk]; rfl
  rw [← hC, List.getElem?_map] at h1
  cases hi : is[k]? with
  | none => rw [hi] at h1; cases h1
  | some i => rw [hi] at h1; exact hP i q (Option.some.inj h1)
theorem x_callV (CF : CallFix p m c cc nL s args Ts own) (hM : Ct l y wsy fr lo D tys (.ref b :: As) w ans post w') (cw : CallW R s args own C index y bytes maxL ret wsy { frames := fr, cells := 0, slots := 0, locals := lo } 0 0 n) (hP : va_P D vwCl ws H) (hK : va_K D vwCl tys s) (hD : va_D A ws) (hS : va_S A H0 H locs)
    (q0 ci : Nat) {q : vw_C} {fs : List Value} (hc : vwCl[ci]? = some q) (hqC : q.1 = C) (he : ws[q0]? = some (b, .inr (ci, fs))) (is : List Nat) (hC : is.map (fun i => ws[i]?) = w.map some) (hnd : va_nd is = true) (hw' : ∀ u, (w' u).map Prod.fst = w.map Prod.fst) (wn : S → va_W) (hwn : ∀ u, x_put 0 ws is (w' u) = wn u)
    (hn : As.length = n) (hsize : ls.size = nL) (hstack : st0 = As.reverse ++ .ref b :: rest) (hcat : (rest.map fun v => v.category).sum ≤ 8) (hdg : decode cc pc = .ok (.invokevirtual index, 3)) (hf : cells ≤ R.cells ∧ slots ≤ R.slots)
    (kk : ∀ (u : S) (H1 : Heap) (locs1 : List Loc), post u → va_P D vwCl (wn u) H1 → va_D A (wn u) → va_S A H0 H1 locs1 → W p l e R s m args below meth c H1 locs1 cells slots Q (F0 m (pc + 3) ls ((ans u).toList ++ rest))) : W p l e R s m args below meth c H locs cells slots Q (F0 m pc ls st0) := by
  subst hqC
  exact x_goon (va_runV (g := F0 m pc ls st0) CF hM cw ⟨xB_blind, va_recv hK hP hc he, fun U hU hW => xB_pre hP hK hD is hC hnd U hU hW⟩ rfl hn hsize hstack (lv_room hcat) hdg hf) hP hD hS is hC hw' wn hwn kk
theorem x_callS (CF : CallFix p m c cc nL s args Ts own) (hM : Ct l y wsy fr lo D tys As w ans post w') (cw : CallB R s args own index y bytes maxL ret wsy { frames := fr, cells := 0, slots := 0, locals := lo } 0 0 n ∧ (Cond.static y).before args s = true) (hP : va_P D vwCl ws H) (hK : va_K D vwCl tys s) (hD : va_D A ws) (hS : va_S A H0 H locs)
    (is : List Nat) (hC : is.map (fun i => ws[i]?) = w.map some) (hnd : va_nd is = true) (hw' : ∀ u, (w' u).map Prod.fst = w.map Prod.fst) (wn : S → va_W) (hwn : ∀ u, x_put 0 ws is (w' u) = wn u)
    (hn : As.length = n) (hsize : ls.size = nL) (hstack : st0 = As.reverse ++ rest) (hcat : (rest.map fun v => v.category).sum ≤ 8) (hdg : decode cc pc = .ok (.invokestatic index, 3)) (hf : cells ≤ R.cells ∧ slots ≤ R.slots)
    (kk : ∀ (u : S) (H1 : Heap) (locs1 : List Loc), post u → va_P D vwCl (wn u) H1 → va_D A (wn u) → va_S A H0 H1 locs1 → W p l e R s m args below meth c H1 locs1 cells slots Q (F0 m (pc + 3) ls ((ans u).toList ++ rest))) : W p l e R s m args below meth c H locs cells slots Q (F0 m pc ls st0) := by
  exact x_goon (va_runS (g := F0 m pc ls st0) CF hM cw ⟨xB_blind, fun U hU hW => xB_pre hP hK hD is hC hnd U hU hW⟩ rfl hn hsize hstack (lv_room hcat) hdg hf) hP hD hS is hC hw' wn hwn kk
theorem x_iret {v : Int32} (hexec : p.tables.exec = Jvm.exec) (hb : c.code = cc) (hr : meth.sig.returnType = some .int) (hlocks : meth.locks = false) (hP : va_P D vwCl ws H) (hS : va_S (aO w) s.heap H locs) (u : S) (ha : some (.int v) = ans u) (hp : post u) (hw : ws = w' u) (hdg : decode cc pc = .ok (.ireturn, 1)) : W p l e R s m args below meth c H locs cells slots (MQ below (xQ D ans post w' (aO w)) args s cells slots (aO w)) (F0 m pc ls [.int v]) := by
  subst hw
  exact W.iret hexec hb hr (fun t ht _ => ⟨⟨u, by rw [ha], hp, by rw [ht]; exact hP⟩, hS.F ht⟩) hS.2.2 hdg hlocks
theorem x_zret {v : Int} (hexec : p.tables.exec = Jvm.exec) (hb : c.code = cc) (hr : meth.sig.returnType = some .boolean) (hlocks : meth.locks = false) (hP : va_P D vwCl ws H) (hS : va_S (aO w) s.heap H locs) (u : S) (hz : v = 0 ∨ v = 1) (ha : some (.int (iI v)) = ans u) (hp : post u) (hw : ws = w' u) (hdg : decode cc pc = .ok (.ireturn, 1)) : W p l e R s m args below meth c H locs cells slots (MQ below (xQ D ans post w' (aO w)) args s cells slots (aO w)) (F0 m pc ls [.int (iI v)]) := by
  subst hw
  exact W.zret hexec hb hr (by rcases hz with rfl | rfl <;> decide) (fun t ht _ => ⟨⟨u, by rw [ha], hp, by rw [ht]; exact hP⟩, hS.F ht⟩) hS.2.2 hdg hlocks
theorem x_vret (hexec : p.tables.exec = Jvm.exec) (hb : c.code = cc) (hr : meth.sig.returnType = none) (hlocks : meth.locks = false) (hP : va_P D vwCl ws H) (hS : va_S (aO w) s.heap H locs) (u : S) (ha : none = ans u) (hp : post u) (hw : ws = w' u) (hdg : decode cc pc = .ok (.return_, 1)) : W p l e R s m args below meth c H locs cells slots (MQ below (xQ D ans post w' (aO w)) args s cells slots (aO w)) (F0 m pc ls []) := by
  subst hw
  exact W.vret hexec hb hr (fun t ht _ => ⟨⟨u, by rw [ha], hp, by rw [ht]; exact hP⟩, hS.F ht⟩) hS.2.2 hdg hlocks
theorem x_lret {v : Int64} (hexec : p.tables.exec = Jvm.exec) (hb : c.code = cc) (hr : meth.sig.returnType = some .long) (hlocks : meth.locks = false) (hP : va_P D vwCl ws H) (hS : va_S (aO w) s.heap H locs) (u : S) (ha : some (.long v) = ans u) (hp : post u) (hw : ws = w' u) (hdg : decode cc pc = .ok (.lreturn, 1)) : W p l e R s m args below meth c H locs cells slots (MQ below (xQ D ans post w' (aO w)) args s cells slots (aO w)) (F0 m pc ls [.long v]) := by
  subst hw
  exact W.lret hexec hb hr (fun t ht _ => ⟨⟨u, by rw [ha], hp, by rw [ht]; exact hP⟩, hS.F ht⟩) hS.2.2 hdg hlocks
end XC
theorem CtI.of {l : Launch} {y : MethodName} {ws ws' : List Cond} {fr lo : Nat} {D : va_G} {tys : List (ClassId × FieldType)} {av : List Value} {w : va_W} {S : Type} {ans : S → Option Value} {post : S → Prop} {w' : S → va_W} {cc : ByteArray} {maxL : Nat}
    (hy : plainName y.cls = true) (hw : ws = Cond.code y cc maxL (some .int) :: ws') (hfit : (lg_sl av).length ≤ maxL)
    (body : ∀ (p : Program) (e : Env) (s : State) (m : MethodId) (args : Array Value) (below : List Frame) (meth : Method) (c : Code) (Q : State → Prop) (A : Nat → Prop), p.tables.exec = Jvm.exec → c.code = cc → c.maxLocals = maxL → (∀ w ∈ ws, w.before args s = true) → s.vm.findClass y.cls = some m.cls → va_P D vwCl w s.heap → va_K D vwCl tys s → va_D A w → va_S A s.heap s.heap [] → ∀ ls : Array Slot, lv_has ls maxL (lv_args 0 av) →
      (∀ {H : Heap} {locs : List Loc} {pc : Nat} {ls : Array Slot} {v : Int32} (u : S), va_P D vwCl (w' u) H → va_S A s.heap H locs → ans u = some (.int v) → post u → decode cc pc = .ok (.ireturn, 1) → W p l e { frames := fr, cells := 0, slots := 0, locals := lo } s m args below meth c H locs 0 0 Q (F0 m pc ls [.int v])) →
      W p l e { frames := fr, cells := 0, slots := 0, locals := lo } s m args below meth c s.heap [] 0 0 Q (F0 m 0 ls [])) : Ct l y ws fr lo D tys av w ans post w' := by
  refine Met.ofW (cc := cc) (maxL := maxL) (ret := (some .int)) hy hw ?_
  intro p e s m args below meth c s₁ B hml hv
  obtain ⟨rfl, hP, hK, hD0⟩ := hv
  rw [lg_entry_eq]
  refine body p e s m av.toArray below meth c _ (aO w) B.exec B.bytes hml (atoms_spec (ws := ws) B.pre) (findClass_of_methodNamed B.named) hP hK ⟨hD0.1, fun k q h => ⟨k, q.2, h⟩⟩ va_S.rf _ (lv_entry av hfit) ?_
  intro H locs pc ls v u hP hS ha hp hdg
  exact x_iret B.exec B.bytes B.returns B.notSynchronized hP hS u ha.symm hp rfl hdg
theorem CtZ.of {l : Launch} {y : MethodName} {ws ws' : List Cond} {fr lo : Nat} {D : va_G} {tys : List (ClassId × FieldType)} {av : List Value} {w : va_W} {S : Type} {ans : S → Option Value} {post : S → Prop} {w' : S → va_W} {cc : ByteArray} {maxL : Nat}
    (hy : plainName y.cls = true) (hw : ws = Cond.code y cc maxL (some .boolean) :: ws') (hfit : (lg_sl av).length ≤ maxL)
    (body : ∀ (p : Program) (e : Env) (s : State) (m : MethodId) (args : Array Value) (below : List Frame) (meth : Method) (c : Code) (Q : State → Prop) (A : Nat → Prop), p.tables.exec = Jvm.exec → c.code = cc → c.maxLocals = maxL → (∀ w ∈ ws, w.before args s = true) → s.vm.findClass y.cls = some m.cls → va_P D vwCl w s.heap → va_K D vwCl tys s → va_D A w → va_S A s.heap s.heap [] → ∀ ls : Array Slot, lv_has ls maxL (lv_args 0 av) →
      (∀ {H : Heap} {locs : List Loc} {pc : Nat} {ls : Array Slot} {v : Int} (u : S), va_P D vwCl (w' u) H → va_S A s.heap H locs → ans u = some (.int (iI v)) → post u → (v = 0 ∨ v = 1) → decode cc pc = .ok (.ireturn, 1) → W p l e { frames := fr, cells := 0, slots := 0, locals := lo } s m args below meth c H locs 0 0 Q (F0 m pc ls [.int (iI v)])) →
      W p l e { frames := fr, cells := 0, slots := 0, locals := lo } s m args below meth c s.heap [] 0 0 Q (F0 m 0 ls [])) : Ct l y ws fr lo D tys av w ans post w' := by
  refine Met.ofW (cc := cc) (maxL := maxL) (ret := (some .boolean)) hy hw ?_
  intro p e s m args below meth c s₁ B hml hv
  obtain ⟨rfl, hP, hK, hD0⟩ := hv
  rw [lg_entry_eq]
  refine body p e s m av.toArray below meth c _ (aO w) B.exec B.bytes hml (atoms_spec (ws := ws) B.pre) (findClass_of_methodNamed B.named) hP hK ⟨hD0.1, fun k q h => ⟨k, q.2, h⟩⟩ va_S.rf _ (lv_entry av hfit) ?_
  intro H locs pc ls v u hP hS ha hp hz hdg
  exact x_zret B.exec B.bytes B.returns B.notSynchronized hP hS u hz ha.symm hp rfl hdg
theorem CtV.of {l : Launch} {y : MethodName} {ws ws' : List Cond} {fr lo : Nat} {D : va_G} {tys : List (ClassId × FieldType)} {av : List Value} {w : va_W} {S : Type} {ans : S → Option Value} {post : S → Prop} {w' : S → va_W} {cc : ByteArray} {maxL : Nat}
    (hy : plainName y.cls = true) (hw : ws = Cond.code y cc maxL none :: ws') (hfit : (lg_sl av).length ≤ maxL)
    (body : ∀ (p : Program) (e : Env) (s : State) (m : MethodId) (args : Array Value) (below : List Frame) (meth : Method) (c : Code) (Q : State → Prop) (A : Nat → Prop), p.tables.exec = Jvm.exec → c.code = cc → c.maxLocals = maxL → (∀ w ∈ ws, w.before args s = true) → s.vm.findClass y.cls = some m.cls → va_P D vwCl w s.heap → va_K D vwCl tys s → va_D A w → va_S A s.heap s.heap [] → ∀ ls : Array Slot, lv_has ls maxL (lv_args 0 av) →
      (∀ {H : Heap} {locs : List Loc} {pc : Nat} {ls : Array Slot} (u : S), va_P D vwCl (w' u) H → va_S A s.heap H locs → ans u = none → post u → decode cc pc = .ok (.return_, 1) → W p l e { frames := fr, cells := 0, slots := 0, locals := lo } s m args below meth c H locs 0 0 Q (F0 m pc ls [])) →
      W p l e { frames := fr, cells := 0, slots := 0, locals := lo } s m args below meth c s.heap [] 0 0 Q (F0 m 0 ls [])) : Ct l y ws fr lo D tys av w ans post w' := by
  refine Met.ofW (cc := cc) (maxL := maxL) (ret := none) hy hw ?_
  intro p e s m args below meth c s₁ B hml hv
  obtain ⟨rfl, hP, hK, hD0⟩ := hv
  rw [lg_entry_eq]
  refine body p e s m av.toArray below meth c _ (aO w) B.exec B.bytes hml (atoms_spec (ws := ws) B.pre) (findClass_of_methodNamed B.named) hP hK ⟨hD0.1, fun k q h => ⟨k, q.2, h⟩⟩ va_S.rf _ (lv_entry av hfit) ?_
  intro H locs pc ls u hP hS ha hp hdg
  exact x_vret B.exec B.bytes B.returns B.notSynchronized hP hS u ha.symm hp rfl hdg
theorem CtL.of {l : Launch} {y : MethodName} {ws ws' : List Cond} {fr lo : Nat} {D : va_G} {tys : List (ClassId × FieldType)} {av : List Value} {w : va_W} {S : Type} {ans : S → Option Value} {post : S → Prop} {w' : S → va_W} {cc : ByteArray} {maxL : Nat}
    (hy : plainName y.cls = true) (hw : ws = Cond.code y cc maxL (some .long) :: ws') (hfit : (lg_sl av).length ≤ maxL)
    (body : ∀ (p : Program) (e : Env) (s : State) (m : MethodId) (args : Array Value) (below : List Frame) (meth : Method) (c : Code) (Q : State → Prop) (A : Nat → Prop), p.tables.exec = Jvm.exec → c.code = cc → c.maxLocals = maxL → (∀ w ∈ ws, w.before args s = true) → s.vm.findClass y.cls = some m.cls → va_P D vwCl w s.heap → va_K D vwCl tys s → va_D A w → va_S A s.heap s.heap [] → ∀ ls : Array Slot, lv_has ls maxL (lv_args 0 av) →
      (∀ {H : Heap} {locs : List Loc} {pc : Nat} {ls : Array Slot} {v : Int64} (u : S), va_P D vwCl (w' u) H → va_S A s.heap H locs → ans u = some (.long v) → post u → decode cc pc = .ok (.lreturn, 1) → W p l e { frames := fr, cells := 0, slots := 0, locals := lo } s m args below meth c H locs 0 0 Q (F0 m pc ls [.long v])) →
      W p l e { frames := fr, cells := 0, slots := 0, locals := lo } s m args below meth c s.heap [] 0 0 Q (F0 m 0 ls [])) : Ct l y ws fr lo D tys av w ans post w' := by
  refine Met.ofW (cc := cc) (maxL := maxL) (ret := (some .long)) hy hw ?_
  intro p e s m args below meth c s₁ B hml hv
  obtain ⟨rfl, hP, hK, hD0⟩ := hv
  rw [lg_entry_eq]
  refine body p e s m av.toArray below meth c _ (aO w) B.exec B.bytes hml (atoms_spec (ws := ws) B.pre) (findClass_of_methodNamed B.named) hP hK ⟨hD0.1, fun k q h => ⟨k, q.2, h⟩⟩ va_S.rf _ (lv_entry av hfit) ?_
  intro H locs pc ls v u hP hS ha hp hdg
  exact x_lret B.exec B.bytes B.returns B.notSynchronized hP hS u ha.symm hp rfl hdg
