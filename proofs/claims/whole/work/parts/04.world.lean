/-! the worlds: which cells hold what -/
def gd (n : Nat) (f : Nat → Int) : Nat → Int := fun i => if i < n then f i else 0
theorem gd_at (f : Nat → Int) {n j : Nat} (h : j < n) : gd n f j = f j := by simp [gd, h]
theorem gd_congr {n : Nat} {f g : Nat → Int} (h : ∀ i, i < n → f i = g i) : gd n f = gd n g := by
  funext i
  unfold gd
  split
  · exact h i (by assumption)
  · rfl
theorem gd_up {n j : Nat} (f : Nat → Int) (v : Int) (h : j < n) : va_up (gd n f) j v = gd n (va_up f j v) := by
  funext i
  by_cases hi : i = j
  · subst hi; simp [va_up, gd, h]
  · simp [va_up, gd, hi]
theorem cpy_all (f g : Nat → Int) (n : Nat) : va_cpy (gd n f) (gd n g) 0 0 n = gd n f := by
  funext i
  unfold va_cpy gd
  by_cases h : i < n <;> simp [h]
def plG (T : Tb) : Nat → Int := fun i => T (cx (i / 6) (4 + i % 6))
theorem plG_at (T : Tb) {p t : Nat} (h : t < 6) : plG T (6 * p + t) = T (cx p (4 + t)) := by
  unfold plG
  rw [show (6 * p + t) / 6 = p by omega, show (6 * p + t) % 6 = t by omega]
theorem plG_gd (T : Tb) {p t : Nat} (hp : p < 8) (h : t < 6) : gd 48 (plG T) (6 * p + t) = T (cx p (4 + t)) := by
  rw [gd_at _ (by omega), plG_at T h]
def wTab (cI : ClassId) (q : Nat → Nat) (T : Tb) (b : Int) : va_W :=
  [(q 0, .inr (1, [.int (iI (T 1)), .int (iI (T 3)), .int (iI (T 2)), .int (iI (T 0)), .int (iI b), .ref (q 1), .ref (q 2), .ref (q 3), .ref (q 4), .ref (q 5), .ref (q 6), .ref (q 7)])),
   (q 1, .inl (cI, 6, .inl (aI (gd 6 (fun i => T (4 + i)))))),
   (q 2, .inl (cI, 8, .inl (aI (gd 8 (fun i => T (cx i 0)))))),
   (q 3, .inl (cI, 8, .inl (aI (gd 8 (fun i => T (cx i 1)))))),
   (q 4, .inl (cI, 8, .inl (aI (gd 8 (fun i => T (cx i 2)))))),
   (q 5, .inl (cI, 8, .inl (aI (gd 8 (fun i => T (cx i 3)))))),
   (q 6, .inl (cI, 48, .inl (aI (gd 48 (plG T))))),
   (q 7, .inl (cI, 10, .inl (aI (gd 10 (fun i => T (90 + i))))))]
-- day
theorem wT_day (cI : ClassId) (q : Nat → Nat) (T : Tb) (b v : Int)   : (wTab cI q T b).set 0 (q 0, .inr (1, ([.int (iI (T 1)), .int (iI (T 3)), .int (iI (T 2)), .int (iI (T 0)), .int (iI b), .ref (q 1), .ref (q 2), .ref (q 3), .ref (q 4), .ref (q 5), .ref (q 6), .ref (q 7)]).set 0 (.int (iI v)))) = wTab cI q (va_up T (1) v) b := by
  have s0 : (va_up T (1) v) 1 = v := up_s _ _ _
  have s1 : (va_up T (1) v) 3 = T 3 := up_n _ _ (by omega)
  have s2 : (va_up T (1) v) 2 = T 2 := up_n _ _ (by omega)
  have s3 : (va_up T (1) v) 0 = T 0 := up_n _ _ (by omega)
  have a1 : gd 6 (fun i => (va_up T (1) v) (4 + i)) = gd 6 (fun i => T (4 + i)) := gd_congr (fun i hi => up_n _ _ (by omega))
  have a2 : gd 8 (fun i => (va_up T (1) v) (cx i 0)) = gd 8 (fun i => T (cx i 0)) := gd_congr (fun i hi => up_n _ _ (by unfold cx; omega))
  have a3 : gd 8 (fun i => (va_up T (1) v) (cx i 1)) = gd 8 (fun i => T (cx i 1)) := gd_congr (fun i hi => up_n _ _ (by unfold cx; omega))
  have a4 : gd 8 (fun i => (va_up T (1) v) (cx i 2)) = gd 8 (fun i => T (cx i 2)) := gd_congr (fun i hi => up_n _ _ (by unfold cx; omega))
  have a5 : gd 8 (fun i => (va_up T (1) v) (cx i 3)) = gd 8 (fun i => T (cx i 3)) := gd_congr (fun i hi => up_n _ _ (by unfold cx; omega))
  have a6 : gd 48 (plG (va_up T (1) v)) = gd 48 (plG T) := gd_congr (fun i hi => up_n _ _ (by unfold cx; omega))
  have a7 : gd 10 (fun i => (va_up T (1) v) (90 + i)) = gd 10 (fun i => T (90 + i)) := gd_congr (fun i hi => up_n _ _ (by omega))
  unfold wTab
  simp only [s0, s1, s2, s3, a1, a2, a3, a4, a5, a6, a7]
  rfl
-- vin
theorem wT_vin (cI : ClassId) (q : Nat → Nat) (T : Tb) (b v : Int)   : (wTab cI q T b).set 0 (q 0, .inr (1, ([.int (iI (T 1)), .int (iI (T 3)), .int (iI (T 2)), .int (iI (T 0)), .int (iI b), .ref (q 1), .ref (q 2), .ref (q 3), .ref (q 4), .ref (q 5), .ref (q 6), .ref (q 7)]).set 1 (.int (iI v)))) = wTab cI q (va_up T (3) v) b := by
  have s0 : (va_up T (3) v) 1 = T 1 := up_n _ _ (by omega)
  have s1 : (va_up T (3) v) 3 = v := up_s _ _ _
  have s2 : (va_up T (3) v) 2 = T 2 := up_n _ _ (by omega)
  have s3 : (va_up T (3) v) 0 = T 0 := up_n _ _ (by omega)
  have a1 : gd 6 (fun i => (va_up T (3) v) (4 + i)) = gd 6 (fun i => T (4 + i)) := gd_congr (fun i hi => up_n _ _ (by omega))
  have a2 : gd 8 (fun i => (va_up T (3) v) (cx i 0)) = gd 8 (fun i => T (cx i 0)) := gd_congr (fun i hi => up_n _ _ (by unfold cx; omega))
  have a3 : gd 8 (fun i => (va_up T (3) v) (cx i 1)) = gd 8 (fun i => T (cx i 1)) := gd_congr (fun i hi => up_n _ _ (by unfold cx; omega))
  have a4 : gd 8 (fun i => (va_up T (3) v) (cx i 2)) = gd 8 (fun i => T (cx i 2)) := gd_congr (fun i hi => up_n _ _ (by unfold cx; omega))
  have a5 : gd 8 (fun i => (va_up T (3) v) (cx i 3)) = gd 8 (fun i => T (cx i 3)) := gd_congr (fun i hi => up_n _ _ (by unfold cx; omega))
  have a6 : gd 48 (plG (va_up T (3) v)) = gd 48 (plG T) := gd_congr (fun i hi => up_n _ _ (by unfold cx; omega))
  have a7 : gd 10 (fun i => (va_up T (3) v) (90 + i)) = gd 10 (fun i => T (90 + i)) := gd_congr (fun i hi => up_n _ _ (by omega))
  unfold wTab
  simp only [s0, s1, s2, s3, a1, a2, a3, a4, a5, a6, a7]
  rfl
-- z
theorem wT_z (cI : ClassId) (q : Nat → Nat) (T : Tb) (b v : Int)   : (wTab cI q T b).set 0 (q 0, .inr (1, ([.int (iI (T 1)), .int (iI (T 3)), .int (iI (T 2)), .int (iI (T 0)), .int (iI b), .ref (q 1), .ref (q 2), .ref (q 3), .ref (q 4), .ref (q 5), .ref (q 6), .ref (q 7)]).set 2 (.int (iI v)))) = wTab cI q (va_up T (2) v) b := by
  have s0 : (va_up T (2) v) 1 = T 1 := up_n _ _ (by omega)
  have s1 : (va_up T (2) v) 3 = T 3 := up_n _ _ (by omega)
  have s2 : (va_up T (2) v) 2 = v := up_s _ _ _
  have s3 : (va_up T (2) v) 0 = T 0 := up_n _ _ (by omega)
  have a1 : gd 6 (fun i => (va_up T (2) v) (4 + i)) = gd 6 (fun i => T (4 + i)) := gd_congr (fun i hi => up_n _ _ (by omega))
  have a2 : gd 8 (fun i => (va_up T (2) v) (cx i 0)) = gd 8 (fun i => T (cx i 0)) := gd_congr (fun i hi => up_n _ _ (by unfold cx; omega))
  have a3 : gd 8 (fun i => (va_up T (2) v) (cx i 1)) = gd 8 (fun i => T (cx i 1)) := gd_congr (fun i hi => up_n _ _ (by unfold cx; omega))
  have a4 : gd 8 (fun i => (va_up T (2) v) (cx i 2)) = gd 8 (fun i => T (cx i 2)) := gd_congr (fun i hi => up_n _ _ (by unfold cx; omega))
  have a5 : gd 8 (fun i => (va_up T (2) v) (cx i 3)) = gd 8 (fun i => T (cx i 3)) := gd_congr (fun i hi => up_n _ _ (by unfold cx; omega))
  have a6 : gd 48 (plG (va_up T (2) v)) = gd 48 (plG T) := gd_congr (fun i hi => up_n _ _ (by unfold cx; omega))
  have a7 : gd 10 (fun i => (va_up T (2) v) (90 + i)) = gd 10 (fun i => T (90 + i)) := gd_congr (fun i hi => up_n _ _ (by omega))
  unfold wTab
  simp only [s0, s1, s2, s3, a1, a2, a3, a4, a5, a6, a7]
  rfl
-- seats
theorem wT_seats (cI : ClassId) (q : Nat → Nat) (T : Tb) (b v : Int)   : (wTab cI q T b).set 0 (q 0, .inr (1, ([.int (iI (T 1)), .int (iI (T 3)), .int (iI (T 2)), .int (iI (T 0)), .int (iI b), .ref (q 1), .ref (q 2), .ref (q 3), .ref (q 4), .ref (q 5), .ref (q 6), .ref (q 7)]).set 3 (.int (iI v)))) = wTab cI q (va_up T (0) v) b := by
  have s0 : (va_up T (0) v) 1 = T 1 := up_n _ _ (by omega)
  have s1 : (va_up T (0) v) 3 = T 3 := up_n _ _ (by omega)
  have s2 : (va_up T (0) v) 2 = T 2 := up_n _ _ (by omega)
  have s3 : (va_up T (0) v) 0 = v := up_s _ _ _
  have a1 : gd 6 (fun i => (va_up T (0) v) (4 + i)) = gd 6 (fun i => T (4 + i)) := gd_congr (fun i hi => up_n _ _ (by omega))
  have a2 : gd 8 (fun i => (va_up T (0) v) (cx i 0)) = gd 8 (fun i => T (cx i 0)) := gd_congr (fun i hi => up_n _ _ (by unfold cx; omega))
  have a3 : gd 8 (fun i => (va_up T (0) v) (cx i 1)) = gd 8 (fun i => T (cx i 1)) := gd_congr (fun i hi => up_n _ _ (by unfold cx; omega))
  have a4 : gd 8 (fun i => (va_up T (0) v) (cx i 2)) = gd 8 (fun i => T (cx i 2)) := gd_congr (fun i hi => up_n _ _ (by unfold cx; omega))
  have a5 : gd 8 (fun i => (va_up T (0) v) (cx i 3)) = gd 8 (fun i => T (cx i 3)) := gd_congr (fun i hi => up_n _ _ (by unfold cx; omega))
  have a6 : gd 48 (plG (va_up T (0) v)) = gd 48 (plG T) := gd_congr (fun i hi => up_n _ _ (by unfold cx; omega))
  have a7 : gd 10 (fun i => (va_up T (0) v) (90 + i)) = gd 10 (fun i => T (90 + i)) := gd_congr (fun i hi => up_n _ _ (by omega))
  unfold wTab
  simp only [s0, s1, s2, s3, a1, a2, a3, a4, a5, a6, a7]
  rfl
theorem wT_b (cI : ClassId) (q : Nat → Nat) (T : Tb) (b v : Int) : (wTab cI q T b).set 0 (q 0, .inr (1, ([.int (iI (T 1)), .int (iI (T 3)), .int (iI (T 2)), .int (iI (T 0)), .int (iI b), .ref (q 1), .ref (q 2), .ref (q 3), .ref (q 4), .ref (q 5), .ref (q 6), .ref (q 7)]).set 4 (.int (iI v)))) = wTab cI q T v := rfl
theorem wT_listed (cI : ClassId) (q : Nat → Nat) (T : Tb) (b v : Int) (t : Nat) (ht : t < 6) : (wTab cI q T b).set 1 (q 1, .inl (cI, 6, .inl (aI (va_up (gd 6 (fun i => T (4 + i))) (t) v)))) = wTab cI q (va_up T (4 + t) v) b := by
  have s0 : (va_up T (4 + t) v) 1 = T 1 := up_n _ _ (by omega)
  have s1 : (va_up T (4 + t) v) 3 = T 3 := up_n _ _ (by omega)
  have s2 : (va_up T (4 + t) v) 2 = T 2 := up_n _ _ (by omega)
  have s3 : (va_up T (4 + t) v) 0 = T 0 := up_n _ _ (by omega)
  have a1 : gd 6 (fun i => (va_up T (4 + t) v) (4 + i)) = va_up (gd 6 (fun i => T (4 + i))) (t) v := by
    rw [gd_up _ _ (by omega)]
    refine gd_congr (fun i hi => ?_)
    by_cases h : i = t
    · subst h; rw [up_s]; exact (up_s _ _ _).symm
    · rw [up_n _ _ h]; exact up_n _ _ (by omega)
  have a2 : gd 8 (fun i => (va_up T (4 + t) v) (cx i 0)) = gd 8 (fun i => T (cx i 0)) := gd_congr (fun i hi => up_n _ _ (by unfold cx; omega))
  have a3 : gd 8 (fun i => (va_up T (4 + t) v) (cx i 1)) = gd 8 (fun i => T (cx i 1)) := gd_congr (fun i hi => up_n _ _ (by unfold cx; omega))
  have a4 : gd 8 (fun i => (va_up T (4 + t) v) (cx i 2)) = gd 8 (fun i => T (cx i 2)) := gd_congr (fun i hi => up_n _ _ (by unfold cx; omega))
  have a5 : gd 8 (fun i => (va_up T (4 + t) v) (cx i 3)) = gd 8 (fun i => T (cx i 3)) := gd_congr (fun i hi => up_n _ _ (by unfold cx; omega))
  have a6 : gd 48 (plG (va_up T (4 + t) v)) = gd 48 (plG T) := gd_congr (fun i hi => up_n _ _ (by unfold cx; omega))
  have a7 : gd 10 (fun i => (va_up T (4 + t) v) (90 + i)) = gd 10 (fun i => T (90 + i)) := gd_congr (fun i hi => up_n _ _ (by omega))
  unfold wTab
  simp only [s0, s1, s2, s3, a1, a2, a3, a4, a5, a6, a7]
  rfl
theorem wT_kind (cI : ClassId) (q : Nat → Nat) (T : Tb) (b v : Int) (p : Nat) (hp : p < 8) : (wTab cI q T b).set 2 (q 2, .inl (cI, 8, .inl (aI (va_up (gd 8 (fun i => T (cx i 0))) (p) v)))) = wTab cI q (va_up T (cx p 0) v) b := by
  have s0 : (va_up T (cx p 0) v) 1 = T 1 := up_n _ _ (by unfold cx; omega)
  have s1 : (va_up T (cx p 0) v) 3 = T 3 := up_n _ _ (by unfold cx; omega)
  have s2 : (va_up T (cx p 0) v) 2 = T 2 := up_n _ _ (by unfold cx; omega)
  have s3 : (va_up T (cx p 0) v) 0 = T 0 := up_n _ _ (by unfold cx; omega)
  have a1 : gd 6 (fun i => (va_up T (cx p 0) v) (4 + i)) = gd 6 (fun i => T (4 + i)) := gd_congr (fun i hi => up_n _ _ (by unfold cx; omega))
  have a2 : gd 8 (fun i => (va_up T (cx p 0) v) (cx i 0)) = va_up (gd 8 (fun i => T (cx i 0))) (p) v := by
    rw [gd_up _ _ (by omega)]
    refine gd_congr (fun i hi => ?_)
    by_cases h : i = p
    · subst h; rw [up_s]; exact (up_s _ _ _).symm
    · rw [up_n _ _ h]; exact up_n _ _ (by unfold cx; omega)
  have a3 : gd 8 (fun i => (va_up T (cx p 0) v) (cx i 1)) = gd 8 (fun i => T (cx i 1)) := gd_congr (fun i hi => up_n _ _ (by unfold cx; omega))
  have a4 : gd 8 (fun i => (va_up T (cx p 0) v) (cx i 2)) = gd 8 (fun i => T (cx i 2)) := gd_congr (fun i hi => up_n _ _ (by unfold cx; omega))
  have a5 : gd 8 (fun i => (va_up T (cx p 0) v) (cx i 3)) = gd 8 (fun i => T (cx i 3)) := gd_congr (fun i hi => up_n _ _ (by unfold cx; omega))
  have a6 : gd 48 (plG (va_up T (cx p 0) v)) = gd 48 (plG T) := gd_congr (fun i hi => up_n _ _ (by unfold cx; omega))
  have a7 : gd 10 (fun i => (va_up T (cx p 0) v) (90 + i)) = gd 10 (fun i => T (90 + i)) := gd_congr (fun i hi => up_n _ _ (by unfold cx; omega))
  unfold wTab
  simp only [s0, s1, s2, s3, a1, a2, a3, a4, a5, a6, a7]
  rfl
theorem wT_loves (cI : ClassId) (q : Nat → Nat) (T : Tb) (b v : Int) (p : Nat) (hp : p < 8) : (wTab cI q T b).set 3 (q 3, .inl (cI, 8, .inl (aI (va_up (gd 8 (fun i => T (cx i 1))) (p) v)))) = wTab cI q (va_up T (cx p 1) v) b := by
  have s0 : (va_up T (cx p 1) v) 1 = T 1 := up_n _ _ (by unfold cx; omega)
  have s1 : (va_up T (cx p 1) v) 3 = T 3 := up_n _ _ (by unfold cx; omega)
  have s2 : (va_up T (cx p 1) v) 2 = T 2 := up_n _ _ (by unfold cx; omega)
  have s3 : (va_up T (cx p 1) v) 0 = T 0 := up_n _ _ (by unfold cx; omega)
  have a1 : gd 6 (fun i => (va_up T (cx p 1) v) (4 + i)) = gd 6 (fun i => T (4 + i)) := gd_congr (fun i hi => up_n _ _ (by unfold cx; omega))
  have a2 : gd 8 (fun i => (va_up T (cx p 1) v) (cx i 0)) = gd 8 (fun i => T (cx i 0)) := gd_congr (fun i hi => up_n _ _ (by unfold cx; omega))
  have a3 : gd 8 (fun i => (va_up T (cx p 1) v) (cx i 1)) = va_up (gd 8 (fun i => T (cx i 1))) (p) v := by
    rw [gd_up _ _ (by omega)]
    refine gd_congr (fun i hi => ?_)
    by_cases h : i = p
    · subst h; rw [up_s]; exact (up_s _ _ _).symm
    · rw [up_n _ _ h]; exact up_n _ _ (by unfold cx; omega)
  have a4 : gd 8 (fun i => (va_up T (cx p 1) v) (cx i 2)) = gd 8 (fun i => T (cx i 2)) := gd_congr (fun i hi => up_n _ _ (by unfold cx; omega))
  have a5 : gd 8 (fun i => (va_up T (cx p 1) v) (cx i 3)) = gd 8 (fun i => T (cx i 3)) := gd_congr (fun i hi => up_n _ _ (by unfold cx; omega))
  have a6 : gd 48 (plG (va_up T (cx p 1) v)) = gd 48 (plG T) := gd_congr (fun i hi => up_n _ _ (by unfold cx; omega))
  have a7 : gd 10 (fun i => (va_up T (cx p 1) v) (90 + i)) = gd 10 (fun i => T (90 + i)) := gd_congr (fun i hi => up_n _ _ (by unfold cx; omega))
  unfold wTab
  simp only [s0, s1, s2, s3, a1, a2, a3, a4, a5, a6, a7]
  rfl
theorem wT_fat (cI : ClassId) (q : Nat → Nat) (T : Tb) (b v : Int) (p : Nat) (hp : p < 8) : (wTab cI q T b).set 4 (q 4, .inl (cI, 8, .inl (aI (va_up (gd 8 (fun i => T (cx i 2))) (p) v)))) = wTab cI q (va_up T (cx p 2) v) b := by
  have s0 : (va_up T (cx p 2) v) 1 = T 1 := up_n _ _ (by unfold cx; omega)
  have s1 : (va_up T (cx p 2) v) 3 = T 3 := up_n _ _ (by unfold cx; omega)
  have s2 : (va_up T (cx p 2) v) 2 = T 2 := up_n _ _ (by unfold cx; omega)
  have s3 : (va_up T (cx p 2) v) 0 = T 0 := up_n _ _ (by unfold cx; omega)
  have a1 : gd 6 (fun i => (va_up T (cx p 2) v) (4 + i)) = gd 6 (fun i => T (4 + i)) := gd_congr (fun i hi => up_n _ _ (by unfold cx; omega))
  have a2 : gd 8 (fun i => (va_up T (cx p 2) v) (cx i 0)) = gd 8 (fun i => T (cx i 0)) := gd_congr (fun i hi => up_n _ _ (by unfold cx; omega))
  have a3 : gd 8 (fun i => (va_up T (cx p 2) v) (cx i 1)) = gd 8 (fun i => T (cx i 1)) := gd_congr (fun i hi => up_n _ _ (by unfold cx; omega))
  have a4 : gd 8 (fun i => (va_up T (cx p 2) v) (cx i 2)) = va_up (gd 8 (fun i => T (cx i 2))) (p) v := by
    rw [gd_up _ _ (by omega)]
    refine gd_congr (fun i hi => ?_)
    by_cases h : i = p
    · subst h; rw [up_s]; exact (up_s _ _ _).symm
    · rw [up_n _ _ h]; exact up_n _ _ (by unfold cx; omega)
  have a5 : gd 8 (fun i => (va_up T (cx p 2) v) (cx i 3)) = gd 8 (fun i => T (cx i 3)) := gd_congr (fun i hi => up_n _ _ (by unfold cx; omega))
  have a6 : gd 48 (plG (va_up T (cx p 2) v)) = gd 48 (plG T) := gd_congr (fun i hi => up_n _ _ (by unfold cx; omega))
  have a7 : gd 10 (fun i => (va_up T (cx p 2) v) (90 + i)) = gd 10 (fun i => T (90 + i)) := gd_congr (fun i hi => up_n _ _ (by unfold cx; omega))
  unfold wTab
  simp only [s0, s1, s2, s3, a1, a2, a3, a4, a5, a6, a7]
  rfl
theorem wT_ate (cI : ClassId) (q : Nat → Nat) (T : Tb) (b v : Int) (p : Nat) (hp : p < 8) : (wTab cI q T b).set 5 (q 5, .inl (cI, 8, .inl (aI (va_up (gd 8 (fun i => T (cx i 3))) (p) v)))) = wTab cI q (va_up T (cx p 3) v) b := by
  have s0 : (va_up T (cx p 3) v) 1 = T 1 := up_n _ _ (by unfold cx; omega)
  have s1 : (va_up T (cx p 3) v) 3 = T 3 := up_n _ _ (by unfold cx; omega)
  have s2 : (va_up T (cx p 3) v) 2 = T 2 := up_n _ _ (by unfold cx; omega)
  have s3 : (va_up T (cx p 3) v) 0 = T 0 := up_n _ _ (by unfold cx; omega)
  have a1 : gd 6 (fun i => (va_up T (cx p 3) v) (4 + i)) = gd 6 (fun i => T (4 + i)) := gd_congr (fun i hi => up_n _ _ (by unfold cx; omega))
  have a2 : gd 8 (fun i => (va_up T (cx p 3) v) (cx i 0)) = gd 8 (fun i => T (cx i 0)) := gd_congr (fun i hi => up_n _ _ (by unfold cx; omega))
  have a3 : gd 8 (fun i => (va_up T (cx p 3) v) (cx i 1)) = gd 8 (fun i => T (cx i 1)) := gd_congr (fun i hi => up_n _ _ (by unfold cx; omega))
  have a4 : gd 8 (fun i => (va_up T (cx p 3) v) (cx i 2)) = gd 8 (fun i => T (cx i 2)) := gd_congr (fun i hi => up_n _ _ (by unfold cx; omega))
  have a5 : gd 8 (fun i => (va_up T (cx p 3) v) (cx i 3)) = va_up (gd 8 (fun i => T (cx i 3))) (p) v := by
    rw [gd_up _ _ (by omega)]
    refine gd_congr (fun i hi => ?_)
    by_cases h : i = p
    · subst h; rw [up_s]; exact (up_s _ _ _).symm
    · rw [up_n _ _ h]; exact up_n _ _ (by unfold cx; omega)
  have a6 : gd 48 (plG (va_up T (cx p 3) v)) = gd 48 (plG T) := gd_congr (fun i hi => up_n _ _ (by unfold cx; omega))
  have a7 : gd 10 (fun i => (va_up T (cx p 3) v) (90 + i)) = gd 10 (fun i => T (90 + i)) := gd_congr (fun i hi => up_n _ _ (by unfold cx; omega))
  unfold wTab
  simp only [s0, s1, s2, s3, a1, a2, a3, a4, a5, a6, a7]
  rfl
theorem wT_plates (cI : ClassId) (q : Nat → Nat) (T : Tb) (b v : Int) (p t : Nat) (hp : p < 8) (ht : t < 6) : (wTab cI q T b).set 6 (q 6, .inl (cI, 48, .inl (aI (va_up (gd 48 (plG T)) (6 * p + t) v)))) = wTab cI q (va_up T (cx p (4 + t)) v) b := by
  have s0 : (va_up T (cx p (4 + t)) v) 1 = T 1 := up_n _ _ (by unfold cx; omega)
  have s1 : (va_up T (cx p (4 + t)) v) 3 = T 3 := up_n _ _ (by unfold cx; omega)
  have s2 : (va_up T (cx p (4 + t)) v) 2 = T 2 := up_n _ _ (by unfold cx; omega)
  have s3 : (va_up T (cx p (4 + t)) v) 0 = T 0 := up_n _ _ (by unfold cx; omega)
  have a1 : gd 6 (fun i => (va_up T (cx p (4 + t)) v) (4 + i)) = gd 6 (fun i => T (4 + i)) := gd_congr (fun i hi => up_n _ _ (by unfold cx; omega))
  have a2 : gd 8 (fun i => (va_up T (cx p (4 + t)) v) (cx i 0)) = gd 8 (fun i => T (cx i 0)) := gd_congr (fun i hi => up_n _ _ (by unfold cx; omega))
  have a3 : gd 8 (fun i => (va_up T (cx p (4 + t)) v) (cx i 1)) = gd 8 (fun i => T (cx i 1)) := gd_congr (fun i hi => up_n _ _ (by unfold cx; omega))
  have a4 : gd 8 (fun i => (va_up T (cx p (4 + t)) v) (cx i 2)) = gd 8 (fun i => T (cx i 2)) := gd_congr (fun i hi => up_n _ _ (by unfold cx; omega))
  have a5 : gd 8 (fun i => (va_up T (cx p (4 + t)) v) (cx i 3)) = gd 8 (fun i => T (cx i 3)) := gd_congr (fun i hi => up_n _ _ (by unfold cx; omega))
  have a6 : gd 48 (plG (va_up T (cx p (4 + t)) v)) = va_up (gd 48 (plG T)) (6 * p + t) v := by
    rw [gd_up _ _ (by omega)]
    refine gd_congr (fun i hi => ?_)
    unfold plG
    by_cases h : i = 6 * p + t
    · subst h; simp only [show (6 * p + t) / 6 = p by omega, show (6 * p + t) % 6 = t by omega]; rw [up_s]; exact (up_s _ _ _).symm
    · rw [up_n _ _ h]; exact up_n _ _ (by unfold cx; omega)
  have a7 : gd 10 (fun i => (va_up T (cx p (4 + t)) v) (90 + i)) = gd 10 (fun i => T (90 + i)) := gd_congr (fun i hi => up_n _ _ (by unfold cx; omega))
  unfold wTab
  simp only [s0, s1, s2, s3, a1, a2, a3, a4, a5, a6, a7]
  rfl
theorem wT_spots (cI : ClassId) (q : Nat → Nat) (T : Tb) (b v : Int) (k : Nat) (hk : k < 10) : (wTab cI q T b).set 7 (q 7, .inl (cI, 10, .inl (aI (va_up (gd 10 (fun i => T (90 + i))) (k) v)))) = wTab cI q (va_up T (90 + k) v) b := by
  have s0 : (va_up T (90 + k) v) 1 = T 1 := up_n _ _ (by omega)
  have s1 : (va_up T (90 + k) v) 3 = T 3 := up_n _ _ (by omega)
  have s2 : (va_up T (90 + k) v) 2 = T 2 := up_n _ _ (by omega)
  have s3 : (va_up T (90 + k) v) 0 = T 0 := up_n _ _ (by omega)
  have a1 : gd 6 (fun i => (va_up T (90 + k) v) (4 + i)) = gd 6 (fun i => T (4 + i)) := gd_congr (fun i hi => up_n _ _ (by omega))
  have a2 : gd 8 (fun i => (va_up T (90 + k) v) (cx i 0)) = gd 8 (fun i => T (cx i 0)) := gd_congr (fun i hi => up_n _ _ (by unfold cx; omega))
  have a3 : gd 8 (fun i => (va_up T (90 + k) v) (cx i 1)) = gd 8 (fun i => T (cx i 1)) := gd_congr (fun i hi => up_n _ _ (by unfold cx; omega))
  have a4 : gd 8 (fun i => (va_up T (90 + k) v) (cx i 2)) = gd 8 (fun i => T (cx i 2)) := gd_congr (fun i hi => up_n _ _ (by unfold cx; omega))
  have a5 : gd 8 (fun i => (va_up T (90 + k) v) (cx i 3)) = gd 8 (fun i => T (cx i 3)) := gd_congr (fun i hi => up_n _ _ (by unfold cx; omega))
  have a6 : gd 48 (plG (va_up T (90 + k) v)) = gd 48 (plG T) := gd_congr (fun i hi => up_n _ _ (by unfold cx; omega))
  have a7 : gd 10 (fun i => (va_up T (90 + k) v) (90 + i)) = va_up (gd 10 (fun i => T (90 + i))) (k) v := by
    rw [gd_up _ _ (by omega)]
    refine gd_congr (fun i hi => ?_)
    by_cases h : i = k
    · subst h; rw [up_s]; exact (up_s _ _ _).symm
    · rw [up_n _ _ h]; exact up_n _ _ (by omega)
  unfold wTab
  simp only [s0, s1, s2, s3, a1, a2, a3, a4, a5, a6, a7]
  rfl
-- the class's other cells
def wObj (x f : Nat) (q k v h g : Nat → Nat) (ik : Int) : va_W := [(x, .inr (3, [.ref (q 0), .ref (k 0), .ref (v 0), .ref (h 0), .ref (g 0), .ref f, .int (iI ik)]))]
def wSh (cI : ClassId) (h : Nat → Nat) (SB SS SN : Nat → Int) : va_W := [(h 0, .inr (0, [.ref (h 1), .ref (h 2), .ref (h 3)])), (h 1, .inl (cI, 4, .inl (aI (gd 4 SB)))), (h 2, .inl (cI, 4, .inl (aI (gd 4 SS)))), (h 3, .inl (cI, 160, .inl (aI (gd 160 SN))))]
-- bytes have signs
def sgB (n : Int) : Int := if n < 128 then n else n - 256
def wTp (cB : ClassId) (g : Nat → Nat) (tn : Int) (TB : Nat → Int) (j : Nat → Int) : va_W := [(g 0, .inr (2, [.int (iI tn), .ref (g 1), .int (iI (j 3)), .int (iI (j 4)), .int (iI (j 5)), .int (iI (j 6))])), (g 1, .inl (cB, 120, .inl (aI (gd 120 (fun i => sgB (TB i))))))]
theorem wSh_B (cI : ClassId) (h : Nat → Nat) (SB SS SN : Nat → Int) (v : Int) (i : Nat) (hi : i < 4) : (wSh cI h SB SS SN).set 1 (h 1, .inl (cI, 4, .inl (aI (va_up (gd 4 SB) i v)))) = wSh cI h (va_up SB i v) SS SN := by
  rw [gd_up _ _ hi]; rfl
theorem wSh_S (cI : ClassId) (h : Nat → Nat) (SB SS SN : Nat → Int) (v : Int) (i : Nat) (hi : i < 4) : (wSh cI h SB SS SN).set 2 (h 2, .inl (cI, 4, .inl (aI (va_up (gd 4 SS) i v)))) = wSh cI h SB (va_up SS i v) SN := by
  rw [gd_up _ _ hi]; rfl
theorem wSh_N (cI : ClassId) (h : Nat → Nat) (SB SS SN : Nat → Int) (v : Int) (i : Nat) (hi : i < 160) : (wSh cI h SB SS SN).set 3 (h 3, .inl (cI, 160, .inl (aI (va_up (gd 160 SN) i v)))) = wSh cI h SB SS (va_up SN i v) := by
  rw [gd_up _ _ hi]; rfl
-- the reference's cells: the object and its row s; the other rows
def fR (F : Nat → Int) : Nat → Int := fun i => if i = 0 then F 0 + F 1 + F 2 + F 3 + F 4 + F 5 + F 6 else F (i - 1)
def bR (SB : Nat → Int) : Nat → Int := fun i => if SB i = 0 then -1 else SB i
def wA (cI : ClassId) (a n : Nat) (G : Nat → Int) : va_W := [(a, .inl (cI, n, .inl (aI (gd n G))))]
theorem wA_up (cI : ClassId) (a n : Nat) (G : Nat → Int) (v : Int) (i : Nat) (hi : i < n) : (wA cI a n G).set 0 (a, .inl (cI, n, .inl (aI (va_up (gd n G) i v)))) = wA cI a n (va_up G i v) := by
  rw [gd_up _ _ hi]; rfl
theorem wA_congr {cI : ClassId} {a n : Nat} {G K : Nat → Int} (h : ∀ i, i < n → G i = K i) : wA cI a n G = wA cI a n K := by
  unfold wA; rw [gd_congr h]
def oR (r : Nat → Nat) (ik tn : Int) (j : Nat → Int) : List Value := [.ref (r 1), .ref (r 2), .ref (r 3), .ref (r 4), .int (iI ik), .ref (r 5), .ref (r 6), .int (iI tn), .ref (r 7), .ref (r 8), .ref (r 9), .int (iI (j 0)), .int (iI (j 1)), .int (iI (j 2)), .int (iI (j 3)), .int (iI (j 4)), .int (iI (j 5)), .int (iI (j 6))]
def wRo (r : Nat → Nat) (ik tn : Int) (j : Nat → Int) : va_W := [(r 0, .inr (4, [.ref (r 1), .ref (r 2), .ref (r 3), .ref (r 4), .int (iI ik), .ref (r 5), .ref (r 6), .int (iI tn), .ref (r 7), .ref (r 8), .ref (r 9), .int (iI (j 0)), .int (iI (j 1)), .int (iI (j 2)), .int (iI (j 3)), .int (iI (j 4)), .int (iI (j 5)), .int (iI (j 6))]))]
theorem fR_up {F : Nat → Int} {k : Nat} (h : k < 7) : va_up (va_up (fR F) 0 (fR F 0 + 1)) (k + 1) (fR F (k + 1) + 1) = fR (va_up F k (F k + 1)) := by
  funext i
  by_cases h0 : i = 0
  · subst h0
    rw [up_n _ _ (by omega), up_s]
    have : k = 0 ∨ k = 1 ∨ k = 2 ∨ k = 3 ∨ k = 4 ∨ k = 5 ∨ k = 6 := by omega
    rcases this with rfl | rfl | rfl | rfl | rfl | rfl | rfl <;> simp [fR, va_up] <;> omega
  · by_cases h1 : i = k + 1
    · subst h1
      rw [up_s]
      simp [fR, va_up]
    · rw [up_n _ _ h1, up_n _ _ h0]
      have : i - 1 ≠ k := by omega
      simp [fR, va_up, h0, this]
theorem wRo_j0 (r : Nat → Nat) (ik tn : Int) (j : Nat → Int) (v : Int) : (wRo r ik tn j).set 0 (r 0, .inr (4, (oR r ik tn j).set 11 (.int (iI v)))) = wRo r ik tn (va_up j 0 v) := rfl
theorem wRo_j1 (r : Nat → Nat) (ik tn : Int) (j : Nat → Int) (v : Int) : (wRo r ik tn j).set 0 (r 0, .inr (4, (oR r ik tn j).set 12 (.int (iI v)))) = wRo r ik tn (va_up j 1 v) := rfl
theorem wRo_j2 (r : Nat → Nat) (ik tn : Int) (j : Nat → Int) (v : Int) : (wRo r ik tn j).set 0 (r 0, .inr (4, (oR r ik tn j).set 13 (.int (iI v)))) = wRo r ik tn (va_up j 2 v) := rfl
theorem wRo_j3 (r : Nat → Nat) (ik tn : Int) (j : Nat → Int) (v : Int) : (wRo r ik tn j).set 0 (r 0, .inr (4, (oR r ik tn j).set 14 (.int (iI v)))) = wRo r ik tn (va_up j 3 v) := rfl
theorem wRo_j4 (r : Nat → Nat) (ik tn : Int) (j : Nat → Int) (v : Int) : (wRo r ik tn j).set 0 (r 0, .inr (4, (oR r ik tn j).set 15 (.int (iI v)))) = wRo r ik tn (va_up j 4 v) := rfl
theorem wRo_j5 (r : Nat → Nat) (ik tn : Int) (j : Nat → Int) (v : Int) : (wRo r ik tn j).set 0 (r 0, .inr (4, (oR r ik tn j).set 16 (.int (iI v)))) = wRo r ik tn (va_up j 5 v) := rfl
theorem wRo_j6 (r : Nat → Nat) (ik tn : Int) (j : Nat → Int) (v : Int) : (wRo r ik tn j).set 0 (r 0, .inr (4, (oR r ik tn j).set 17 (.int (iI v)))) = wRo r ik tn (va_up j 6 v) := rfl
theorem wRo_ik (r : Nat → Nat) (ik tn : Int) (j : Nat → Int) (v : Int) : (wRo r ik tn j).set 0 (r 0, .inr (4, (oR r ik tn j).set 4 (.int (iI v)))) = wRo r v tn j := rfl
theorem wRo_tn (r : Nat → Nat) (ik tn : Int) (j : Nat → Int) (v : Int) : (wRo r ik tn j).set 0 (r 0, .inr (4, (oR r ik tn j).set 7 (.int (iI v)))) = wRo r ik v j := rfl
