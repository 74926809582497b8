def txA (TB : Nat → Int) (nn k : Nat) (n : Int) (r : Rs) : Int × Tb := if r.1 = true then (if r.2.2.1 = 0 then (n, r.2.1) else if r.2.2.1 = 3 then txF TB nn k (n + 1) r.2.1 (nx TB nn r.2.2) else (-1 - (r.2.2.2.1 : Int), r.2.1)) else (-1 - (r.2.2.2.1 : Int), r.2.1)
theorem txA_f {TB : Nat → Int} {nn k : Nat} {n : Int} {r : Rs} {ok : Bool} {fa : Int} (h : okQ ok r fa) (h1 : ¬ ok = true) : txA TB nn k n r = (-1 - fa, r.2.1) := by
  have h2 := h.2 (by simpa using h1)
  unfold txA
  rw [h2.2]
  rcases h2.1 with h3 | h3
  · rw [if_neg (by rw [h3]; exact Bool.false_ne_true)]
  · split
    · rw [if_neg (by omega), if_neg (by omega)]
    · rfl
theorem tx_y {TB : Nat → Int} {nn : Nat} {n : Int} {T S K : Tb} {ik : Int} {SB SS SN F : Nat → Int} (e : txF TB nn 120 1 T (tnF TB nn 0) = (n, S)) (h : 0 ≤ n) : (n, S, K, ik, SB, SS, SN, 0, TB, F) = m_text T K ik SB SS SN (nn : Int) TB F := by
  unfold m_text
  simp only [Int.toNat_natCast]
  rw [e, if_pos h]
theorem tx_n {TB : Nat → Int} {nn : Nat} {v : Int} {T S K : Tb} {ik : Int} {SB SS SN F : Nat → Int} (e : txF TB nn 120 1 T (tnF TB nn 0) = (v, S)) (h : v < 0) : (v, T, K, ik, SB, SS, SN, 0, TB, F) = m_text T K ik SB SS SN (nn : Int) TB F := by
  unfold m_text
  simp only [Int.toNat_natCast]
  rw [e, if_neg (by show ¬ 0 ≤ v; omega)]
-- a text goes on
theorem pkF_f {TB : Nat → Int} {nn i : Nat} {m : Int} {T : Tb} {p : Tk} {cnd : Bool} (h : tkI nn p) : p.2.1 ≤ (pkF TB nn cnd i m T p).2.2.2.1 := by
  have h1 := nx_I (TB := TB) h
  have h2 := nx_I (TB := TB) h1.1
  obtain ⟨z1, z2, z3, z4, z5, z6⟩ := h
  obtain ⟨y1, y2, y3, y4, y5, y6⟩ := h1.1
  unfold pkF
  split
  · split
    · dsimp only; omega
    · dsimp only; omega
  · exact Nat.le_refl _
theorem pkT_f {TB : Nat → Int} {nn i : Nat} {m : Int} {T : Tb} {p : Tk} (h : tkI nn p) : p.2.2.1 ≤ (pkF TB nn true i m T p).2.2.2.1 := by
  have h1 := nx_I (TB := TB) h
  have h2 := nx_I (TB := TB) h1.1
  obtain ⟨y1, y2, y3, y4, y5, y6⟩ := h1.1
  unfold pkF
  rw [if_pos rfl]
  split
  · dsimp only; omega
  · dsimp only; omega
theorem plL_f {TB : Nat → Int} {nn n : Nat} : ∀ (k t : Nat) (T : Tb) (p : Tk), tkI nn p → p.2.1 ≤ (plL TB nn n k t T p).2.2.1
  | 0, _, _, _, _ => Nat.le_refl _
  | k + 1, t, T, p, h => by
    rw [plL]
    split
    · have h1 := nx_I (TB := TB) h
      have h2 := plL_f (TB := TB) (n := n) k (t + 1) (va_up T (cx n (4 + t)) p.2.2.2) _ h1.1
      obtain ⟨z1, z2, z3, z4, z5, z6⟩ := h
      omega
    · exact Nat.le_refl _
theorem plF_f {TB : Nat → Int} {nn n : Nat} {T : Tb} {p : Tk} (h : tkI nn p) : p.2.1 ≤ (plF TB nn n T p).2.2.2.1 := by
  have h1 := nx_I (TB := TB) h
  obtain ⟨z1, z2, z3, z4, z5, z6⟩ := h
  unfold plF
  split
  · unfold plQ
    split
    · have := plL_f (TB := TB) (n := n) 6 0 T _ h1.1
      dsimp only
      omega
    · dsimp only; omega
  · exact Nat.le_refl _
theorem bindR_g {nn : Nat} {r : Rs} {f : Tb → Tk → Rs} {a : Nat} (h1 : a ≤ r.2.2.2.1) (h0 : tkI nn r.2.2) (h2 : ∀ T p, tkI nn p → p.2.1 ≤ (f T p).2.2.2.1) : a ≤ (bindR r f).2.2.2.1 := by
  unfold bindR
  split
  · exact Nat.le_trans h1 (h2 _ _ h0)
  · exact h1
theorem spB_f {TB : Nat → Int} {nn n : Nat} {T : Tb} {p : Tk} (h : tkI nn p) : p.2.2.1 ≤ (spB TB nn n T p).2.2.2.1 := by
  have h1 := nx_I (TB := TB) h
  unfold spB
  exact bindR_g (nn := nn) (Nat.le_trans h1.2 (pkF_f h1.1)) (pkF_I h1.1) (fun T1 p1 g1 => bindR_g (nn := nn) (pkF_f g1) (pkF_I g1) (fun T2 p2 g2 => plF_f g2))
theorem it_f {TB : Nat → Int} {nn : Nat} {T : Tb} {p : Tk} (h : tkI nn p) (hk : (itF TB nn T p).1 = true) : p.2.1 + 1 ≤ (itF TB nn T p).2.2.2.1 := by
  have h1 := nx_I (TB := TB) h
  have hw : p.1 = 1 → p.2.1 + 1 ≤ p.2.2.1 := fun q => h.2.2.2.2.2 (by omega)
  unfold itF at hk ⊢
  by_cases g0 : wdB TB p (wdA 0) = true
  · rw [if_pos g0] at hk ⊢
    have := hw (wdB_i.mp g0).1.1
    unfold liF at hk ⊢
    split
    · have h3 := pkF_f (TB := TB) (i := 4 + (nx TB nn p).2.2.2.toNat) (m := 20) (T := T) (cnd := true) h1.1
      omega
    · dsimp only; omega
  · rw [if_neg g0] at hk ⊢
    by_cases g1 : wdB TB p (wdA 1) = true
    · rw [if_pos g1] at hk ⊢
      have := hw (wdB_i.mp g1).1.1
      have h3 := pkT_f (TB := TB) (i := 3) (m := 9) (T := T) h
      omega
    · rw [if_neg g1] at hk ⊢
      by_cases g2 : kdF TB p < 0 ∨ 8 ≤ T 0
      · rw [if_pos g2] at hk
        exact absurd hk Bool.false_ne_true
      · rw [if_neg g2] at hk ⊢
        have h3 := spB_f (TB := TB) (n := (T 0).toNat) (T := stF (kdF TB p) (T 0).toNat T) h
        have h4 : p.1 = 1 := by
          rcases (show p.1 = 1 ∨ ¬ p.1 = 1 by omega) with g | g
          · exact g
          · have nw : ∀ l, ¬ wdB TB p l = true := fun l q => g (wdB_i.mp q).1.1
            have : kdF TB p = -1 := by
              unfold kdF
              rw [if_neg (nw _), if_neg (nw _), if_neg (nw _), if_neg (nw _), if_neg (nw _), if_neg (nw _), if_neg (nw _)]
            omega
        have := hw h4
        omega
