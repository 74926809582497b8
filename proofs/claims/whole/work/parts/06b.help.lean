theorem b2_01 (b : Bool) : b2 b = 0 ∨ b2 b = 1 := by cases b <;> simp [b2]
theorem b2_c {p q : Prop} [Decidable p] [Decidable q] (h : p ↔ q) : b2 (decide p) = b2 (decide q) := by
  by_cases hq : q
  · rw [b2_t hq, b2_t (h.mpr hq)]
  · rw [b2_f hq, b2_f (fun x => hq (h.mp x))]
theorem mayB_i (T : Tb) (sp wh v : Int) : mayB T sp wh v = true ↔ (wh = 0 ∧ (0 ≤ v ∧ v ≤ 6)) ∨ (wh = 1 ∧ (v = -1 ∨ ((0 ≤ v ∧ v < T 0) ∧ v ≠ sp))) ∨ (wh = 2 ∧ (0 ≤ v ∧ v ≤ 99)) ∨ (wh = 3 ∧ (0 ≤ v ∧ v ≤ 99999)) := by
  unfold mayB; exact decide_eq_true_iff
theorem cpy_gd (f : Nat → Int) {n js jd jn : Nat} (h1 : js + jn ≤ n) (h2 : jd + jn ≤ n) : va_cpy (gd n f) (gd n f) js jd jn = gd n (va_cpy f f js jd jn) := by
  funext i
  unfold va_cpy gd
  by_cases h : jd ≤ i ∧ i < jd + jn
  · have e1 : js + (i - jd) < n := by omega
    have e2 : i < n := by omega
    simp [h, e1, e2]
  · simp [h]
theorem tsF_r (T : Tb) (p : Nat) : rI (tsF T p) := run_inv _ (fun z => rI z) 6 (fun _ _ _ _ => orI_r _ _) 6 0 0 (by omega) (by decide)
theorem Inv_tr {B : Int} {T : Tb} {p : Nat} {wh : Int} (h : Inv B T) (hp : (p : Int) < T 0) : rI (trF T p wh) := by
  have h0 := Inv_n h
  have h1 := Inv_k h hp; have h2 := Inv_lv h hp; have h3 := Inv_f h hp; have h4 := Inv_a h hp; have h5 := Inv_ap h hp; have h6 := Inv_lf h hp; have h7 := tsF_r T p
  unfold trF
  repeat' split
  all_goals omega
theorem al_b {B : Int} {T : Tb} (h : Inv B T) : 0 ≤ alF T ∧ alF T ≤ 47952 := by
  have hn := Inv_n h
  have key : ∀ (k t : Nat) (s : Int), t + k = (T 0).toNat → 0 ≤ s → s ≤ 5994 * t → 0 ≤ run (fun (p : Nat) (s : Int) => s + lfF T p) k t s ∧ run (fun (p : Nat) (s : Int) => s + lfF T p) k t s ≤ 5994 * ((T 0).toNat : Int) := by
    intro k
    induction k with
    | zero => intro t s ht h1 h2; rw [run_0]; exact ⟨h1, by rw [← ht]; simpa using h2⟩
    | succ k ih =>
      intro t s ht h1 h2
      have h3 := Inv_lf h (p := t) (by omega)
      exact ih (t + 1) (s + lfF T t) (by omega) (by omega) (by omega)
  have := key (T 0).toNat 0 0 (by omega) (by omega) (by omega)
  unfold alF
  omega
theorem sm_b {B : Int} {T : Tb} (h : Inv B T) {wh : Nat} (hw : wh = 2 ∨ wh = 3) : rI (smF T wh) := by
  have hn := Inv_n h
  have key : ∀ (k t : Nat) (s : Int), t + k = (T 0).toNat → 0 ≤ s → s ≤ 99999 * t → 0 ≤ run (fun (p : Nat) (s : Int) => s + T (cx p wh)) k t s ∧ run (fun (p : Nat) (s : Int) => s + T (cx p wh)) k t s ≤ 99999 * ((T 0).toNat : Int) := by
    intro k
    induction k with
    | zero => intro t s ht h1 h2; rw [run_0]; exact ⟨h1, by rw [← ht]; simpa using h2⟩
    | succ k ih =>
      intro t s ht h1 h2
      have h3 := Inv_f h (p := t) (by omega)
      have h4 := Inv_a h (p := t) (by omega)
      have h5 : 0 ≤ T (cx t wh) ∧ T (cx t wh) ≤ 99999 := by rcases hw with rfl | rfl <;> omega
      exact ih (t + 1) (s + T (cx t wh)) (by omega) (by omega) (by omega)
  have := key (T 0).toNat 0 0 (by omega) (by omega) (by omega)
  unfold smF
  omega
theorem waF_r (SB : Nat → Int) (s : Int) : rI (waF SB s) := by
  unfold waF
  (repeat' split) <;> decide
theorem fd_t {f : Tb → Bool} {k d : Nat} {T : Tb} (h : f T = true) : fdF f (k + 1) d T = (d : Int) := by rw [fdF, if_pos h]
theorem fd_n {f : Tb → Bool} {k d : Nat} {T : Tb} (h : f T = false) : fdF f (k + 1) d T = fdF f k (d + 1) (dyF 0 T) := by rw [fdF, if_neg (by rw [h]; decide)]
theorem fdB_t {p : Nat} {wh lo hi : Int} {S : Tb} (h : lo ≤ trF S p wh ∧ trF S p wh ≤ hi) : fdB p wh lo hi S = true := decide_eq_true h
theorem fdB_f {p : Nat} {wh lo hi : Int} {S : Tb} (h : ¬ (lo ≤ trF S p wh ∧ trF S p wh ≤ hi)) : fdB p wh lo hi S = false := decide_eq_false h
