/-! what a table of speakers is: one row of 100 whole numbers T (0 how many, 1 DAY, 2 z, 3 VINEGAR, 4.. THE LIST, 10.. ten for each speaker: KIND, LOVES, FAT, ATE, six of its PLATE; 90.. SPOTS) -/
abbrev Tb : Type := Nat → Int
def cx (p w : Nat) : Nat := 10 + 10 * p + w
theorem cx_lt {p w : Nat} (hp : p < 8) (hw : w < 10) : cx p w < 90 := by unfold cx; omega
theorem cx_lt1 {p w : Nat} (hp : p < 8) (hw : w < 10) : cx p w < 100 := by unfold cx; omega
theorem cx_ge (p w : Nat) : 10 ≤ cx p w := by unfold cx; omega
theorem cx_inj {p w q x : Nat} (hw : w < 10) (hx : x < 10) (h : cx p w = cx q x) : p = q ∧ w = x := by unfold cx at h; omega
theorem up_s {α : Type} (f : Nat → α) (k : Nat) (v : α) : va_up f k v k = v := by simp [va_up]
theorem up_n {α : Type} (f : Nat → α) {k j : Nat} (v : α) (h : j ≠ k) : va_up f k v j = f j := by simp [va_up, h]
theorem up_id {α : Type} (f : Nat → α) (k : Nat) : va_up f k (f k) = f := by
  funext j
  by_cases h : j = k
  · subst h; simp [va_up]
  · simp [va_up, h]
theorem up_up {α : Type} (f : Nat → α) (k : Nat) (v w : α) : va_up (va_up f k v) k w = va_up f k w := by
  funext j
  by_cases h : j = k
  · subst h; simp [va_up]
  · simp [va_up, h]
theorem up_cx (T : Tb) {p w q x : Nat} (v : Int) (hw : w < 10) (hx : x < 10) (h : ¬ (q = p ∧ x = w)) : va_up T (cx p w) v (cx q x) = T (cx q x) := up_n _ _ (fun e => h (cx_inj hx hw e))
theorem up_lo (T : Tb) {p w j : Nat} (v : Int) (h : j < 10) : va_up T (cx p w) v j = T j := up_n _ _ (by have := cx_ge p w; omega)
def run {σ : Type} (f : Nat → σ → σ) : Nat → Nat → σ → σ
  | 0, _, s => s
  | k + 1, t, s => run f k (t + 1) (f t s)
theorem run_0 {σ : Type} (f : Nat → σ → σ) (t : Nat) (s : σ) : run f 0 t s = s := rfl
theorem run_s {σ : Type} (f : Nat → σ → σ) (k t : Nat) (s : σ) : run f (k + 1) t s = run f k (t + 1) (f t s) := rfl
theorem run_inv {σ : Type} (f : Nat → σ → σ) (I : σ → Prop) (N : Nat) (h : ∀ t s, t < N → I s → I (f t s)) : ∀ (k t : Nat) (s : σ), t + k ≤ N → I s → I (run f k t s)
  | 0, _, _, _, h0 => h0
  | k + 1, t, s, hk, h0 => run_inv f I N h k (t + 1) (f t s) (by omega) (h t s (by omega) h0)
theorem run_congr {σ : Type} (f g : Nat → σ → σ) (I : σ → Prop) (N : Nat) (h : ∀ t s, t < N → I s → I (f t s)) (e : ∀ t s, t < N → I s → f t s = g t s) : ∀ (k t : Nat) (s : σ), t + k ≤ N → I s → run f k t s = run g k t s
  | 0, _, _, _, _ => rfl
  | k + 1, t, s, hk, h0 => by
    rw [run_s, run_s, run_congr f g I N h e k (t + 1) (f t s) (by omega) (h t s (by omega) h0), e t s (by omega) h0]
-- bites, words, appetite
def chF (k t v : Int) : Int :=
  if t = 0 then 1 + (if k = 4 then 1 else 0)
  else if t = 1 then (if k = 1 ∨ k = 6 then 1 else if k = 5 then 3 else 3 + v + (if k = 4 then 1 else 0))
  else if t = 2 then (if k = 2 then -1 else if k = 3 ∨ k = 4 then 2 + (if k = 4 then 1 else 0) else 5)
  else if t = 3 then 4 + (if k = 4 then 1 else 0)
  else if t = 4 then (if k = 6 then 9 else -1)
  else (if k = 4 then 1 else 0)
def tkF (k t d : Int) : Int :=
  if t = 0 then (if k = 3 ∨ k = 4 ∨ k = 5 then 0 else 1)
  else if t = 1 then (if k = 1 ∨ k = 6 then 2 else 0)
  else if t = 2 then (if k = 2 ∧ d % 3 = 0 then 1 else 0)
  else if t = 3 then (if k = 4 then 3 else 0)
  else if t = 4 then (if k = 6 ∧ d % 2 = 0 then 1 else 0)
  else (if k = 3 ∧ d % 7 = 5 then 1 else 0)
def hgF (k f v : Int) (cl : Prop) [Decidable cl] : Int :=
  if k = 1 then 12 - f / 10
  else if k = 6 then max 0 (12 - f / 10 - 3)
  else if k = 2 then 6
  else if k = 3 then 6 + (if cl then 20 else 0)
  else if k = 4 then 6 + (if cl then 20 else 0) + 4
  else if k = 5 then 12 + v
  else 12
def lfF (T : Tb) (p : Nat) : Int := run (fun t s => s + T (cx p (4 + t))) 6 0 (0 : Int)
def apF (T : Tb) (p : Nat) : Int := hgF (T (cx p 0)) (T (cx p 2)) (T 3) (lfF T p = 0)
def tsF (T : Tb) (p : Nat) : Int := run (fun t s => orI s (if 0 < T (cx p (4 + t)) then shlI 1 t else 0)) 6 0 (0 : Int)
-- a day
def syS (L : Bool) (p : Nat) (t : Nat) (T : Tb) : Tb := va_up T (cx p (4 + t)) (min 999 (T (cx p (4 + t)) + tkF (T (cx p 0)) t (T 1) + (if L then T (4 + t) else 0)))
def syF (L : Bool) (p : Nat) (T : Tb) : Tb := run (syS L p) 6 0 T
def swN (c b w : Int) : Int := if c < 0 then 0 else if c = 0 then w else min w (b / c)
def swS (k : Int) (h : Nat) (t : Nat) (z : Tb × Int × Int) : Tb × Int × Int :=
  (va_up z.1 (cx h (4 + t)) (z.1 (cx h (4 + t)) - swN (chF k t (z.1 3)) z.2.1 (z.1 (cx h (4 + t)))),
   z.2.1 - swN (chF k t (z.1 3)) z.2.1 (z.1 (cx h (4 + t))) * chF k t (z.1 3),
   z.2.2 + swN (chF k t (z.1 3)) z.2.1 (z.1 (cx h (4 + t))))
def swF (k : Int) (h : Nat) (z : Tb × Int × Int) : Tb × Int × Int := run (swS k h) 6 0 z
def spM (p : Nat) (T : Tb) : Tb × Int × Int := swF (T (cx p 0)) p (T, apF T p, 0)
def spZ (p : Nat) (T : Tb) : Tb × Int × Int := if 0 ≤ T (cx p 1) then swF (T (cx p 0)) (T (cx p 1)).toNat (spM p T) else spM p T
def spE (p : Nat) (z : Tb × Int × Int) : Tb := va_up (va_up z.1 (cx p 2) (max 0 (min 99 (z.1 (cx p 2) + z.2.2 / 4) - 2))) (cx p 3) (min 99999 (z.1 (cx p 3) + z.2.2))
def spF (p : Nat) (T : Tb) : Tb := spE p (spZ p T)
def dyA (mute : Int) (p : Nat) (T : Tb) : Tb := if andI (shrI mute p) 1 = 0 then syF (decide (T 1 % 8 = (p : Int))) p T else T
def dyF (mute : Int) (T : Tb) : Tb :=
  let T2 := run spF (T 0).toNat 0 (run (dyA mute) (T 0).toNat 0 T)
  va_up T2 1 (T2 1 + 1)
def dsF (mute : Int) (n : Nat) (T : Tb) : Tb := run (fun _ => dyF mute) n 0 T
def alF (T : Tb) : Int := run (fun p s => s + lfF T p) (T 0).toNat 0 (0 : Int)
def smF (T : Tb) (w : Nat) : Int := run (fun p s => s + T (cx p w)) (T 0).toNat 0 (0 : Int)
def cnF (T : Tb) : Int := run (fun p s => orI s (if lfF T p = 0 then shlI 1 p else 0)) (T 0).toNat 0 (0 : Int)
def lvF (T : Tb) : Int := run (fun p s => orI s (if 0 ≤ T (cx p 1) then shlI 1 (T (cx p 1)) else 0)) (T 0).toNat 0 (0 : Int)
def fuS (T : Tb) (p : Nat) (z : Int × Int) : Int × Int := if z.2 < lfF T p then ((p : Int), lfF T p) else z
def fuF (T : Tb) : Int := (run (fuS T) (T 0).toNat 0 ((-1 : Int), (-1 : Int))).1
def hsF (T : Tb) : Int := run (fun k s => s + (if T (90 + k) = -1 then 0 else 1)) 10 0 (0 : Int)
-- what a table is that can come to be, on a DAY of B at most
def ok1 (n : Int) (T : Tb) (p : Nat) : Prop := (0 ≤ T (cx p 0) ∧ T (cx p 0) ≤ 6) ∧ (-1 ≤ T (cx p 1) ∧ T (cx p 1) < n) ∧ (0 ≤ T (cx p 2) ∧ T (cx p 2) ≤ 99) ∧ (0 ≤ T (cx p 3) ∧ T (cx p 3) ≤ 99999) ∧ ∀ t : Nat, t < 6 → 0 ≤ T (cx p (4 + t)) ∧ T (cx p (4 + t)) ≤ 999
def Inv (B : Int) (T : Tb) : Prop := (0 ≤ T 0 ∧ T 0 ≤ 8) ∧ (0 ≤ T 1 ∧ T 1 ≤ B) ∧ (0 ≤ T 3 ∧ T 3 ≤ 9) ∧ (∀ t : Nat, t < 6 → 0 ≤ T (4 + t) ∧ T (4 + t) ≤ 20) ∧ ∀ p : Nat, (p : Int) < T 0 → ok1 (T 0) T p
theorem orI_0 {a : Int} (h : rI a) : orI a 0 = a := by
  unfold orI
  rw [show iI a ||| iI 0 = iI a from by rw [show iI 0 = 0 from rfl]; exact Int32.or_zero]
  exact iI_to h
theorem chF_b {k t v : Int} (hk : 0 ≤ k ∧ k ≤ 6) (hv : 0 ≤ v ∧ v ≤ 9) : -1 ≤ chF k t v ∧ chF k t v ≤ 13 := by
  unfold chF
  repeat' split
  all_goals omega
theorem tkF_b (k t d : Int) : 0 ≤ tkF k t d ∧ tkF k t d ≤ 3 := by
  unfold tkF
  repeat' split
  all_goals omega
theorem hgF_b {k f v : Int} {cl : Prop} [Decidable cl] (hf : 0 ≤ f ∧ f ≤ 99) (hv : 0 ≤ v ∧ v ≤ 9) : 0 ≤ hgF k f v cl ∧ hgF k f v cl ≤ 30 := by
  unfold hgF
  repeat' split
  all_goals omega
theorem lf_e (T : Tb) (p : Nat) : lfF T p = T (cx p 4) + T (cx p 5) + T (cx p 6) + T (cx p 7) + T (cx p 8) + T (cx p 9) := by
  show 0 + _ + _ + _ + _ + _ + _ = _
  rw [Int.zero_add]
theorem lf_b {T : Tb} {p : Nat} (h : ∀ t : Nat, t < 6 → 0 ≤ T (cx p (4 + t)) ∧ T (cx p (4 + t)) ≤ 999) : 0 ≤ lfF T p ∧ lfF T p ≤ 5994 := by
  rw [lf_e]
  have h0 := h 0 (by omega); have h1 := h 1 (by omega); have h2 := h 2 (by omega); have h3 := h 3 (by omega); have h4 := h 4 (by omega); have h5 := h 5 (by omega)
  simp only [Nat.reduceAdd] at h0 h1 h2 h3 h4 h5
  omega
theorem swN_b {c b w : Int} (hb : 0 ≤ b) (hw : 0 ≤ w) : 0 ≤ swN c b w ∧ swN c b w ≤ w ∧ swN c b w * c ≤ b := by
  unfold swN
  split
  · exact ⟨Int.le_refl 0, hw, by omega⟩
  · split
    · exact ⟨hw, Int.le_refl w, by subst c; omega⟩
    · have hc : 0 < c := by omega
      have h1 : 0 ≤ b / c := Int.ediv_nonneg hb (by omega)
      refine ⟨by omega, by omega, ?_⟩
      have h2 : min w (b / c) ≤ b / c := by omega
      have h3 : b / c * c ≤ b := Int.ediv_mul_le b (by omega)
      have h4 : min w (b / c) * c ≤ b / c * c := Int.mul_le_mul_of_nonneg_right h2 (by omega)
      omega
