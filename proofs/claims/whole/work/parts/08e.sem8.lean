/-! texts: tokens (kind, begin, end, value), items, a text; the class's order of what is tried and written -/
def skF (TB : Nat → Int) (nn : Nat) : Nat → Nat → Nat
  | 0, i => i
  | k + 1, i => if i < nn ∧ TB i = 32 then skF TB nn k (i + 1) else i
def leF (TB : Nat → Int) (nn : Nat) : Nat → Nat → Nat
  | 0, i => i
  | k + 1, i => if i < nn ∧ 97 ≤ TB i ∧ TB i ≤ 122 then leF TB nn k (i + 1) else i
def dgF (TB : Nat → Int) (nn : Nat) : Nat → Nat → Int → Nat × Int
  | 0, i, v => (i, v)
  | k + 1, i, v => if i < nn ∧ 48 ≤ TB i ∧ TB i ≤ 57 then dgF TB nn k (i + 1) (min 1000 (v * 10 + TB i - 48)) else (i, v)
abbrev Tk : Type := Int × Nat × Nat × Int
def tkA (TB : Nat → Int) (nn f : Nat) : Tk := if nn ≤ f then (0, f, f, 0) else if 97 ≤ TB f ∧ TB f ≤ 122 then (1, f, leF TB nn 120 f, 0) else if 48 ≤ TB f ∧ TB f ≤ 57 then (2, f, (dgF TB nn 120 f 0).1, (dgF TB nn 120 f 0).2) else if TB f = 59 then (3, f, f + 1, 0) else (4, f, f + 1, 0)
def tnF (TB : Nat → Int) (nn e : Nat) : Tk := tkA TB nn (skF TB nn 120 e)
def nx (TB : Nat → Int) (nn : Nat) (p : Tk) : Tk := tnF TB nn p.2.2.1
def nbB (p : Tk) (most : Int) : Bool := decide (p.1 = 2 ∧ p.2.2.2 ≤ most)
def eqB (TB : Nat → Int) : Nat → List Int → Bool
  | _, [] => true
  | f, c :: l => decide (TB f = c) && eqB TB (f + 1) l
def wdB (TB : Nat → Int) (p : Tk) (l : List Int) : Bool := decide (p.1 = 1 ∧ p.2.2.1 = p.2.1 + l.length) && eqB TB p.2.1 l
abbrev Rs : Type := Bool × Tb × Tk
def bindR (r : Rs) (f : Tb → Tk → Rs) : Rs := if r.1 = true then f r.2.1 r.2.2 else r
def pkF (TB : Nat → Int) (nn : Nat) (cnd : Bool) (i : Nat) (most : Int) (T : Tb) (p : Tk) : Rs := if cnd = true then (if nbB (nx TB nn p) most = true then (true, va_up T i (nx TB nn p).2.2.2, nx TB nn (nx TB nn p)) else (false, T, nx TB nn p)) else (true, T, p)
def plL (TB : Nat → Int) (nn n : Nat) : Nat → Nat → Tb → Tk → Tb × Tk
  | 0, _, T, p => (T, p)
  | k + 1, t, T, p => if nbB p 999 = true then plL TB nn n k (t + 1) (va_up T (cx n (4 + t)) p.2.2.2) (nx TB nn p) else (T, p)
def plQ (TB : Nat → Int) (nn n : Nat) (T : Tb) (p : Tk) : Rs := if nbB (nx TB nn p) 999 = true then (true, (plL TB nn n 6 0 T (nx TB nn p)).1, (plL TB nn n 6 0 T (nx TB nn p)).2) else (false, T, nx TB nn p)
def plF (TB : Nat → Int) (nn n : Nat) (T : Tb) (p : Tk) : Rs := if wdB TB p (wdA 11) = true then plQ TB nn n T p else (true, T, p)
def spB (TB : Nat → Int) (nn n : Nat) (T : Tb) (p : Tk) : Rs := bindR (pkF TB nn (wdB TB (nx TB nn p) (wdA 9)) (cx n 1) ((n : Int) - 1) T (nx TB nn p)) (fun T1 p1 => bindR (pkF TB nn (wdB TB p1 (wdA 10)) (cx n 2) 99 T1 p1) (fun T2 p2 => plF TB nn n T2 p2))
def liF (TB : Nat → Int) (nn : Nat) (T : Tb) (p : Tk) : Rs := if nbB (nx TB nn p) 5 = true then pkF TB nn true (4 + (nx TB nn p).2.2.2.toNat) 20 T (nx TB nn p) else (false, T, nx TB nn p)
def kdF (TB : Nat → Int) (p : Tk) : Int := if wdB TB p (wdA 2) = true then 0 else if wdB TB p (wdA 3) = true then 1 else if wdB TB p (wdA 4) = true then 2 else if wdB TB p (wdA 5) = true then 3 else if wdB TB p (wdA 6) = true then 4 else if wdB TB p (wdA 7) = true then 5 else if wdB TB p (wdA 8) = true then 6 else -1
def itF (TB : Nat → Int) (nn : Nat) (T : Tb) (p : Tk) : Rs := if wdB TB p (wdA 0) = true then liF TB nn T p else if wdB TB p (wdA 1) = true then pkF TB nn true 3 9 T p else if kdF TB p < 0 ∨ 8 ≤ T 0 then (false, T, p) else spB TB nn (T 0).toNat (stF (kdF TB p) (T 0).toNat T) p
def txF (TB : Nat → Int) (nn : Nat) : Nat → Int → Tb → Tk → Int × Tb
  | 0, _, T, p => (-1 - (p.2.1 : Int), T)
  | k + 1, n, T, p => if (itF TB nn T p).1 = true then (if (itF TB nn T p).2.2.1 = 0 then (n, (itF TB nn T p).2.1) else if (itF TB nn T p).2.2.1 = 3 then txF TB nn k (n + 1) (itF TB nn T p).2.1 (nx TB nn (itF TB nn T p).2.2) else (-1 - ((itF TB nn T p).2.2.2.1 : Int), (itF TB nn T p).2.1)) else (-1 - ((itF TB nn T p).2.2.2.1 : Int), (itF TB nn T p).2.1)
def m_text (T K : Tb) (ik : Int) (SB SS SN : Nat → Int) (tn : Int) (TB F : Nat → Int) : Int × Gs := if 0 ≤ (txF TB tn.toNat 120 1 T (tnF TB tn.toNat 0)).1 then ((txF TB tn.toNat 120 1 T (tnF TB tn.toNat 0)).1, (txF TB tn.toNat 120 1 T (tnF TB tn.toNat 0)).2, K, ik, SB, SS, SN, 0, TB, F) else ((txF TB tn.toNat 120 1 T (tnF TB tn.toNat 0)).1, T, K, ik, SB, SS, SN, 0, TB, F)
-- a tape's fields hold a token
def tyS (a b c d : Int) (p : Tk) : Prop := a = p.1 ∧ b = (p.2.1 : Int) ∧ c = (p.2.2.1 : Int) ∧ (p.1 = 2 → d = p.2.2.2)
def jj (a b c d : Int) : Nat → Int := fun i => if i = 3 then a else if i = 4 then b else if i = 5 then c else d
/-- what a token can be on a tape of nn bytes -/
def tkI (nn : Nat) (p : Tk) : Prop := p.2.1 ≤ nn ∧ p.2.2.1 ≤ nn ∧ p.2.1 ≤ p.2.2.1 ∧ (0 ≤ p.1 ∧ p.1 ≤ 4) ∧ (0 ≤ p.2.2.2 ∧ p.2.2.2 ≤ 1000) ∧ (p.1 ≠ 0 → p.2.1 + 1 ≤ p.2.2.1)
theorem sgB_c {b : Int} (h : 0 ≤ b ∧ b ≤ 255) : (0 ≤ b ∧ b < 128 ∧ sgB b = b) ∨ (128 ≤ b ∧ b ≤ 255 ∧ sgB b = b - 256) := by
  unfold sgB
  split <;> omega
theorem skF_b {TB : Nat → Int} {nn : Nat} : ∀ (k i : Nat), i ≤ nn → i ≤ skF TB nn k i ∧ skF TB nn k i ≤ nn
  | 0, i, h => ⟨Nat.le_refl i, h⟩
  | k + 1, i, h => by
    rw [skF]
    split
    · have := skF_b (TB := TB) (nn := nn) k (i + 1) (by omega)
      omega
    · omega
theorem leF_b {TB : Nat → Int} {nn : Nat} : ∀ (k i : Nat), i ≤ nn → i ≤ leF TB nn k i ∧ leF TB nn k i ≤ nn
  | 0, i, h => ⟨Nat.le_refl i, h⟩
  | k + 1, i, h => by
    rw [leF]
    split
    · have := leF_b (TB := TB) (nn := nn) k (i + 1) (by omega)
      omega
    · omega
theorem dgF_b {TB : Nat → Int} {nn : Nat} : ∀ (k i : Nat) (v : Int), i ≤ nn → 0 ≤ v ∧ v ≤ 1000 → (i ≤ (dgF TB nn k i v).1 ∧ (dgF TB nn k i v).1 ≤ nn) ∧ 0 ≤ (dgF TB nn k i v).2 ∧ (dgF TB nn k i v).2 ≤ 1000
  | 0, i, v, h, hv => ⟨⟨Nat.le_refl i, h⟩, hv⟩
  | k + 1, i, v, h, hv => by
    rw [dgF]
    split
    · have := dgF_b (TB := TB) (nn := nn) k (i + 1) (min 1000 (v * 10 + TB i - 48)) (by omega) (by omega)
      omega
    · exact ⟨⟨Nat.le_refl i, h⟩, hv⟩
theorem tnF_I {TB : Nat → Int} {nn e : Nat} (h : e ≤ nn) : tkI nn (tnF TB nn e) ∧ e ≤ (tnF TB nn e).2.1 := by
  have h1 := skF_b (TB := TB) (nn := nn) 120 e h
  unfold tnF
  generalize skF TB nn 120 e = f at h1
  unfold tkA tkI
  split
  · dsimp only; omega
  · rename_i h0
    split
    · rename_i hl
      have h2 : leF TB nn 120 f = leF TB nn 119 (f + 1) := by rw [leF, if_pos ⟨by omega, hl⟩]
      have h3 := leF_b (TB := TB) (nn := nn) 119 (f + 1) (by omega)
      dsimp only
      omega
    · split
      · rename_i hd
        have h2 : dgF TB nn 120 f 0 = dgF TB nn 119 (f + 1) (min 1000 (0 * 10 + TB f - 48)) := by rw [dgF, if_pos ⟨by omega, hd⟩]
        have h3 := dgF_b (TB := TB) (nn := nn) 119 (f + 1) (min 1000 (0 * 10 + TB f - 48)) (by omega) (by omega)
        dsimp only
        rw [h2]
        omega
      · split <;> (dsimp only; omega)
theorem nx_I {TB : Nat → Int} {nn : Nat} {p : Tk} (h : tkI nn p) : tkI nn (nx TB nn p) ∧ p.2.2.1 ≤ (nx TB nn p).2.1 := tnF_I h.2.1
theorem eqB_i {TB : Nat → Int} : ∀ (l : List Int) (f : Nat), eqB TB f l = true ↔ ∀ i : Nat, i < l.length → TB (f + i) = l.getD i 0
  | [], f => by simp [eqB]
  | c :: l, f => by
    rw [eqB, Bool.and_eq_true, decide_eq_true_iff, eqB_i l (f + 1)]
    constructor
    · rintro ⟨h1, h2⟩ i hi
      cases i with
      | zero => simpa using h1
      | succ i =>
        have := h2 i (by simpa using hi)
        rw [show f + (i + 1) = f + 1 + i by omega, this]
        simp
    · intro h
      refine ⟨by simpa using h 0 (by simp), fun i hi => ?_⟩
      have := h (i + 1) (by simpa using hi)
      rw [show f + 1 + i = f + (i + 1) by omega, this]
      simp
theorem wdB_i {TB : Nat → Int} {p : Tk} {l : List Int} : wdB TB p l = true ↔ (p.1 = 1 ∧ p.2.2.1 = p.2.1 + l.length) ∧ ∀ i : Nat, i < l.length → TB (p.2.1 + i) = l.getD i 0 := by
  unfold wdB
  rw [Bool.and_eq_true, decide_eq_true_iff, eqB_i]
theorem nbB_i {p : Tk} {m : Int} : nbB p m = true ↔ p.1 = 2 ∧ p.2.2.2 ≤ m := by
  unfold nbB
  exact decide_eq_true_iff
