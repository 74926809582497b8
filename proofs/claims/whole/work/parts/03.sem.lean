/-! what a table of speakers is: one row of 100 whole numbers T (0 how many, 1 DAY, 2 z, 3 VINEGAR, 4.. THE LIST, 10.. ten for each speaker: KIND, LOVES, FAT, ATE, six of its PLATE; 90.. SPOTS) -/
abbrev Tb : Type := Nat → Int
def cx (p w : Nat) : Nat := 10 + 10 * p + w
theorem cx_lt {p w : Nat} (hp : p < 8) (hw : w < 10) : cx p w < 90 := by unfold cx; omega
theorem cx_lt1 {p w : Nat} (hp : p < 8) (hw : w < 10) : cx p w < 100 := by unfold cx; omega
theorem cx_ge (p w : Nat) : 10 ≤ cx p w := by unfold cx; omega
theorem cx_inj {p w q x : Nat} (hw : w < 10) (hx : x < 10) (h : cx p w = cx q x) : p = q ∧ w = x := by unfold cx at h; omega
theorem up_s {α : Type} (f : Nat → α) (k : Nat) (v : α) : va_up f k v k = v := by simp [va_up]
theorem up_n {α : Type} (f : Nat → α) {k j : Nat} (v : α) (h : j ≠ k) : va_up f k v j = f j := by simp [va_up, h]
theorem up_id {α : Type} (f : Nat → α) (k : Nat) : va_up f k (f k) = f := by
  funext j
  by_cases h : j = k
  · subst h; simp [va_up]
  · simp [va_up, h]
theorem up_up {α : Type} (f : Nat → α) (k : Nat) (v w : α) : va_up (va_up f k v) k w = va_up f k w := by
  funext j
  by_cases h : j = k
  · subst h; simp [va_up]
  · simp [va_up, h]
theorem up_cx (T : Tb) {p w q x : Nat} (v : Int) (hw : w < 10) (hx : x < 10) (h : ¬ (q = p ∧ x = w)) : va_up T (cx p w) v (cx q x) = T (cx q x) := up_n _ _ (fun e => h (cx_inj hx hw e))
theorem up_lo (T : Tb) {p w j : Nat} (v : Int) (h : j < 10) : va_up T (cx p w) v j = T j := up_n _ _ (by have := cx_ge p w; omega)
def run {σ : Type} (f : Nat → σ → σ) : Nat → Nat → σ → σ
  | 0, _, s => s
  | k + 1, t, s => run f k (t + 1) (f t s)
theorem run_0 {σ : Type} (f : Nat → σ → σ) (t : Nat) (s : σ) : run f 0 t s = s := rfl
theorem run_s {σ : Type} (f : Nat → σ → σ) (k t : Nat) (s : σ) : run f (k + 1) t s = run f k (t + 1) (f t s) := rfl
theorem run_inv {σ : Type} (f : Nat → σ → σ) (I : σ → Prop) (N : Nat) (h : ∀ t s, t < N → I s → I (f t s)) : ∀ (k t : Nat) (s : σ), t + k ≤ N → I s → I (run f k t s)
  | 0, _, _, _, h0 => h0
  | k + 1, t, s, hk, h0 => run_inv f I N h k (t + 1) (f t s) (by omega) (h t s (by omega) h0)
theorem run_congr {σ : Type} (f g : Nat → σ → σ) (I : σ → Prop) (N : Nat) (h : ∀ t s, t < N → I s → I (f t s)) (e : ∀ t s, t < N → I s → f t s = g t s) : ∀ (k t : Nat) (s : σ), t + k ≤ N → I s → run f k t s = run g k t s
  | 0, _, _, _, _ => rfl
  | k + 1, t, s, hk, h0 => by
    rw [run_s, run_s, run_congr f g I N h e k (t + 1) (f t s) (by omega) (h t s (by omega) h0), e t s (by omega) h0]
-- bites, words, appetite
def chF (k t v : Int) : Int :=
  if t = 0 then 1 + (if k = 4 then 1 else 0)
  else if t = 1 then (if k = 1 ∨ k = 6 then 1 else if k = 5 then 3 else 3 + v + (if k = 4 then 1 else 0))
  else if t = 2 then (if k = 2 then -1 else if k = 3 ∨ k = 4 then 2 + (if k = 4 then 1 else 0) else 5)
  else if t = 3 then 4 + (if k = 4 then 1 else 0)
  else if t = 4 then (if k = 6 then 9 else -1)
  else (if k = 4 then 1 else 0)
def tkF (k t d : Int) : Int :=
  if t = 0 then (if k = 3 ∨ k = 4 ∨ k = 5 then 0 else 1)
  else if t = 1 then (if k = 1 ∨ k = 6 then 2 else 0)
  else if t = 2 then (if k = 2 ∧ d % 3 = 0 then 1 else 0)
  else if t = 3 then (if k = 4 then 3 else 0)
  else if t = 4 then (if k = 6 ∧ d % 2 = 0 then 1 else 0)
  else (if k = 3 ∧ d % 7 = 5 then 1 else 0)
def hgF (k f v : Int) (cl : Prop) [Decidable cl] : Int :=
  if k = 1 then 12 - f / 10
  else if k = 6 then max 0 (12 - f / 10 - 3)
  else if k = 2 then 6
  else if k = 3 then 6 + (if cl then 20 else 0)
  else if k = 4 then 6 + (if cl then 20 else 0) + 4
  else if k = 5 then 12 + v
  else 12
def lfF (T : Tb) (p : Nat) : Int := run (fun t s => s + T (cx p (4 + t))) 6 0 (0 : Int)
def apF (T : Tb) (p : Nat) : Int := hgF (T (cx p 0)) (T (cx p 2)) (T 3) (lfF T p = 0)
def tsF (T : Tb) (p : Nat) : Int := run (fun t s => orI s (if 0 < T (cx p (4 + t)) then shlI 1 t else 0)) 6 0 (0 : Int)
-- a day
def syS (L : Bool) (p : Nat) (t : Nat) (T : Tb) : Tb := va_up T (cx p (4 + t)) (min 999 (T (cx p (4 + t)) + (tkF (T (cx p 0)) t (T 1) + (if L then T (4 + t) else 0))))
def syF (L : Bool) (p : Nat) (T : Tb) : Tb := run (syS L p) 6 0 T
def swN (c b w : Int) : Int := if c < 0 then 0 else if c = 0 then w else min w (b / c)
def swS (k : Int) (h : Nat) (t : Nat) (z : Tb × Int × Int) : Tb × Int × Int :=
  (va_up z.1 (cx h (4 + t)) (z.1 (cx h (4 + t)) - swN (chF k t (z.1 3)) z.2.1 (z.1 (cx h (4 + t)))),
   z.2.1 - swN (chF k t (z.1 3)) z.2.1 (z.1 (cx h (4 + t))) * chF k t (z.1 3),
   z.2.2 + swN (chF k t (z.1 3)) z.2.1 (z.1 (cx h (4 + t))))
def swF (k : Int) (h : Nat) (z : Tb × Int × Int) : Tb × Int × Int := run (swS k h) 6 0 z
def spM (p : Nat) (T : Tb) : Tb × Int × Int := swF (T (cx p 0)) p (T, apF T p, 0)
def spZ (p : Nat) (T : Tb) : Tb × Int × Int := if 0 ≤ T (cx p 1) then swF (T (cx p 0)) (T (cx p 1)).toNat (spM p T) else spM p T
def spE (p : Nat) (z : Tb × Int × Int) : Tb := va_up (va_up z.1 (cx p 2) (max 0 (min 99 (z.1 (cx p 2) + z.2.2 / 4) - 2))) (cx p 3) (min 99999 (z.1 (cx p 3) + z.2.2))
def spF (p : Nat) (T : Tb) : Tb := spE p (spZ p T)
def dyA (mute : Int) (p : Nat) (T : Tb) : Tb := if andI (shrI mute p) 1 = 0 then syF (decide (T 1 % 8 = (p : Int))) p T else T
def dyF (mute : Int) (T : Tb) : Tb :=
  let T2 := run spF (T 0).toNat 0 (run (dyA mute) (T 0).toNat 0 T)
  va_up T2 1 (T2 1 + 1)
def dsF (mute : Int) (n : Nat) (T : Tb) : Tb := run (fun _ => dyF mute) n 0 T
def alF (T : Tb) : Int := run (fun p s => s + lfF T p) (T 0).toNat 0 (0 : Int)
def smF (T : Tb) (w : Nat) : Int := run (fun p s => s + T (cx p w)) (T 0).toNat 0 (0 : Int)
def cnF (T : Tb) : Int := run (fun p s => orI s (if lfF T p = 0 then shlI 1 p else 0)) (T 0).toNat 0 (0 : Int)
def lvF (T : Tb) : Int := run (fun p s => orI s (if 0 ≤ T (cx p 1) then shlI 1 (T (cx p 1)) else 0)) (T 0).toNat 0 (0 : Int)
def fuS (T : Tb) (p : Nat) (z : Int × Int) : Int × Int := if z.2 < lfF T p then ((p : Int), lfF T p) else z
def fuF (T : Tb) : Int := (run (fuS T) (T 0).toNat 0 ((-1 : Int), (-1 : Int))).1
def hsF (T : Tb) : Int := run (fun k s => s + (if T (90 + k) = -1 then 0 else 1)) 10 0 (0 : Int)
-- what a table is that can come to be, on a DAY of B at most: a word on each cell
def pkd (n : Int) (w : Nat) (v : Int) : Prop := if w = 0 then 0 ≤ v ∧ v ≤ 6 else if w = 1 then -1 ≤ v ∧ v < n else if w = 2 then 0 ≤ v ∧ v ≤ 99 else if w = 3 then 0 ≤ v ∧ v ≤ 99999 else 0 ≤ v ∧ v ≤ 999
def ckd (B n : Int) (i : Nat) (v : Int) : Prop :=
  if i = 0 then 0 ≤ v ∧ v ≤ 8 else if i = 1 then 0 ≤ v ∧ v ≤ B else if i = 2 then True else if i = 3 then 0 ≤ v ∧ v ≤ 9 else if i < 10 then 0 ≤ v ∧ v ≤ 20
  else if i < 90 then ((((i - 10) / 10 : Nat) : Int) < n → pkd n ((i - 10) % 10) v) else -1 ≤ v ∧ v < n
def Inv (B : Int) (T : Tb) : Prop := ∀ i : Nat, i < 100 → ckd B (T 0) i (T i)
theorem ckd_cx {B n v : Int} {p w : Nat} (hp : p < 8) (hw : w < 10) : ckd B n (cx p w) v ↔ ((p : Int) < n → pkd n w v) := by
  unfold ckd cx
  rw [if_neg (by omega), if_neg (by omega), if_neg (by omega), if_neg (by omega), if_neg (by omega), if_pos (by omega), show (10 + 10 * p + w - 10) / 10 = p by omega, show (10 + 10 * p + w - 10) % 10 = w by omega]
theorem Inv_up {B v : Int} {T : Tb} {i : Nat} (h : Inv B T) (h0 : i ≠ 0) (hv : ckd B (T 0) i v) : Inv B (va_up T i v) := by
  intro j hj
  rw [up_n T v (Ne.symm h0)]
  by_cases e : j = i
  · subst e; rw [up_s]; exact hv
  · rw [up_n _ _ e]; exact h j hj
theorem Inv_cx {B v : Int} {T : Tb} {p w : Nat} (h : Inv B T) (hp : p < 8) (hw : w < 10) (hv : (p : Int) < T 0 → pkd (T 0) w v) : Inv B (va_up T (cx p w) v) :=
  Inv_up h (by have := cx_ge p w; omega) ((ckd_cx hp hw).mpr hv)
theorem Inv_n {B : Int} {T : Tb} (h : Inv B T) : 0 ≤ T 0 ∧ T 0 ≤ 8 := by have := h 0 (by omega); simpa [ckd] using this
theorem Inv_d {B : Int} {T : Tb} (h : Inv B T) : 0 ≤ T 1 ∧ T 1 ≤ B := by have := h 1 (by omega); simpa [ckd] using this
theorem Inv_v {B : Int} {T : Tb} (h : Inv B T) : 0 ≤ T 3 ∧ T 3 ≤ 9 := by have := h 3 (by omega); simpa [ckd] using this
theorem Inv_l {B : Int} {T : Tb} (h : Inv B T) {t : Nat} (ht : t < 6) : 0 ≤ T (4 + t) ∧ T (4 + t) ≤ 20 := by
  have := h (4 + t) (by omega)
  unfold ckd at this
  rw [if_neg (by omega), if_neg (by omega), if_neg (by omega), if_neg (by omega), if_pos (by omega)] at this
  exact this
theorem Inv_s {B : Int} {T : Tb} (h : Inv B T) {k : Nat} (hk : k < 10) : -1 ≤ T (90 + k) ∧ T (90 + k) < T 0 := by
  have := h (90 + k) (by omega)
  unfold ckd at this
  rw [if_neg (by omega), if_neg (by omega), if_neg (by omega), if_neg (by omega), if_neg (by omega), if_neg (by omega)] at this
  exact this
theorem Inv_p {B : Int} {T : Tb} (h : Inv B T) {p w : Nat} (hp : (p : Int) < T 0) (hw : w < 10) : pkd (T 0) w (T (cx p w)) := by
  have hn := Inv_n h
  exact (ckd_cx (by omega) hw).mp (h (cx p w) (cx_lt1 (by omega) hw)) hp
theorem Inv_k {B : Int} {T : Tb} (h : Inv B T) {p : Nat} (hp : (p : Int) < T 0) : 0 ≤ T (cx p 0) ∧ T (cx p 0) ≤ 6 := Inv_p h hp (w := 0) (by omega)
theorem Inv_lv {B : Int} {T : Tb} (h : Inv B T) {p : Nat} (hp : (p : Int) < T 0) : -1 ≤ T (cx p 1) ∧ T (cx p 1) < T 0 := Inv_p h hp (w := 1) (by omega)
theorem Inv_f {B : Int} {T : Tb} (h : Inv B T) {p : Nat} (hp : (p : Int) < T 0) : 0 ≤ T (cx p 2) ∧ T (cx p 2) ≤ 99 := Inv_p h hp (w := 2) (by omega)
theorem Inv_a {B : Int} {T : Tb} (h : Inv B T) {p : Nat} (hp : (p : Int) < T 0) : 0 ≤ T (cx p 3) ∧ T (cx p 3) ≤ 99999 := Inv_p h hp (w := 3) (by omega)
theorem Inv_pl {B : Int} {T : Tb} (h : Inv B T) {p t : Nat} (hp : (p : Int) < T 0) (ht : t < 6) : 0 ≤ T (cx p (4 + t)) ∧ T (cx p (4 + t)) ≤ 999 := by
  have := Inv_p h hp (w := 4 + t) (by omega)
  unfold pkd at this
  rw [if_neg (by omega), if_neg (by omega), if_neg (by omega), if_neg (by omega)] at this
  exact this
theorem pkd_pl {n v : Int} {t : Nat} (h : 0 ≤ v ∧ v ≤ 999) : pkd n (4 + t) v := by
  unfold pkd
  rw [if_neg (by omega), if_neg (by omega), if_neg (by omega), if_neg (by omega)]
  exact h
theorem orI_0 {a : Int} (h : rI a) : orI a 0 = a := by
  unfold orI
  rw [show iI a ||| iI 0 = iI a from by rw [show iI 0 = 0 from rfl]; exact Int32.or_zero]
  exact iI_to h
theorem chF_b {k t v : Int} (hk : 0 ≤ k ∧ k ≤ 6) (hv : 0 ≤ v ∧ v ≤ 9) : -1 ≤ chF k t v ∧ chF k t v ≤ 13 := by
  unfold chF
  repeat' split
  all_goals omega
theorem tkF_b (k t d : Int) : 0 ≤ tkF k t d ∧ tkF k t d ≤ 3 := by
  unfold tkF
  repeat' split
  all_goals omega
theorem hgF_b {k f v : Int} {cl : Prop} [Decidable cl] (hf : 0 ≤ f ∧ f ≤ 99) (hv : 0 ≤ v ∧ v ≤ 9) : 0 ≤ hgF k f v cl ∧ hgF k f v cl ≤ 30 := by
  unfold hgF
  repeat' split
  all_goals omega
theorem lf_e (T : Tb) (p : Nat) : lfF T p = T (cx p 4) + T (cx p 5) + T (cx p 6) + T (cx p 7) + T (cx p 8) + T (cx p 9) := by
  show 0 + _ + _ + _ + _ + _ + _ = _
  rw [Int.zero_add]
theorem lf_b {T : Tb} {p : Nat} (h : ∀ t : Nat, t < 6 → 0 ≤ T (cx p (4 + t)) ∧ T (cx p (4 + t)) ≤ 999) : 0 ≤ lfF T p ∧ lfF T p ≤ 5994 := by
  rw [lf_e]
  have h0 := h 0 (by omega); have h1 := h 1 (by omega); have h2 := h 2 (by omega); have h3 := h 3 (by omega); have h4 := h 4 (by omega); have h5 := h 5 (by omega)
  simp only [Nat.reduceAdd] at h0 h1 h2 h3 h4 h5
  omega
theorem swN_b {c b w : Int} (hb : 0 ≤ b) (hw : 0 ≤ w) : 0 ≤ swN c b w ∧ swN c b w ≤ w ∧ swN c b w * c ≤ b := by
  unfold swN
  split
  · exact ⟨Int.le_refl 0, hw, by omega⟩
  · split
    · exact ⟨hw, Int.le_refl w, by subst c; omega⟩
    · have hc : 0 < c := by omega
      have h1 : 0 ≤ b / c := Int.ediv_nonneg hb (by omega)
      refine ⟨by omega, by omega, ?_⟩
      have h2 : min w (b / c) ≤ b / c := by omega
      have h3 : b / c * c ≤ b := Int.ediv_mul_le b (by omega)
      have h4 : min w (b / c) * c ≤ b / c * c := Int.mul_le_mul_of_nonneg_right h2 (by omega)
      omega

theorem run_step {σ : Type} {f : Nat → σ → σ} {k t : Nat} {s s' R : σ} (hr : run f (k + 1) t s = R) (e : f t s = s') : run f k (t + 1) s' = R := by rw [← e]; exact hr
theorem hg_c {k f v : Int} {P Q : Prop} [Decidable P] [Decidable Q] (h : P ↔ Q) : hgF k f v P = hgF k f v Q := by
  unfold hgF
  by_cases hq : Q
  · have hp := h.mpr hq
    simp only [hp, hq]
  · have hp : ¬ P := fun x => hq (h.mp x)
    simp only [hp, hq]
theorem Inv_ap {B : Int} {T : Tb} (h : Inv B T) {p : Nat} (hp : (p : Int) < T 0) : 0 ≤ apF T p ∧ apF T p ≤ 30 := hgF_b (Inv_f h hp) (Inv_v h)
theorem Inv_lf {B : Int} {T : Tb} (h : Inv B T) {p : Nat} (hp : (p : Int) < T 0) : 0 ≤ lfF T p ∧ lfF T p ≤ 5994 := lf_b (fun _ ht => Inv_pl h hp ht)
-- saying
theorem syS_inv {B : Int} {T : Tb} {L : Bool} {p t : Nat} (h : Inv B T) (hp : (p : Int) < T 0) (ht : t < 6) : Inv B (syS L p t T) := by
  have hn := Inv_n h
  have h1 := Inv_pl h hp ht
  have h2 := tkF_b (T (cx p 0)) t (T 1)
  have h3 := Inv_l h ht
  refine Inv_cx h (by omega) (by omega) (fun _ => pkd_pl ?_)
  split <;> omega
theorem syS_lo {T : Tb} {L : Bool} {p t : Nat} {j : Nat} (hj : j < 10) : syS L p t T j = T j := up_lo _ _ hj
theorem syS_0 {B : Int} {T : Tb} {L : Bool} {p t : Nat} (h : Inv B T) (hp : (p : Int) < T 0) (ht : t < 6) (hw : tkF (T (cx p 0)) t (T 1) + (if L then T (4 + t) else 0) ≤ 0) : syS L p t T = T := by
  have h1 := Inv_pl h hp ht
  have h2 := tkF_b (T (cx p 0)) t (T 1)
  have h3 := Inv_l h ht
  unfold syS
  rw [show min 999 (T (cx p (4 + t)) + (tkF (T (cx p 0)) t (T 1) + if L = true then T (4 + t) else 0)) = T (cx p (4 + t)) by split at hw <;> split <;> first | omega | contradiction]
  exact up_id _ _
theorem syF_inv {B : Int} {T : Tb} {L : Bool} {p : Nat} (h : Inv B T) (hp : (p : Int) < T 0) : Inv B (syF L p T) ∧ syF L p T 0 = T 0 ∧ syF L p T 1 = T 1 ∧ syF L p T 2 = T 2 ∧ syF L p T 3 = T 3 := by
  have := run_inv (syS L p) (fun S => Inv B S ∧ S 0 = T 0 ∧ S 1 = T 1 ∧ S 2 = T 2 ∧ S 3 = T 3) 6 (fun t S ht ⟨a, b, c, d, e⟩ => ⟨syS_inv a (by omega) ht, by rw [syS_lo (by omega), b], by rw [syS_lo (by omega), c], by rw [syS_lo (by omega), d], by rw [syS_lo (by omega), e]⟩) 6 0 T (by omega) ⟨h, rfl, rfl, rfl, rfl⟩
  exact this
-- swallowing
def swI (B : Int) (T0 : Tb) (h : Nat) (t : Nat) (z : Tb × Int × Int) : Prop := Inv B z.1 ∧ (∀ j, j < 10 → z.1 j = T0 j) ∧ (∀ q w, w < 4 → z.1 (cx q w) = T0 (cx q w)) ∧ (0 ≤ z.2.1 ∧ z.2.1 ≤ 100) ∧ 0 ≤ z.2.2 ∧ z.2.2 ≤ 999 * t
theorem swS_b {B : Int} {k : Int} {h t : Nat} {z : Tb × Int × Int} (hi : Inv B z.1) (hh : (h : Int) < z.1 0) (ht : t < 6) (hb : 0 ≤ z.2.1) : let n := swN (chF k t (z.1 3)) z.2.1 (z.1 (cx h (4 + t))); 0 ≤ n ∧ n ≤ z.1 (cx h (4 + t)) ∧ n * chF k t (z.1 3) ≤ z.2.1 := swN_b hb (Inv_pl hi hh ht).1
theorem swS_up {B : Int} {k : Int} {h t : Nat} {z : Tb × Int × Int} (hi : Inv B z.1) (hh : (h : Int) < z.1 0) (ht : t < 6) (hb : 0 ≤ z.2.1) : Inv B (swS k h t z).1 := by
  have hn := Inv_n hi
  have h1 := swS_b (k := k) hi hh ht hb
  have h2 := Inv_pl hi hh ht
  refine Inv_cx hi (by omega) (by omega) (fun _ => pkd_pl ?_)
  dsimp only at h1
  omega
theorem swS_lo {k : Int} {h t : Nat} {z : Tb × Int × Int} {j : Nat} (hj : j < 10) : (swS k h t z).1 j = z.1 j := up_lo _ _ hj
theorem swS_cx {k : Int} {h t : Nat} {z : Tb × Int × Int} {q w : Nat} (ht : t < 6) (hw : w < 4) : (swS k h t z).1 (cx q w) = z.1 (cx q w) := up_cx _ _ (by omega) (by omega) (by omega)
theorem swN_c {c b w : Int} (hb : 0 ≤ b) (hw : 0 ≤ w) : 0 ≤ b - swN c b w * c ∧ (0 ≤ c → b - swN c b w * c ≤ b) ∧ (c < 0 → swN c b w = 0) := by
  have h := swN_b (c := c) hb hw
  refine ⟨by omega, fun hc => ?_, fun hc => by unfold swN; rw [if_pos hc]⟩
  have := Int.mul_nonneg h.1 hc
  omega
theorem swS_I {B : Int} {T0 : Tb} {k : Int} {h t : Nat} {z : Tb × Int × Int} (ht : t < 6) (hh : (h : Int) < T0 0) (hz : swI B T0 h t z) : swI B T0 h (t + 1) (swS k h t z) := by
  obtain ⟨a, b, c, ⟨d1, d2⟩, e1, e2⟩ := hz
  have hh' : (h : Int) < z.1 0 := by rw [b 0 (by omega)]; exact hh
  have h1 := swS_b (k := k) a hh' ht d1
  have h2 := Inv_pl a hh' ht
  have h3 := swN_c (c := chF k t (z.1 3)) (b := z.2.1) (w := z.1 (cx h (4 + t))) d1 h2.1
  dsimp only at h1
  refine ⟨swS_up a hh' ht d1, fun j hj => by rw [swS_lo hj, b j hj], fun q w hw => by rw [swS_cx ht hw, c q w hw], ⟨h3.1, ?_⟩, ?_, ?_⟩
  · show z.2.1 - _ * _ ≤ 100
    by_cases hc : 0 ≤ chF k t (z.1 3)
    · have := h3.2.1 hc; omega
    · rw [h3.2.2 (by omega)]; omega
  · show 0 ≤ z.2.2 + _; omega
  · show z.2.2 + _ ≤ _; omega
theorem swF_I {B : Int} {T : Tb} {k : Int} {h : Nat} {b s : Int} (hi : Inv B T) (hh : (h : Int) < T 0) (hb : 0 ≤ b ∧ b ≤ 100) (hs : 0 ≤ s) : Inv B (swF k h (T, b, s)).1 ∧ (∀ j, j < 10 → (swF k h (T, b, s)).1 j = T j) ∧ (∀ q w, w < 4 → (swF k h (T, b, s)).1 (cx q w) = T (cx q w)) ∧ (0 ≤ (swF k h (T, b, s)).2.1 ∧ (swF k h (T, b, s)).2.1 ≤ 100) ∧ s ≤ (swF k h (T, b, s)).2.2 ∧ (swF k h (T, b, s)).2.2 ≤ s + 5994 := by
  have key : ∀ (m t : Nat) (z : Tb × Int × Int), t + m = 6 → (Inv B z.1 ∧ (∀ j, j < 10 → z.1 j = T j) ∧ (∀ q w, w < 4 → z.1 (cx q w) = T (cx q w)) ∧ (0 ≤ z.2.1 ∧ z.2.1 ≤ 100) ∧ s ≤ z.2.2 ∧ z.2.2 ≤ s + 999 * t) → (Inv B (run (swS k h) m t z).1 ∧ (∀ j, j < 10 → (run (swS k h) m t z).1 j = T j) ∧ (∀ q w, w < 4 → (run (swS k h) m t z).1 (cx q w) = T (cx q w)) ∧ (0 ≤ (run (swS k h) m t z).2.1 ∧ (run (swS k h) m t z).2.1 ≤ 100) ∧ s ≤ (run (swS k h) m t z).2.2 ∧ (run (swS k h) m t z).2.2 ≤ s + 5994) := by
    intro m
    induction m with
    | zero => intro t z ht hz; rw [run_0]; exact ⟨hz.1, hz.2.1, hz.2.2.1, hz.2.2.2.1, hz.2.2.2.2.1, by have := hz.2.2.2.2.2; omega⟩
    | succ m ih =>
      intro t z ht hz
      obtain ⟨a, b', c, ⟨d1, d2⟩, e1, e2⟩ := hz
      have hh' : (h : Int) < z.1 0 := by rw [b' 0 (by omega)]; exact hh
      have h1 := swS_b (k := k) a hh' (show t < 6 by omega) d1
      have h2 := Inv_pl a hh' (show t < 6 by omega)
      have h3 := swN_c (c := chF k t (z.1 3)) (b := z.2.1) (w := z.1 (cx h (4 + t))) d1 h2.1
      dsimp only at h1
      refine ih (t + 1) (swS k h t z) (by omega) ⟨swS_up a hh' (by omega) d1, fun j hj => by rw [swS_lo hj, b' j hj], fun q w hw => by rw [swS_cx (by omega) hw, c q w hw], ⟨h3.1, ?_⟩, ?_, ?_⟩
      · show z.2.1 - _ * _ ≤ 100
        by_cases hc : 0 ≤ chF k t (z.1 3)
        · have := h3.2.1 hc; omega
        · rw [h3.2.2 (by omega)]; omega
      · show s ≤ z.2.2 + _; omega
      · show z.2.2 + _ ≤ _; omega
  exact key 6 0 (T, b, s) rfl ⟨hi, fun _ _ => rfl, fun _ _ _ => rfl, hb, Int.le_refl s, by simp⟩
theorem swS_0 {k : Int} {h t : Nat} {z : Tb × Int × Int} (hb : 0 ≤ z.2.1) (h0 : z.1 (cx h (4 + t)) = 0) : swS k h t z = z := by
  have hn : swN (chF k t (z.1 3)) z.2.1 0 = 0 := by
    have := swN_b (c := chF k t (z.1 3)) hb (Int.le_refl 0); omega
  unfold swS
  rw [h0, hn, Int.sub_zero, Int.zero_mul, Int.sub_zero, Int.add_zero]
  have : va_up z.1 (cx h (4 + t)) 0 = z.1 := by
    have h1 := up_id z.1 (cx h (4 + t))
    rw [h0] at h1
    exact h1
  rw [this]
-- supper
theorem spZ_I {B : Int} {T : Tb} {p : Nat} (h : Inv B T) (hp : (p : Int) < T 0) : Inv B (spZ p T).1 ∧ (∀ j, j < 10 → (spZ p T).1 j = T j) ∧ (∀ q w, w < 4 → (spZ p T).1 (cx q w) = T (cx q w)) ∧ 0 ≤ (spZ p T).2.2 ∧ (spZ p T).2.2 ≤ 11988 := by
  have ha := Inv_ap h hp
  have hl := Inv_lv h hp
  have h1 := swF_I (k := T (cx p 0)) (b := apF T p) (s := 0) h hp ⟨ha.1, by omega⟩ (Int.le_refl 0)
  unfold spZ spM
  split
  · have h2 := swF_I (T := (swF (T (cx p 0)) p (T, apF T p, 0)).1) (k := T (cx p 0)) (h := (T (cx p 1)).toNat) (b := (swF (T (cx p 0)) p (T, apF T p, 0)).2.1) (s := (swF (T (cx p 0)) p (T, apF T p, 0)).2.2) h1.1 (by rw [h1.2.1 0 (by omega)]; omega) h1.2.2.2.1 (by omega)
    refine ⟨h2.1, fun j hj => by rw [h2.2.1 j hj, h1.2.1 j hj], fun q w hw => by rw [h2.2.2.1 q w hw, h1.2.2.1 q w hw], Int.le_trans h1.2.2.2.2.1 h2.2.2.2.2.1, Int.le_trans h2.2.2.2.2.2 (by have := h1.2.2.2.2.2; omega)⟩
  · exact ⟨h1.1, h1.2.1, h1.2.2.1, by have := h1.2.2.2.2; omega, by have := h1.2.2.2.2; omega⟩
theorem spF_I {B : Int} {T : Tb} {p : Nat} (h : Inv B T) (hp : (p : Int) < T 0) : Inv B (spF p T) ∧ (∀ j, j < 10 → spF p T j = T j) := by
  have hn := Inv_n h
  obtain ⟨a, b, c, d, e⟩ := spZ_I h hp
  have hp' : (p : Int) < (spZ p T).1 0 := by rw [b 0 (by omega)]; exact hp
  have hf := Inv_f a hp'
  have hat := Inv_a a hp'
  unfold spF spE
  refine ⟨Inv_cx (Inv_cx a (by omega) (by omega) (fun _ => ?_)) (by omega) (by omega) (fun _ => ?_), fun j hj => by rw [up_lo _ _ hj, up_lo _ _ hj, b j hj]⟩
  · show 0 ≤ _ ∧ _ ≤ 99; omega
  · show 0 ≤ _ ∧ _ ≤ 99999
    omega
-- days
theorem dyA_I {B : Int} {T : Tb} {m : Int} {p : Nat} (h : Inv B T) (hp : (p : Int) < T 0) : Inv B (dyA m p T) ∧ dyA m p T 0 = T 0 ∧ dyA m p T 1 = T 1 ∧ dyA m p T 2 = T 2 ∧ dyA m p T 3 = T 3 := by
  unfold dyA
  split
  · exact syF_inv h hp
  · exact ⟨h, rfl, rfl, rfl, rfl⟩
theorem dyF_I {B m : Int} {T : Tb} (h : Inv B T) : Inv (B + 1) (dyF m T) ∧ dyF m T 0 = T 0 ∧ dyF m T 1 = T 1 + 1 ∧ dyF m T 2 = T 2 := by
  have hn := Inv_n h
  have h1 := run_inv (dyA m) (fun S => Inv B S ∧ S 0 = T 0 ∧ S 1 = T 1 ∧ S 2 = T 2) (T 0).toNat (fun p S hp ⟨a, b, c, d⟩ => by
    have := dyA_I (m := m) (p := p) a (by omega)
    exact ⟨this.1, by rw [this.2.1, b], by rw [this.2.2.1, c], by rw [this.2.2.2.1, d]⟩) (T 0).toNat 0 T (by omega) ⟨h, rfl, rfl, rfl⟩
  have h2 := run_inv spF (fun S => Inv B S ∧ S 0 = T 0 ∧ S 1 = T 1 ∧ S 2 = T 2) (T 0).toNat (fun p S hp ⟨a, b, c, d⟩ => by
    have := spF_I (p := p) a (by omega)
    exact ⟨this.1, by rw [this.2 0 (by omega), b], by rw [this.2 1 (by omega), c], by rw [this.2 2 (by omega), d]⟩) (T 0).toNat 0 _ (by omega) h1
  obtain ⟨a, b, c, d⟩ := h2
  have hd := Inv_d a
  unfold dyF
  dsimp only
  refine ⟨fun i hi => ?_, by rw [up_n _ _ (by omega), b], by rw [up_s, c], by rw [up_n _ _ (by omega), d]⟩
  rw [up_n _ _ (show (0 : Nat) ≠ 1 by omega)]
  by_cases e : i = 1
  · subst e
    rw [up_s]
    show 0 ≤ _ ∧ _ ≤ B + 1
    omega
  · rw [up_n _ _ e]
    have := a i hi
    unfold ckd at this ⊢
    rw [if_neg e] at this ⊢
    exact this
theorem Inv_mono {B C : Int} {T : Tb} (h : Inv B T) (hc : B ≤ C) : Inv C T := by
  intro i hi
  have := h i hi
  unfold ckd at this ⊢
  by_cases e : i = 1
  · subst e
    simp only [if_pos] at this ⊢
    exact ⟨this.1, Int.le_trans this.2 hc⟩
  · rw [if_neg e] at this ⊢
    exact this
theorem dsF_I {B m : Int} : ∀ (n : Nat) {T : Tb} (_ : Inv B T), Inv (B + n) (dsF m n T) ∧ dsF m n T 0 = T 0 ∧ dsF m n T 1 = T 1 + n ∧ dsF m n T 2 = T 2 := by
  have key : ∀ (n t : Nat) (B : Int) (T : Tb), Inv B T → Inv (B + n) (run (fun _ => dyF m) n t T) ∧ run (fun _ => dyF m) n t T 0 = T 0 ∧ run (fun _ => dyF m) n t T 1 = T 1 + n ∧ run (fun _ => dyF m) n t T 2 = T 2 := by
    intro n
    induction n with
    | zero => intro t B T h; rw [run_0]; exact ⟨by simpa using h, rfl, by simp, rfl⟩
    | succ n ih =>
      intro t B T h
      have h1 := dyF_I (m := m) h
      have h2 := ih (t + 1) (B + 1) _ h1.1
      rw [run_s]
      refine ⟨by have := h2.1; rwa [show B + ((n + 1 : Nat) : Int) = B + 1 + (n : Int) by omega], by rw [h2.2.1, h1.2.1], by rw [h2.2.2.1, h1.2.2.1]; omega, by rw [h2.2.2.2, h1.2.2.2]⟩
  intro n T h
  exact key n 0 B T h
def prF (k : Int) : Int := if k = 3 then 2 else if k = 4 then 3 else if k = 6 then 1 else 0
def uL : Nat → Int → Int → Bool
  | 0, _, _ => false
  | n + 1, k, a => if k = a then true else uL n (prF k) a
def trF (T : Tb) (p : Nat) (w : Int) : Int := if w = 0 then T (cx p 0) else if w = 1 then T (cx p 1) else if w = 2 then T (cx p 2) else if w = 3 then T (cx p 3) else if w = 4 then apF T p else if w = 5 then lfF T p else tsF T p
def stF (k : Int) (n : Nat) (T : Tb) : Tb := run (fun t S => va_up S (cx n (4 + t)) 0) 6 0 (va_up (va_up (va_up (va_up (va_up T 0 (T 0 + 1)) (cx n 0) k) (cx n 1) (-1)) (cx n 2) 50) (cx n 3) 0)
def drF (T : Tb) : Tb := va_up T 2 (T 2 * 1103515245 + 12345)
def exF (a c : Nat) (T : Tb) : Tb := run (fun t S => va_up (va_up S (cx a (4 + t)) (S (cx c (4 + t)))) (cx c (4 + t)) (S (cx a (4 + t)))) 6 0 T

theorem swN_neg {c b w : Int} (h : c < 0) : swN c b w = 0 := by unfold swN; rw [if_pos h]
theorem swN_zero {c b w : Int} (h : c = 0) : swN c b w = w := by unfold swN; rw [if_neg (by omega), if_pos h]
theorem swN_pos {c b w : Int} (h : 0 < c) : swN c b w = min w (b / c) := by unfold swN; rw [if_neg (by omega), if_neg (by omega)]
theorem swF_shift (k : Int) (h : Nat) : ∀ (m t : Nat) (T : Tb) (b s d : Int), run (swS k h) m t (T, b, s + d) = ((run (swS k h) m t (T, b, s)).1, (run (swS k h) m t (T, b, s)).2.1, (run (swS k h) m t (T, b, s)).2.2 + d)
  | 0, _, _, _, _, _ => rfl
  | m + 1, t, T, b, s, d => by
    rw [run_s, run_s]
    have e : swS k h t (T, b, s + d) = ((swS k h t (T, b, s)).1, (swS k h t (T, b, s)).2.1, (swS k h t (T, b, s)).2.2 + d) := by
      unfold swS
      dsimp only
      rw [show ∀ x : Int, s + d + x = s + x + d from fun x => by omega]
    rw [e]
    exact swF_shift k h m (t + 1) _ _ _ d
theorem swF_sh (k : Int) (h : Nat) (T : Tb) (b d : Int) : swF k h (T, b, d) = ((swF k h (T, b, 0)).1, (swF k h (T, b, 0)).2.1, (swF k h (T, b, 0)).2.2 + d) := by
  have := swF_shift k h 6 0 T b 0 d
  rw [Int.zero_add] at this
  exact this
theorem prF_b {k : Int} (h : 0 ≤ k ∧ k ≤ 6) : 0 ≤ prF k ∧ prF k ≤ 6 := by
  unfold prF
  (repeat' split) <;> omega
theorem cpy_st {G K : Tb} {t i : Nat} (hg : ∀ i, i < t → G i = K i) (hi : i < t + 1) : va_up G t (K t) i = K i := by
  by_cases e : i = t
  · subst e; exact up_s _ _ _
  · rw [up_n _ _ e]; exact hg i (by omega)
theorem swS_J {B : Int} {T0 : Tb} {k : Int} {h t : Nat} {z : Tb × Int × Int} (ht : t < 6) (hh : (h : Int) < T0 0) (hz : Inv B z.1 ∧ (∀ i, i < 10 → z.1 i = T0 i) ∧ (0 ≤ z.2.1 ∧ z.2.1 ≤ 100) ∧ 0 ≤ z.2.2 ∧ z.2.2 ≤ 10000 + 999 * (t : Int)) : Inv B (swS k h t z).1 ∧ (∀ i, i < 10 → (swS k h t z).1 i = T0 i) ∧ (0 ≤ (swS k h t z).2.1 ∧ (swS k h t z).2.1 ≤ 100) ∧ 0 ≤ (swS k h t z).2.2 ∧ (swS k h t z).2.2 ≤ 10000 + 999 * ((t + 1 : Nat) : Int) := by
  obtain ⟨a, b, ⟨d1, d2⟩, e1, e2⟩ := hz
  have hh' : (h : Int) < z.1 0 := by rw [b 0 (by omega)]; exact hh
  have h1 := swS_b (k := k) a hh' ht d1
  have h2 := Inv_pl a hh' ht
  have h3 := swN_c (c := chF k t (z.1 3)) (b := z.2.1) (w := z.1 (cx h (4 + t))) d1 h2.1
  dsimp only at h1
  refine ⟨swS_up a hh' ht d1, fun j hj => by rw [swS_lo hj, b j hj], ⟨h3.1, ?_⟩, ?_, ?_⟩
  · show z.2.1 - _ * _ ≤ 100
    by_cases hc : 0 ≤ chF k t (z.1 3)
    · have := h3.2.1 hc; omega
    · rw [h3.2.2 (by omega)]; omega
  · show 0 ≤ z.2.2 + _; omega
  · show z.2.2 + _ ≤ _; omega
