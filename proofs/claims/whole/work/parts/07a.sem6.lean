/-! what the reference's ways have in common with the class's -/
theorem up_comm {α : Type} (f : Nat → α) {i j : Nat} (a b : α) (h : i ≠ j) : va_up (va_up f i a) j b = va_up (va_up f j b) i a := by
  funext k
  by_cases h1 : k = j
  · subst h1
    rw [up_s, up_n _ _ (Ne.symm h), up_s]
  · rw [up_n _ _ h1]
    by_cases h2 : k = i
    · subst h2; rw [up_s, up_s]
    · rw [up_n _ _ h2, up_n _ _ h2, up_n _ _ h1]
theorem up_cn (T : Tb) {p w : Nat} {i : Nat} (a b : Int) (h : i < 10) : va_up (va_up T i a) (cx p w) b = va_up (va_up T (cx p w) b) i a := up_comm _ _ _ (by have := cx_ge p w; omega)
theorem run_up0 (n : Nat) : ∀ (k t : Nat) (S : Tb) (v : Int), run (fun (t : Nat) (S : Tb) => va_up S (cx n (4 + t)) 0) k t (va_up S 0 v) = va_up (run (fun (t : Nat) (S : Tb) => va_up S (cx n (4 + t)) 0) k t S) 0 v
  | 0, _, _, _ => rfl
  | k + 1, t, S, v => by
    rw [run_s, run_s, up_cn _ _ _ (by omega)]
    exact run_up0 n k (t + 1) _ v
theorem st_e (kd : Int) (n : Nat) (T : Tb) : va_up (run (fun (t : Nat) (S : Tb) => va_up S (cx n (4 + t)) 0) 6 0 (va_up (va_up (va_up (va_up T (cx n 0) kd) (cx n 1) (-1)) (cx n 2) 50) (cx n 3) 0)) 0 (T 0 + 1) = stF kd n T := by
  unfold stF
  rw [up_cn (i := 0) _ _ _ (by omega), up_cn (i := 0) _ _ _ (by omega), up_cn (i := 0) _ _ _ (by omega), up_cn (i := 0) _ _ _ (by omega)]
  exact (run_up0 n 6 0 _ _).symm
theorem st_0 (kd : Int) (n : Nat) (T : Tb) : (stF kd n T) 0 = T 0 + 1 := by rw [← st_e, up_s]
def thF (T : Tb) (p wh n : Nat) : Int := if wh = 5 then lfF (dsF 0 n T) p else dsF 0 n T (cx p wh)
def noF (v : Int) (F : Nat → Int) : Int × (Nat → Int) := if 0 ≤ v then (v, F) else (-1000004, bmp 3 F)
theorem ex_st {a c t : Nat} (S : Tb) (h : a ≠ c) (ht : t < 6) : va_up (va_up S (cx a (4 + t)) (S (cx c (4 + t)))) (cx c (4 + t)) (S (cx a (4 + t))) = va_up (va_up S (cx c (4 + t)) (S (cx a (4 + t)))) (cx a (4 + t)) (S (cx c (4 + t))) := up_comm _ _ _ (fun e => h (cx_inj (by omega) (by omega) e).1)
theorem tl_e {iv : Int} {tot b : Bool} (h : (iv = 1 ∧ b = tot) ∨ (iv = 0 ∧ tot = false)) (hb : b = true ∨ iv = 0) : iv = b2 (decide (tot = true)) := by
  rcases h with ⟨h1, h2⟩ | ⟨h1, h2⟩
  · rcases hb with h3 | h3
    · rw [h1, ← h2, h3]; rfl
    · omega
  · rw [h1, h2]; rfl
theorem to_y {SN : Nat → Int} {b p k t : Nat} {T : Tb} {iv : Int} {tot : Bool} (h : (iv = 1 ∧ toF SN b p (k + 1) t T = tot) ∨ (iv = 0 ∧ tot = false)) (hi : iv ≠ 0) (hc : SN (b + t) = -1 ∨ SN (b + t) = lfF T p) : ((1 : Int) = 1 ∧ toF SN b p k (t + 1) (dyF 0 T) = tot) ∨ ((1 : Int) = 0 ∧ tot = false) := by
  rcases h with ⟨h1, h2⟩ | ⟨h1, h2⟩
  · rw [toF, if_pos hc] at h2
    exact Or.inl ⟨rfl, h2⟩
  · exact absurd h1 hi
theorem to_n {SN : Nat → Int} {b p k t : Nat} {T : Tb} {iv : Int} {tot X : Bool} (h : (iv = 1 ∧ toF SN b p (k + 1) t T = tot) ∨ (iv = 0 ∧ tot = false)) (hi : iv ≠ 0) (hc : ¬ (SN (b + t) = -1 ∨ SN (b + t) = lfF T p)) : ((0 : Int) = 1 ∧ X = tot) ∨ ((0 : Int) = 0 ∧ tot = false) := by
  rcases h with ⟨h1, h2⟩ | ⟨h1, h2⟩
  · rw [toF, if_neg hc] at h2
    exact Or.inr ⟨rfl, h2.symm⟩
  · exact absurd h1 hi
theorem bR_c (SB : Nat → Int) (i : Nat) : (SB i = 0 ∧ bR SB i = -1) ∨ (SB i ≠ 0 ∧ bR SB i = SB i) := by
  unfold bR
  split
  · left; exact ⟨by assumption, rfl⟩
  · right; exact ⟨by assumption, rfl⟩
theorem bR_up0 (SB : Nat → Int) (i : Nat) : va_up (bR SB) i (-1) = bR (va_up SB i 0) := by
  funext k
  unfold bR
  by_cases h : k = i
  · subst h; rw [up_s, up_s, if_pos rfl]
  · rw [up_n _ _ h, up_n _ _ h]
theorem bR_up1 (SB : Nat → Int) (i : Nat) {v : Int} (hv : v ≠ 0) : va_up (bR SB) i v = bR (va_up SB i v) := by
  funext k
  unfold bR
  by_cases h : k = i
  · subst h; rw [up_s, up_s, if_neg hv]
  · rw [up_n _ _ h, up_n _ _ h]
theorem unB_i (own kd : Int) : unB own kd = true ↔ (kd = 0 ∨ own = kd ∨ (kd = 2 ∧ (own = 3 ∨ own = 4)) ∨ (kd = 3 ∧ own = 4) ∨ (kd = 1 ∧ own = 6)) := by
  unfold unB; exact decide_eq_true_iff
theorem up_back {α : Type} (f : Nat → α) (i : Nat) (v : α) : va_up (va_up f i v) i (f i) = f := by rw [up_up, up_id]
theorem ds_b {B : Int} {T : Tb} {n : Nat} (h : Inv B T) : Inv (B + n) (dsF 0 n T) ∧ dsF 0 n T 0 = T 0 := ⟨(dsF_I n h).1, (dsF_I n h).2.1⟩
theorem th_tr {T : Tb} {p wh n : Nat} (h : wh = 2 ∨ wh = 3 ∨ wh = 5) : thF T p wh n = trF (dsF 0 n T) p wh := by
  unfold thF trF
  rcases h with rfl | rfl | rfl
  · rw [if_neg (by decide), if_neg (by decide), if_neg (by decide), if_pos (by decide)]
  · rw [if_neg (by decide), if_neg (by decide), if_neg (by decide), if_neg (by decide), if_pos (by decide)]
  · rw [if_pos rfl, if_neg (by decide), if_neg (by decide), if_neg (by decide), if_neg (by decide), if_neg (by decide), if_pos (by decide)]
theorem th_5 (T : Tb) (p n : Nat) : thF T p 5 n = lfF (dsF 0 n T) p := if_pos rfl
theorem no_r {v r : Int} {F1 : Nat → Int} {T K : Tb} {ik : Int} {SB SS SN : Nat → Int} {tn : Int} {TB F : Nat → Int} (h : (r, F1) = noF v F) : (r, T, K, ik, SB, SS, SN, tn, TB, F1) = if 0 ≤ v then (v, T, K, ik, SB, SS, SN, tn, TB, F) else fnd 3 T K ik SB SS SN tn TB F := by
  unfold noF at h
  split at h
  · cases h
    rw [if_pos (by assumption)]
  · cases h
    rw [if_neg (by assumption)]
    rfl
-- plates exchanged
theorem ex_at {a c : Nat} (hac : a ≠ c) : ∀ (k t : Nat) (S : Tb) (j : Nat), t + k ≤ 6 → run (fun (t : Nat) (S : Tb) => va_up (va_up S (cx a (4 + t)) (S (cx c (4 + t)))) (cx c (4 + t)) (S (cx a (4 + t)))) k t S j = if cx a (4 + t) ≤ j ∧ j < cx a (4 + t + k) then S (j - cx a 0 + cx c 0) else if cx c (4 + t) ≤ j ∧ j < cx c (4 + t + k) then S (j - cx c 0 + cx a 0) else S j
  | 0, t, S, j, _ => by
    rw [run_0]
    unfold cx
    rw [if_neg (by omega), if_neg (by omega)]
  | k + 1, t, S, j, h => by
    rw [run_s, ex_at hac k (t + 1) _ j (by omega)]
    have e : cx a (4 + t) ≠ cx c (4 + t) := fun e => hac (cx_inj (by omega) (by omega) e).1
    unfold cx at e ⊢
    unfold va_up
    by_cases h1 : 10 + 10 * a + (4 + t) ≤ j ∧ j < 10 + 10 * a + (4 + t + (k + 1))
    · rw [if_pos h1]
      by_cases h2 : j = 10 + 10 * a + (4 + t)
      · subst h2
        rw [if_neg (by omega), if_neg (by omega), if_neg (by omega), if_pos rfl]
        congr 1
        omega
      · rw [if_pos (by omega), if_neg (by omega), if_neg (by omega)]
    · rw [if_neg h1]
      by_cases h3 : 10 + 10 * c + (4 + t) ≤ j ∧ j < 10 + 10 * c + (4 + t + (k + 1))
      · rw [if_pos h3]
        by_cases h2 : j = 10 + 10 * c + (4 + t)
        · subst h2
          rw [if_neg (by omega), if_neg (by omega), if_pos rfl]
          congr 1
          omega
        · rw [if_neg (by omega), if_pos (by omega), if_neg (by omega), if_neg (by omega)]
      · rw [if_neg h3, if_neg (by omega), if_neg (by omega), if_neg (by omega), if_neg (by omega)]
theorem ex_ex {a c : Nat} (hac : a ≠ c) (T : Tb) : exF a c (exF a c T) = T := by
  funext j
  unfold exF
  rw [ex_at hac 6 0 _ j (by omega)]
  by_cases h1 : cx a (4 + 0) ≤ j ∧ j < cx a (4 + 0 + 6)
  · rw [if_pos h1, ex_at hac 6 0 _ _ (by omega), if_neg (by unfold cx at h1 ⊢; omega), if_pos (by unfold cx at h1 ⊢; omega)]
    congr 1
    unfold cx at h1 ⊢
    omega
  · rw [if_neg h1]
    by_cases h3 : cx c (4 + 0) ≤ j ∧ j < cx c (4 + 0 + 6)
    · rw [if_pos h3, ex_at hac 6 0 _ _ (by omega), if_pos (by unfold cx at h3 ⊢; omega)]
      congr 1
      unfold cx at h3 ⊢
      omega
    · rw [if_neg h3, ex_at hac 6 0 _ _ (by omega), if_neg h1, if_neg h3]
theorem ex_I {B : Int} {T : Tb} {a c : Nat} (h : Inv B T) (ha : (a : Int) < T 0) (hc : (c : Int) < T 0) : Inv B (exF a c T) ∧ exF a c T 0 = T 0 := by
  refine run_inv _ (fun S => Inv B S ∧ S 0 = T 0) 6 (fun t S ht ⟨i1, i2⟩ => ?_) 6 0 T (by omega) ⟨h, rfl⟩
  have hn := Inv_n h
  have h1 := Inv_pl i1 (p := a) (by omega) ht
  have h2 := Inv_pl i1 (p := c) (by omega) ht
  have i3 : Inv B (va_up S (cx a (4 + t)) (S (cx c (4 + t)))) := Inv_cx i1 (by omega) (by omega) (fun _ => pkd_pl h2)
  exact ⟨Inv_cx i3 (by omega) (by omega) (fun _ => pkd_pl h1), by rw [up_lo _ _ (by omega), up_lo _ _ (by omega), i2]⟩
-- odds
theorem pw_run (a : Int) : ∀ (k t : Nat) (z : Int), run (fun _ z => z * a) k t z = z * a ^ k
  | 0, _, z => by rw [run_0, Int.pow_zero, Int.mul_one]
  | k + 1, t, z => by rw [run_s, pw_run a k (t + 1), Int.pow_succ, Int.mul_assoc, Int.mul_comm a]
theorem pw_e (a : Int) (n : Nat) : pwF a n = a ^ n := by
  unfold pwF
  rw [pw_run, Int.one_mul]
theorem pw_b {c n : Nat} (hc : c ≤ 6) (hn : n ≤ 23) : c ^ n ≤ 6 ^ n ∧ 6 ^ n ≤ 789730223053602816 ∧ 0 < 6 ^ n := ⟨Nat.pow_le_pow_left hc n, Nat.le_trans (Nat.pow_le_pow_right (by decide) hn) (Nat.le_of_ble_eq_true rfl), Nat.pow_pos (by decide)⟩
theorem gcd_st (a b : Nat) : Nat.gcd a b = Nat.gcd b (a % b) := by rw [Nat.gcd_comm a b, Nat.gcd_rec b a, Nat.gcd_comm]
theorem od_g {c n : Nat} : Nat.gcd (6 ^ n) (c ^ n) = (Nat.gcd 6 c) ^ n := Nat.pow_gcd_pow
theorem od_a {c n : Nat} (hc : c ≤ 6) : ((c ^ n : Nat) : Int) / ((Nat.gcd (6 ^ n) (c ^ n) : Nat) : Int) = pwF (loF (c : Int) 6 6) n := by
  rw [od_g, pw_e, ← Int.natCast_ediv, ← Nat.div_pow (Nat.gcd_dvd_right 6 c)]
  have e : loF (c : Int) 6 6 = ((c / Nat.gcd 6 c : Nat) : Int) := by
    rcases (show c = 0 ∨ c = 1 ∨ c = 2 ∨ c = 3 ∨ c = 4 ∨ c = 5 ∨ c = 6 by omega) with rfl | rfl | rfl | rfl | rfl | rfl | rfl <;> decide +kernel
  rw [e, Int.natCast_pow]
theorem od_b {c n : Nat} (hc : c ≤ 6) : ((6 ^ n : Nat) : Int) / ((Nat.gcd (6 ^ n) (c ^ n) : Nat) : Int) = pwF (loF 6 (c : Int) 6) n := by
  rw [od_g, pw_e, ← Int.natCast_ediv, ← Nat.div_pow (Nat.gcd_dvd_left 6 c)]
  have e : loF 6 (c : Int) 6 = ((6 / Nat.gcd 6 c : Nat) : Int) := by
    rcases (show c = 0 ∨ c = 1 ∨ c = 2 ∨ c = 3 ∨ c = 4 ∨ c = 5 ∨ c = 6 by omega) with rfl | rfl | rfl | rfl | rfl | rfl | rfl <;> decide +kernel
  rw [e, Int.natCast_pow]
-- a copy, step by step
theorem cp_f {f : Nat → Int} {a b t : Nat} (h : b ≤ a) : va_up (va_cpy f f a b t) (b + t) (va_cpy f f a b t (a + t)) = va_cpy f f a b (t + 1) := by
  funext k
  unfold va_up va_cpy
  by_cases h1 : k = b + t
  · subst h1
    rw [if_pos rfl, if_neg (by omega), if_pos (by omega)]
    congr 1
    omega
  · rw [if_neg h1]
    by_cases h2 : b ≤ k ∧ k < b + t
    · rw [if_pos h2, if_pos (by omega)]
    · rw [if_neg h2, if_neg (by omega)]
theorem cp_b {f : Nat → Int} {a b n t : Nat} (h : a < b) (ht : t < n) : va_up (va_cpy f f (a + (n - t)) (b + (n - t)) t) (b + (n - 1 - t)) (va_cpy f f (a + (n - t)) (b + (n - t)) t (a + (n - 1 - t))) = va_cpy f f (a + (n - (t + 1))) (b + (n - (t + 1))) (t + 1) := by
  funext k
  unfold va_up va_cpy
  by_cases h1 : k = b + (n - 1 - t)
  · subst h1
    rw [if_pos rfl, if_neg (by omega), if_pos (by omega)]
    congr 1
    omega
  · rw [if_neg h1]
    by_cases h2 : b + (n - t) ≤ k ∧ k < b + (n - t) + t
    · rw [if_pos h2, if_pos (by omega)]
      congr 1
      omega
    · rw [if_neg h2, if_neg (by omega)]
theorem cp_0 (f : Nat → Int) (a b : Nat) : va_cpy f f a b 0 = f := by
  funext k
  unfold va_cpy
  rw [if_neg (by omega)]
def cpJ (SN S : Nat → Int) (a b n t : Nat) : Prop := (a < b → S = va_cpy SN SN (a + (n - t)) (b + (n - t)) t) ∧ (b ≤ a → S = va_cpy SN SN a b t)
theorem cpJ_0 (SN : Nat → Int) (a b n : Nat) : cpJ SN SN a b n 0 := ⟨fun _ => (cp_0 _ _ _).symm, fun _ => (cp_0 _ _ _).symm⟩
theorem cpJ_b {SN S : Nat → Int} {a b n t : Nat} (h : cpJ SN S a b n t) (hab : a < b) (ht : t < n) : cpJ SN (va_up S (b + (n - 1 - t)) (S (a + (n - 1 - t)))) a b n (t + 1) := ⟨fun _ => by rw [h.1 hab]; exact cp_b hab ht, fun _ => by omega⟩
theorem cpJ_f {SN S : Nat → Int} {a b n t : Nat} (h : cpJ SN S a b n t) (hab : b ≤ a) : cpJ SN (va_up S (b + t) (S (a + t))) a b n (t + 1) := ⟨fun _ => by omega, fun _ => by rw [h.2 hab]; exact cp_f hab⟩
theorem cpJ_n {SN S : Nat → Int} {a b n : Nat} (h : cpJ SN S a b n n) : S = va_cpy SN SN a b n := by
  by_cases hab : a < b
  · have := h.1 hab
    rwa [show n - n = 0 by omega, Nat.add_zero, Nat.add_zero] at this
  · exact h.2 (by omega)
theorem waF_1 {SB : Nat → Int} {s : Int} (h : ¬ (0 ≤ s ∧ s < 4)) : waF SB s = -1000001 := if_pos h
theorem waF_6 {SB : Nat → Int} {s : Int} (h : 0 ≤ s ∧ s < 4) (h0 : SB s.toNat = 0) : waF SB s = -1000006 := by unfold waF; rw [if_neg (by omega), if_pos h0]
theorem waF_00 {SB : Nat → Int} {s : Int} (h : 0 ≤ s ∧ s < 4) (h0 : SB s.toNat ≠ 0) : waF SB s = 0 := by unfold waF; rw [if_neg (by omega), if_neg h0]
theorem sw_r {be bv r : Int} {F1 : Nat → Int} {T K : Tb} {ik : Int} {SB SS SN : Nat → Int} {tn : Int} {TB F : Nat → Int} (h : (be = -1 ∧ T 0 < 2) ∨ (be = bv ∧ 0 ≤ be ∧ 2 ≤ T 0)) (hn : (r, F1) = noF be F) : (r, T, K, ik, SB, SS, SN, tn, TB, F1) = if T 0 < 2 then fnd 3 T K ik SB SS SN tn TB F else (bv, T, K, ik, SB, SS, SN, tn, TB, F) := by
  rw [no_r (T := T) (K := K) (ik := ik) (SB := SB) (SS := SS) (SN := SN) (tn := tn) (TB := TB) hn]
  rcases h with ⟨h1, h2⟩ | ⟨h1, h2, h3⟩
  · rw [if_neg (by omega), if_pos h2]
  · rw [if_pos h2, if_neg (by omega), h1]
theorem sh_1 {n : Int} (h : 0 ≤ n ∧ n ≤ 8) : shlI 1 n = ((2 ^ n.toNat : Nat) : Int) := by
  rcases (show n = 0 ∨ n = 1 ∨ n = 2 ∨ n = 3 ∨ n = 4 ∨ n = 5 ∨ n = 6 ∨ n = 7 ∨ n = 8 by omega) with rfl | rfl | rfl | rfl | rfl | rfl | rfl | rfl | rfl <;> decide +kernel
theorem p2_le {n : Nat} (h : n ≤ 8) : 2 ^ n ≤ 256 ∧ 0 < 2 ^ n := ⟨Nat.le_trans (Nat.pow_le_pow_right (by decide) h) (Nat.le_of_ble_eq_true rfl), Nat.pow_pos (by decide)⟩
theorem si_ok {p n : Nat} {v : Int} {T K : Tb} {ik : Int} {SB SS SN : Nat → Int} {tn : Int} {TB F : Nat → Int} (h : (0 ≤ ((p : Nat) : Int) ∧ ((p : Nat) : Int) < T 0) ∧ (0 ≤ ((n : Nat) : Int) ∧ ((n : Nat) : Int) ≤ 12)) (h0 : 0 ≤ v) (e : siF n p (2 ^ (T 0).toNat) T ((T 0).toNat + 1) 0 = v) : (v, T, K, ik, SB, SS, SN, tn, TB, F) = m_silence ((p : Nat) : Int) ((n : Nat) : Int) T K ik SB SS SN tn TB F := by
  unfold m_silence
  rw [if_pos h]
  simp only [Int.toNat_natCast]
  rw [e, if_pos h0]
theorem si_no {p n : Nat} {T K : Tb} {ik : Int} {SB SS SN : Nat → Int} {tn : Int} {TB F : Nat → Int} (h : (0 ≤ ((p : Nat) : Int) ∧ ((p : Nat) : Int) < T 0) ∧ (0 ≤ ((n : Nat) : Int) ∧ ((n : Nat) : Int) ≤ 12)) (e : siF n p (2 ^ (T 0).toNat) T ((T 0).toNat + 1) 0 = -1) : (-1000004, T, K, ik, SB, SS, SN, tn, TB, bmp 3 F) = m_silence ((p : Nat) : Int) ((n : Nat) : Int) T K ik SB SS SN tn TB F := by
  unfold m_silence
  rw [if_pos h]
  simp only [Int.toNat_natCast]
  rw [e, if_neg (by decide)]
  rfl
