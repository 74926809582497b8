/-! the reference's silence; what can come to be stays so -/
def siR (n sp : Nat) (T : Tb) : Nat → Nat → Int → Int
  | 0, _, b => b
  | k + 1, s, b => siR n sp T k (s + 1) (if (b < 0 ∨ bcF s < bcF b.toNat) ∧ lfF (dsF (s : Int) n T) sp = 0 then (s : Int) else b)
def siP (P : Nat → Prop) (m : Nat) (r : Int) : Prop := (r = -1 ∧ ∀ s : Nat, s < m → ¬ P s) ∨ ∃ b : Nat, r = (b : Int) ∧ b < m ∧ P b ∧ ∀ s : Nat, s < m → P s → bcF b < bcF s ∨ (bcF b = bcF s ∧ b ≤ s)
theorem siP_u {P : Nat → Prop} {m : Nat} {r q : Int} (h1 : siP P m r) (h2 : siP P m q) : r = q := by
  rcases h1 with ⟨e1, a1⟩ | ⟨b1, e1, l1, p1, a1⟩
  · rcases h2 with ⟨e2, -⟩ | ⟨b2, -, l2, p2, -⟩
    · rw [e1, e2]
    · exact absurd p2 (a1 b2 l2)
  · rcases h2 with ⟨-, a2⟩ | ⟨b2, e2, l2, p2, a2⟩
    · exact absurd p1 (a2 b1 l1)
    · have h3 := a1 b2 l2 p2
      have h4 := a2 b1 l1 p1
      omega
theorem siR_P {n sp : Nat} {T : Tb} : ∀ (k s : Nat) (b : Int), siP (fun s => lfF (dsF (s : Int) n T) sp = 0) s b → siP (fun s => lfF (dsF (s : Int) n T) sp = 0) (s + k) (siR n sp T k s b)
  | 0, s, b, h => h
  | k + 1, s, b, h => by
    have key : siP (fun s => lfF (dsF (s : Int) n T) sp = 0) (s + 1) (if (b < 0 ∨ bcF s < bcF b.toNat) ∧ lfF (dsF (s : Int) n T) sp = 0 then (s : Int) else b) := by
      by_cases hc : (b < 0 ∨ bcF s < bcF b.toNat) ∧ lfF (dsF (s : Int) n T) sp = 0
      · rw [if_pos hc]
        refine Or.inr ⟨s, rfl, by omega, hc.2, fun j hj hp => ?_⟩
        by_cases e : j = s
        · subst e; exact Or.inr ⟨rfl, Nat.le_refl _⟩
        · rcases h with ⟨-, a⟩ | ⟨b1, e1, l1, p1, a⟩
          · exact absurd hp (a j (by omega))
          · have h3 := a j (by omega) hp
            subst e1
            have h4 := hc.1
            rw [Int.toNat_natCast] at h4
            omega
      · rw [if_neg hc]
        rcases h with ⟨e1, a⟩ | ⟨b1, e1, l1, p1, a⟩
        · refine Or.inl ⟨e1, fun j hj hp => ?_⟩
          by_cases e : j = s
          · subst e; exact hc ⟨Or.inl (by omega), hp⟩
          · exact a j (by omega) hp
        · refine Or.inr ⟨b1, e1, by omega, p1, fun j hj hp => ?_⟩
          by_cases e : j = s
          · subst e
            by_cases h5 : bcF j < bcF b1
            · exact absurd ⟨Or.inr (by rw [e1, Int.toNat_natCast]; exact h5), hp⟩ hc
            · omega
          · exact a j (by omega) hp
    have := siR_P k (s + 1) _ key
    rw [show s + (k + 1) = s + 1 + k by omega]
    exact this
theorem siG_P {n sp sz : Nat} {T : Tb} : ∀ (k s : Nat), (siG n sp sz T k s = -1 ∧ ∀ j : Nat, s ≤ j → j < s + k → ¬ (bcF j = sz ∧ lfF (dsF (j : Int) n T) sp = 0)) ∨ ∃ b : Nat, siG n sp sz T k s = (b : Int) ∧ (s ≤ b ∧ b < s + k) ∧ bcF b = sz ∧ lfF (dsF (b : Int) n T) sp = 0 ∧ ∀ j : Nat, s ≤ j → j < b → ¬ (bcF j = sz ∧ lfF (dsF (j : Int) n T) sp = 0)
  | 0, s => Or.inl ⟨rfl, fun j h1 h2 => by omega⟩
  | k + 1, s => by
    rw [siG]
    by_cases hc : bcF s = sz ∧ lfF (dsF (s : Int) n T) sp = 0
    · rw [if_pos hc]
      exact Or.inr ⟨s, rfl, ⟨Nat.le_refl s, by omega⟩, hc.1, hc.2, fun j h1 h2 => by omega⟩
    · rw [if_neg hc]
      have st : ∀ j : Nat, s ≤ j → (s + 1 ≤ j → ¬ (bcF j = sz ∧ lfF (dsF (j : Int) n T) sp = 0)) → ¬ (bcF j = sz ∧ lfF (dsF (j : Int) n T) sp = 0) := by
        intro j h1 h2
        by_cases e : j = s
        · subst e; exact hc
        · exact h2 (by omega)
      rcases siG_P k (s + 1) with ⟨e1, a⟩ | ⟨b, e1, l1, p1, p2, a⟩
      · exact Or.inl ⟨e1, fun j h1 h2 => st j h1 (fun h3 => a j h3 (by omega))⟩
      · exact Or.inr ⟨b, e1, by omega, p1, p2, fun j h1 h2 => st j h1 (fun h3 => a j h3 h2)⟩
theorem siF_P {n sp m : Nat} {T : Tb} : ∀ (k t : Nat), (siF n sp m T k t = -1 ∧ ∀ j : Nat, j < m → t ≤ bcF j → bcF j < t + k → ¬ lfF (dsF (j : Int) n T) sp = 0) ∨ ∃ b : Nat, siF n sp m T k t = (b : Int) ∧ b < m ∧ lfF (dsF (b : Int) n T) sp = 0 ∧ ∀ j : Nat, j < m → t ≤ bcF j → lfF (dsF (j : Int) n T) sp = 0 → bcF b < bcF j ∨ (bcF b = bcF j ∧ b ≤ j)
  | 0, t => Or.inl ⟨rfl, fun j h1 h2 h3 => by omega⟩
  | k + 1, t => by
    rw [siF]
    rcases siG_P (n := n) (sp := sp) (sz := t) (T := T) m 0 with ⟨e1, a⟩ | ⟨b, e1, l1, p1, p2, a⟩
    · rw [e1, if_neg (by decide)]
      rcases siF_P (m := m) k (t + 1) with ⟨e2, a2⟩ | ⟨b, e2, l2, p2, a2⟩
      · refine Or.inl ⟨e2, fun j h1 h2 h3 h4 => ?_⟩
        by_cases e : bcF j = t
        · exact a j (by omega) (by omega) ⟨e, h4⟩
        · exact a2 j h1 (by omega) (by omega) h4
      · refine Or.inr ⟨b, e2, l2, p2, fun j h1 h2 h3 => ?_⟩
        by_cases e : bcF j = t
        · exact absurd ⟨e, h3⟩ (a j (by omega) (by omega))
        · exact a2 j h1 (by omega) h3
    · rw [e1, if_pos (by omega)]
      refine Or.inr ⟨b, rfl, by omega, p2, fun j h1 h2 h3 => ?_⟩
      by_cases e : bcF j = t
      · by_cases h4 : b ≤ j
        · omega
        · exact absurd ⟨e, h3⟩ (a j (by omega) (by omega))
      · omega
theorem bc_pow : ∀ N : Nat, N < 9 → ∀ s : Nat, s < 2 ^ N → bcF s ≤ N := by decide +kernel
theorem si_eq {n sp N : Nat} {T : Tb} (hN : N ≤ 8) : siF n sp (2 ^ N) T (N + 1) 0 = siR n sp T (2 ^ N) 0 (-1) := by
  have h1 : siP (fun s => lfF (dsF (s : Int) n T) sp = 0) (2 ^ N) (siF n sp (2 ^ N) T (N + 1) 0) := by
    rcases siF_P (n := n) (sp := sp) (m := 2 ^ N) (T := T) (N + 1) 0 with ⟨e1, a⟩ | ⟨b, e1, l1, p1, a⟩
    · exact Or.inl ⟨e1, fun s hs => a s hs (Nat.zero_le _) (by have := bc_pow N (by omega) s hs; omega)⟩
    · exact Or.inr ⟨b, e1, l1, p1, fun s hs hp => a s hs (Nat.zero_le _) hp⟩
  have h2 := siR_P (n := n) (sp := sp) (T := T) (2 ^ N) 0 (-1) (Or.inl ⟨rfl, fun s hs => by omega⟩)
  rw [Nat.zero_add] at h2
  exact siP_u h1 h2
theorem si_r {p n : Nat} {be r : Int} {F1 : Nat → Int} {T K : Tb} {ik : Int} {SB SS SN : Nat → Int} {tn : Int} {TB F : Nat → Int} (h : (0 ≤ ((p : Nat) : Int) ∧ ((p : Nat) : Int) < T 0) ∧ (0 ≤ ((n : Nat) : Int) ∧ ((n : Nat) : Int) ≤ 12)) (h8 : T 0 ≤ 8) (e : siR n p T (2 ^ (T 0).toNat) 0 (-1) = be) (hn : (r, F1) = noF be F) : (r, T, K, ik, SB, SS, SN, tn, TB, F1) = m_silence ((p : Nat) : Int) ((n : Nat) : Int) T K ik SB SS SN tn TB F := by
  unfold m_silence
  rw [if_pos h]
  simp only [Int.toNat_natCast]
  rw [si_eq (by omega), e]
  exact no_r hn
def cl1 (cv : Nat) : Nat := (andI (cv : Int) ((cv : Int) - 1)).toNat
theorem cl1_p : ∀ cv : Nat, cv < 257 → cv ≠ 0 → andI (cv : Int) ((cv : Int) - 1) = ((cl1 cv : Nat) : Int) ∧ cl1 cv < cv ∧ bcF (cl1 cv) + 1 = bcF cv := by decide +kernel
-- what can come to be
theorem GI_mono {B C : Int} {T K : Tb} {ik : Int} {SB SS SN : Nat → Int} {tn : Int} {TB F : Nat → Int} (h : GI B T K ik SB SS SN tn TB F) (hc : B ≤ C) : GI C T K ik SB SS SN tn TB F := by
  obtain ⟨h1, h2, h3, h4, h5, h6, h7, h8, h9⟩ := h
  exact ⟨Inv_mono h1 hc, h2.imp id (fun q => Inv_mono q hc), h3, h4, h5, h6, h7, h8, fun i hi => by have := h9 i hi; omega⟩
theorem GI_f {B : Int} {T K : Tb} {ik : Int} {SB SS SN : Nat → Int} {tn : Int} {TB F : Nat → Int} (h : GI B T K ik SB SS SN tn TB F) {k : Nat} (hk : k < 7) : GI (B + 61) T K ik SB SS SN tn TB (bmp k F) := by
  obtain ⟨h1, h2, h3, h4, h5, h6, h7, h8, h9⟩ := h
  refine ⟨Inv_mono h1 (by omega), h2.imp id (fun q => Inv_mono q (by omega)), h3, h4, h5, h6, h7, h8, fun i hi => ?_⟩
  have a := h9 i hi
  unfold bmp
  by_cases e : i = k
  · subst e; rw [up_s]; omega
  · rw [up_n _ _ e]; omega
theorem GI_fnd {B : Int} {T K : Tb} {ik : Int} {SB SS SN : Nat → Int} {tn : Int} {TB F : Nat → Int} (h : GI B T K ik SB SS SN tn TB F) {k : Nat} (hk : k < 7) : GIp (B + 61) (fnd k T K ik SB SS SN tn TB F) := GI_f h hk
theorem GI_same {B : Int} {T K : Tb} {ik : Int} {SB SS SN : Nat → Int} {tn : Int} {TB F : Nat → Int} (h : GI B T K ik SB SS SN tn TB F) (r : Int) : GIp (B + 61) (r, T, K, ik, SB, SS, SN, tn, TB, F) := GI_mono h (by omega)
theorem GI_T {B : Int} {T K : Tb} {ik : Int} {SB SS SN : Nat → Int} {tn : Int} {TB F : Nat → Int} (h : GI B T K ik SB SS SN tn TB F) (r : Int) {S : Tb} (hs : Inv (B + 61) S) : GIp (B + 61) (r, S, K, ik, SB, SS, SN, tn, TB, F) := by
  obtain ⟨h1, h2, h3, h4, h5, h6, h7, h8, h9⟩ := h
  exact ⟨hs, h2.imp id (fun q => Inv_mono q (by omega)), h3, h4, h5, h6, h7, h8, fun i hi => (show 0 ≤ F i ∧ F i ≤ B + 61 by have := h9 i hi; omega)⟩
theorem GI_fnI {B : Int} {T K : Tb} {ik : Int} {SB SS SN : Nat → Int} {tn : Int} {TB F : Nat → Int} (h : GI B T K ik SB SS SN tn TB F) {e : Int} (he : e = -1000001 ∨ e = -1000006) : GIp (B + 61) (fnI e T K ik SB SS SN tn TB F) := by
  rcases he with rfl | rfl
  · exact GI_f h (k := 0) (by omega)
  · exact GI_f h (k := 5) (by omega)
theorem pl0_at (n : Nat) : ∀ (k t : Nat) (S : Tb) (j : Nat), t + k ≤ 6 → run (fun (t : Nat) (S : Tb) => va_up S (cx n (4 + t)) 0) k t S j = if cx n (4 + t) ≤ j ∧ j < cx n (4 + t + k) then 0 else S j
  | 0, t, S, j, _ => by
    rw [run_0]
    unfold cx
    rw [if_neg (by omega)]
  | k + 1, t, S, j, h => by
    rw [run_s, pl0_at n k (t + 1) _ j (by omega)]
    unfold cx va_up
    by_cases h1 : 10 + 10 * n + (4 + t) ≤ j ∧ j < 10 + 10 * n + (4 + t + (k + 1))
    · rw [if_pos h1]
      by_cases h2 : j = 10 + 10 * n + (4 + t)
      · rw [if_neg (by omega), if_pos h2]
      · rw [if_pos (by omega)]
    · rw [if_neg h1, if_neg (by omega), if_neg (by omega)]
theorem st_I {B : Int} {T : Tb} {n : Nat} {kd : Int} (h : Inv B T) (hn : T 0 = (n : Int)) (hn8 : n < 8) (hk : 0 ≤ kd ∧ kd ≤ 6) : Inv B (stF kd n T) := by
  intro i hi
  rw [st_0]
  have hT := h i hi
  unfold stF
  rw [pl0_at n 6 0 _ i (by omega)]
  by_cases h1 : cx n (4 + 0) ≤ i ∧ i < cx n (4 + 0 + 6)
  · rw [if_pos h1]
    obtain ⟨w, hw, rfl⟩ : ∃ w : Nat, w < 6 ∧ i = cx n (4 + w) := ⟨i - cx n 4, by unfold cx at h1 ⊢; omega, by unfold cx at h1 ⊢; omega⟩
    exact (ckd_cx hn8 (by omega)).mpr (fun _ => pkd_pl (by omega))
  · rw [if_neg h1]
    by_cases e3 : i = cx n 3
    · subst e3; rw [up_s]; exact (ckd_cx hn8 (by omega)).mpr (fun _ => show (0 : Int) ≤ 0 ∧ (0 : Int) ≤ 99999 by omega)
    rw [up_n _ _ e3]
    by_cases e2 : i = cx n 2
    · subst e2; rw [up_s]; exact (ckd_cx hn8 (by omega)).mpr (fun _ => show (0 : Int) ≤ 50 ∧ (50 : Int) ≤ 99 by omega)
    rw [up_n _ _ e2]
    by_cases e1 : i = cx n 1
    · subst e1; rw [up_s]; exact (ckd_cx hn8 (by omega)).mpr (fun _ => show (-1 : Int) ≤ -1 ∧ (-1 : Int) < T 0 + 1 by omega)
    rw [up_n _ _ e1]
    by_cases e0 : i = cx n 0
    · subst e0; rw [up_s]; exact (ckd_cx hn8 (by omega)).mpr (fun _ => hk)
    rw [up_n _ _ e0]
    by_cases e : i = 0
    · subst e; rw [up_s]; show 0 ≤ T 0 + 1 ∧ T 0 + 1 ≤ 8; omega
    rw [up_n _ _ e]
    unfold ckd at hT ⊢
    rw [if_neg e] at hT ⊢
    by_cases i1 : i = 1
    · rw [if_pos i1] at hT ⊢; exact hT
    rw [if_neg i1] at hT ⊢
    by_cases i2 : i = 2
    · rw [if_pos i2] at hT ⊢; exact hT
    rw [if_neg i2] at hT ⊢
    by_cases i3 : i = 3
    · rw [if_pos i3] at hT ⊢; exact hT
    rw [if_neg i3] at hT ⊢
    by_cases i10 : i < 10
    · rw [if_pos i10] at hT ⊢; exact hT
    rw [if_neg i10] at hT ⊢
    by_cases i90 : i < 90
    · rw [if_pos i90] at hT ⊢
      intro hp
      unfold cx at h1 e0 e1 e2 e3
      have h2 := hT (by omega)
      unfold pkd at h2 ⊢
      by_cases w0 : (i - 10) % 10 = 0
      · rw [if_pos w0] at h2 ⊢; exact h2
      rw [if_neg w0] at h2 ⊢
      by_cases w1 : (i - 10) % 10 = 1
      · rw [if_pos w1] at h2 ⊢; omega
      rw [if_neg w1] at h2 ⊢
      exact h2
    · rw [if_neg i90] at hT ⊢; omega
theorem tl_I {B : Int} : ∀ (n t : Nat) {T : Tb} (_ : Inv B T), Inv (B + n) (run tlS n t T)
  | 0, _, T, h => by rw [run_0]; simpa using h
  | n + 1, t, T, h => by
    have hu1 := ushr8_b (drF T 2)
    have hu2 := ushr8_b (drF (drF T) 2)
    have h9 := Inv_li (t := (ushrI (drF T 2) 8 % 6).toNat) (v := ushrI (drF (drF T) 2) 8 % 21) (Inv_dr (Inv_dr h)) (by omega) (by omega)
    have h1 : Inv (B + 1) (tlS t T) := (dyF_I h9).1
    have h2 := tl_I n (t + 1) h1
    rw [run_s]
    exact (show Inv (B + ((n + 1 : Nat) : Int)) _ by rw [show B + ((n + 1 : Nat) : Int) = B + 1 + (n : Int) by omega]; exact h2)
theorem ld_I {B : Int} {SN : Nat → Int} {b : Nat} : ∀ (k i : Nat) {T : Tb} (_ : Inv B T) (_ : i + k ≤ 6), Inv B (ldF SN b k i T).2
  | 0, _, T, h, _ => h
  | k + 1, i, T, h, hi => by
    rw [ldF]
    by_cases hc : 0 ≤ SN (b + i) ∧ SN (b + i) ≤ 20
    · rw [if_pos hc]
      exact ld_I k (i + 1) (Inv_li h (by omega) hc) (by omega)
    · rw [if_neg hc]
      exact h
theorem fd_I {bs : Int} : ∀ (k c : Nat) (TB : Nat → Int), (∀ i : Nat, i < 120 → 0 ≤ TB i ∧ TB i ≤ 255) → ∀ i : Nat, i < 120 → 0 ≤ fdT bs k c TB i ∧ fdT bs k c TB i ≤ 255
  | 0, _, _, h => h
  | k + 1, c, TB, h => by
    rw [fdT]
    refine fd_I k (c + 1) _ (fun i hi => ?_)
    by_cases e : i = c
    · subst e; rw [up_s]; exact andB _
    · rw [up_n _ _ e]; exact h i hi
theorem ze_I {b : Nat} : ∀ (k i : Nat) (S : Nat → Int), (∀ i : Nat, i < 160 → rI (S i)) → ∀ j : Nat, j < 160 → rI (zeF b k i S j)
  | 0, _, _, h => h
  | k + 1, i, S, h => by
    rw [zeF]
    refine ze_I k (i + 1) _ (fun j hj => ?_)
    by_cases e : j = b + i
    · subst e; rw [up_s]; decide
    · rw [up_n _ _ e]; exact h j hj
theorem ct_r {v bt : Int} (h : rI v) : rI (ctF v bt) := by
  unfold ctF
  split
  · exact byteI_r v
  · split
    · exact shortI_r v
    · exact h

theorem gi_vinegar {B : Int} {T K : Tb} {ik : Int} {SB SS SN : Nat → Int} {tn : Int} {TB F : Nat → Int} {v : Int} (h : GI B T K ik SB SS SN tn TB F) (h_v : rI v) : GIp (B + 61) (m_vinegar v T K ik SB SS SN tn TB F) := by
  obtain ⟨hI, hIK, hik, hSB, hSS, hSN, htn, hTB, hF⟩ := id h
  have hn := Inv_n hI
  unfold m_vinegar
  split
  · exact GI_T h _ (Inv_mono (Inv_up hI (by omega) (by assumption)) (by omega))
  · exact GI_fnd h (by omega)
theorem gi_list {B : Int} {T K : Tb} {ik : Int} {SB SS SN : Nat → Int} {tn : Int} {TB F : Nat → Int} {t v : Int} (h : GI B T K ik SB SS SN tn TB F) (h_t : rI t) (h_v : rI v) : GIp (B + 61) (m_list t v T K ik SB SS SN tn TB F) := by
  obtain ⟨hI, hIK, hik, hSB, hSS, hSN, htn, hTB, hF⟩ := id h
  have hn := Inv_n hI
  unfold m_list
  split
  · rename_i hc; exact GI_T h _ (Inv_mono (Inv_li hI (by omega) hc.2) (by omega))
  · exact GI_fnd h (by omega)
theorem gi_listed {B : Int} {T K : Tb} {ik : Int} {SB SS SN : Nat → Int} {tn : Int} {TB F : Nat → Int} {t : Int} (h : GI B T K ik SB SS SN tn TB F) (h_t : rI t) : GIp (B + 61) (m_listed t T K ik SB SS SN tn TB F) := by
  obtain ⟨hI, hIK, hik, hSB, hSS, hSN, htn, hTB, hF⟩ := id h
  have hn := Inv_n hI
  unfold m_listed
  split
  · exact GI_same h _
  · exact GI_fnd h (by omega)
theorem gi_speaker {B : Int} {T K : Tb} {ik : Int} {SB SS SN : Nat → Int} {tn : Int} {TB F : Nat → Int} {kd : Int} (h : GI B T K ik SB SS SN tn TB F) (h_kd : rI kd) : GIp (B + 61) (m_speaker kd T K ik SB SS SN tn TB F) := by
  obtain ⟨hI, hIK, hik, hSB, hSS, hSN, htn, hTB, hF⟩ := id h
  have hn := Inv_n hI
  unfold m_speaker
  split
  · exact GI_fnd h (by omega)
  · split
    · exact GI_fnd h (by omega)
    · exact GI_T h _ (Inv_mono (st_I hI (by omega) (by omega) (by omega)) (by omega))
theorem gi_of {B : Int} {T K : Tb} {ik : Int} {SB SS SN : Nat → Int} {tn : Int} {TB F : Nat → Int} {sp wh : Int} (h : GI B T K ik SB SS SN tn TB F) (h_sp : rI sp) (h_wh : rI wh) : GIp (B + 61) (m_of sp wh T K ik SB SS SN tn TB F) := by
  obtain ⟨hI, hIK, hik, hSB, hSS, hSN, htn, hTB, hF⟩ := id h
  have hn := Inv_n hI
  unfold m_of
  split
  · exact GI_same h _
  · exact GI_fnd h (by omega)
theorem gi_change {B : Int} {T K : Tb} {ik : Int} {SB SS SN : Nat → Int} {tn : Int} {TB F : Nat → Int} {sp wh v : Int} (h : GI B T K ik SB SS SN tn TB F) (h_sp : rI sp) (h_wh : rI wh) (h_v : rI v) : GIp (B + 61) (m_change sp wh v T K ik SB SS SN tn TB F) := by
  obtain ⟨hI, hIK, hik, hSB, hSS, hSN, htn, hTB, hF⟩ := id h
  have hn := Inv_n hI
  unfold m_change
  split
  · rename_i hc
    have hm := (mayB_i _ _ _ _).mp hc.2
    refine GI_T h _ (Inv_mono (Inv_cx hI (by omega) (by omega) (fun _ => ?_)) (by omega))
    rcases hm with ⟨rfl, h1⟩ | ⟨rfl, h1⟩ | ⟨rfl, h1⟩ | ⟨rfl, h1⟩
    · exact h1
    · show -1 ≤ v ∧ v < T 0
      omega
    · exact h1
    · exact h1
  · exact GI_fnd h (by omega)
theorem gi_serve {B : Int} {T K : Tb} {ik : Int} {SB SS SN : Nat → Int} {tn : Int} {TB F : Nat → Int} {sp t v : Int} (h : GI B T K ik SB SS SN tn TB F) (h_sp : rI sp) (h_t : rI t) (h_v : rI v) : GIp (B + 61) (m_serve sp t v T K ik SB SS SN tn TB F) := by
  obtain ⟨hI, hIK, hik, hSB, hSS, hSN, htn, hTB, hF⟩ := id h
  have hn := Inv_n hI
  unfold m_serve
  split
  · rename_i hc; exact GI_T h _ (Inv_mono (Inv_cx hI (by omega) (by omega) (fun _ => pkd_pl hc.2.2)) (by omega))
  · exact GI_fnd h (by omega)
theorem gi_plate {B : Int} {T K : Tb} {ik : Int} {SB SS SN : Nat → Int} {tn : Int} {TB F : Nat → Int} {sp t : Int} (h : GI B T K ik SB SS SN tn TB F) (h_sp : rI sp) (h_t : rI t) : GIp (B + 61) (m_plate sp t T K ik SB SS SN tn TB F) := by
  obtain ⟨hI, hIK, hik, hSB, hSS, hSN, htn, hTB, hF⟩ := id h
  have hn := Inv_n hI
  unfold m_plate
  split
  · exact GI_same h _
  · exact GI_fnd h (by omega)
theorem gi_chews {B : Int} {T K : Tb} {ik : Int} {SB SS SN : Nat → Int} {tn : Int} {TB F : Nat → Int} {sp t : Int} (h : GI B T K ik SB SS SN tn TB F) (h_sp : rI sp) (h_t : rI t) : GIp (B + 61) (m_chews sp t T K ik SB SS SN tn TB F) := by
  obtain ⟨hI, hIK, hik, hSB, hSS, hSN, htn, hTB, hF⟩ := id h
  have hn := Inv_n hI
  unfold m_chews
  split
  · exact GI_same h _
  · exact GI_fnd h (by omega)
theorem gi_talks {B : Int} {T K : Tb} {ik : Int} {SB SS SN : Nat → Int} {tn : Int} {TB F : Nat → Int} {sp t : Int} (h : GI B T K ik SB SS SN tn TB F) (h_sp : rI sp) (h_t : rI t) : GIp (B + 61) (m_talks sp t T K ik SB SS SN tn TB F) := by
  obtain ⟨hI, hIK, hik, hSB, hSS, hSN, htn, hTB, hF⟩ := id h
  have hn := Inv_n hI
  unfold m_talks
  split
  · exact GI_same h _
  · exact GI_fnd h (by omega)
theorem gi_go {B : Int} {T K : Tb} {ik : Int} {SB SS SN : Nat → Int} {tn : Int} {TB F : Nat → Int} {n : Int} (h : GI B T K ik SB SS SN tn TB F) (h_n : rI n) : GIp (B + 61) (m_go n T K ik SB SS SN tn TB F) := by
  obtain ⟨hI, hIK, hik, hSB, hSS, hSN, htn, hTB, hF⟩ := id h
  have hn := Inv_n hI
  unfold m_go
  split
  · exact GI_T h _ (Inv_mono (dsF_I n.toNat hI).1 (by omega))
  · exact GI_fnd h (by omega)
theorem gi_now {B : Int} {T K : Tb} {ik : Int} {SB SS SN : Nat → Int} {tn : Int} {TB F : Nat → Int} {wh : Int} (h : GI B T K ik SB SS SN tn TB F) (h_wh : rI wh) : GIp (B + 61) (m_now wh T K ik SB SS SN tn TB F) := by
  obtain ⟨hI, hIK, hik, hSB, hSS, hSN, htn, hTB, hF⟩ := id h
  have hn := Inv_n hI
  unfold m_now
  split
  · exact GI_same h _
  · exact GI_fnd h (by omega)
theorem gi_ahead {B : Int} {T K : Tb} {ik : Int} {SB SS SN : Nat → Int} {tn : Int} {TB F : Nat → Int} {sp wh n : Int} (h : GI B T K ik SB SS SN tn TB F) (h_sp : rI sp) (h_wh : rI wh) (h_n : rI n) : GIp (B + 61) (m_ahead sp wh n T K ik SB SS SN tn TB F) := by
  obtain ⟨hI, hIK, hik, hSB, hSS, hSN, htn, hTB, hF⟩ := id h
  have hn := Inv_n hI
  unfold m_ahead
  split
  · exact GI_same h _
  · exact GI_fnd h (by omega)
theorem gi_served {B : Int} {T K : Tb} {ik : Int} {SB SS SN : Nat → Int} {tn : Int} {TB F : Nat → Int} {sp t n : Int} (h : GI B T K ik SB SS SN tn TB F) (h_sp : rI sp) (h_t : rI t) (h_n : rI n) : GIp (B + 61) (m_served sp t n T K ik SB SS SN tn TB F) := by
  obtain ⟨hI, hIK, hik, hSB, hSS, hSN, htn, hTB, hF⟩ := id h
  have hn := Inv_n hI
  unfold m_served
  split
  · exact GI_same h _
  · exact GI_fnd h (by omega)
theorem gi_clean {B : Int} {T K : Tb} {ik : Int} {SB SS SN : Nat → Int} {tn : Int} {TB F : Nat → Int} {sp : Int} (h : GI B T K ik SB SS SN tn TB F) (h_sp : rI sp) : GIp (B + 61) (m_clean sp T K ik SB SS SN tn TB F) := by
  obtain ⟨hI, hIK, hik, hSB, hSS, hSN, htn, hTB, hF⟩ := id h
  have hn := Inv_n hI
  unfold m_clean
  split
  · unfold fdR
    split
    · exact GI_same h _
    · exact GI_fnd h (by omega)
  · exact GI_fnd h (by omega)
theorem gi_when {B : Int} {T K : Tb} {ik : Int} {SB SS SN : Nat → Int} {tn : Int} {TB F : Nat → Int} {sp v : Int} (h : GI B T K ik SB SS SN tn TB F) (h_sp : rI sp) (h_v : rI v) : GIp (B + 61) (m_when sp v T K ik SB SS SN tn TB F) := by
  obtain ⟨hI, hIK, hik, hSB, hSS, hSN, htn, hTB, hF⟩ := id h
  have hn := Inv_n hI
  unfold m_when
  split
  · unfold fdR
    split
    · exact GI_same h _
    · exact GI_fnd h (by omega)
  · exact GI_fnd h (by omega)
theorem gi_thin {B : Int} {T K : Tb} {ik : Int} {SB SS SN : Nat → Int} {tn : Int} {TB F : Nat → Int} {sp : Int} (h : GI B T K ik SB SS SN tn TB F) (h_sp : rI sp) : GIp (B + 61) (m_thin sp T K ik SB SS SN tn TB F) := by
  obtain ⟨hI, hIK, hik, hSB, hSS, hSN, htn, hTB, hF⟩ := id h
  have hn := Inv_n hI
  unfold m_thin
  split
  · unfold fdR
    split
    · exact GI_same h _
    · exact GI_fnd h (by omega)
  · exact GI_fnd h (by omega)
theorem gi_love {B : Int} {T K : Tb} {ik : Int} {SB SS SN : Nat → Int} {tn : Int} {TB F : Nat → Int} {sp n : Int} (h : GI B T K ik SB SS SN tn TB F) (h_sp : rI sp) (h_n : rI n) : GIp (B + 61) (m_love sp n T K ik SB SS SN tn TB F) := by
  obtain ⟨hI, hIK, hik, hSB, hSS, hSN, htn, hTB, hF⟩ := id h
  have hn := Inv_n hI
  unfold m_love
  split
  · exact GI_same h _
  · exact GI_fnd h (by omega)
theorem gi_kindFor {B : Int} {T K : Tb} {ik : Int} {SB SS SN : Nat → Int} {tn : Int} {TB F : Nat → Int} {sp n : Int} (h : GI B T K ik SB SS SN tn TB F) (h_sp : rI sp) (h_n : rI n) : GIp (B + 61) (m_kindFor sp n T K ik SB SS SN tn TB F) := by
  obtain ⟨hI, hIK, hik, hSB, hSS, hSN, htn, hTB, hF⟩ := id h
  have hn := Inv_n hI
  unfold m_kindFor
  split
  · exact GI_same h _
  · exact GI_fnd h (by omega)
theorem gi_vinegarFor {B : Int} {T K : Tb} {ik : Int} {SB SS SN : Nat → Int} {tn : Int} {TB F : Nat → Int} {sp n : Int} (h : GI B T K ik SB SS SN tn TB F) (h_sp : rI sp) (h_n : rI n) : GIp (B + 61) (m_vinegarFor sp n T K ik SB SS SN tn TB F) := by
  obtain ⟨hI, hIK, hik, hSB, hSS, hSN, htn, hTB, hF⟩ := id h
  have hn := Inv_n hI
  unfold m_vinegarFor
  split
  · split
    · exact GI_same h _
    · exact GI_fnd h (by omega)
  · exact GI_fnd h (by omega)
theorem gi_unsay {B : Int} {T K : Tb} {ik : Int} {SB SS SN : Nat → Int} {tn : Int} {TB F : Nat → Int} {n : Int} (h : GI B T K ik SB SS SN tn TB F) (h_n : rI n) : GIp (B + 61) (m_unsay n T K ik SB SS SN tn TB F) := by
  obtain ⟨hI, hIK, hik, hSB, hSS, hSN, htn, hTB, hF⟩ := id h
  have hn := Inv_n hI
  unfold m_unsay
  split
  · exact GI_same h _
  · exact GI_fnd h (by omega)
theorem gi_silence {B : Int} {T K : Tb} {ik : Int} {SB SS SN : Nat → Int} {tn : Int} {TB F : Nat → Int} {sp n : Int} (h : GI B T K ik SB SS SN tn TB F) (h_sp : rI sp) (h_n : rI n) : GIp (B + 61) (m_silence sp n T K ik SB SS SN tn TB F) := by
  obtain ⟨hI, hIK, hik, hSB, hSS, hSN, htn, hTB, hF⟩ := id h
  have hn := Inv_n hI
  unfold m_silence
  split
  · split
    · exact GI_same h _
    · exact GI_fnd h (by omega)
  · exact GI_fnd h (by omega)
theorem gi_swapFor {B : Int} {T K : Tb} {ik : Int} {SB SS SN : Nat → Int} {tn : Int} {TB F : Nat → Int} {n : Int} (h : GI B T K ik SB SS SN tn TB F) (h_n : rI n) : GIp (B + 61) (m_swapFor n T K ik SB SS SN tn TB F) := by
  obtain ⟨hI, hIK, hik, hSB, hSS, hSN, htn, hTB, hF⟩ := id h
  have hn := Inv_n hI
  unfold m_swapFor
  split
  · exact GI_fnd h (by omega)
  · split
    · exact GI_fnd h (by omega)
    · exact GI_same h _
theorem gi_fits {B : Int} {T K : Tb} {ik : Int} {SB SS SN : Nat → Int} {tn : Int} {TB F : Nat → Int} {s sp : Int} (h : GI B T K ik SB SS SN tn TB F) (h_s : rI s) (h_sp : rI sp) : GIp (B + 61) (m_fits s sp T K ik SB SS SN tn TB F) := by
  obtain ⟨hI, hIK, hik, hSB, hSS, hSN, htn, hTB, hF⟩ := id h
  have hn := Inv_n hI
  unfold m_fits
  split
  · exact GI_fnI h (by have := wtF_c SB (T 0) s sp; omega)
  · exact GI_same h _
theorem gi_kinds {B : Int} {T K : Tb} {ik : Int} {SB SS SN : Nat → Int} {tn : Int} {TB F : Nat → Int} {s sp : Int} (h : GI B T K ik SB SS SN tn TB F) (h_s : rI s) (h_sp : rI sp) : GIp (B + 61) (m_kinds s sp T K ik SB SS SN tn TB F) := by
  obtain ⟨hI, hIK, hik, hSB, hSS, hSN, htn, hTB, hF⟩ := id h
  have hn := Inv_n hI
  unfold m_kinds
  split
  · exact GI_fnI h (by have := wtF_c SB (T 0) s sp; omega)
  · exact GI_same h _
theorem gi_talk {B : Int} {T K : Tb} {ik : Int} {SB SS SN : Nat → Int} {tn : Int} {TB F : Nat → Int} {n : Int} (h : GI B T K ik SB SS SN tn TB F) (h_n : rI n) : GIp (B + 61) (m_talk n T K ik SB SS SN tn TB F) := by
  obtain ⟨hI, hIK, hik, hSB, hSS, hSN, htn, hTB, hF⟩ := id h
  have hn := Inv_n hI
  unfold m_talk
  split
  · exact GI_T h _ (Inv_mono (tl_I n.toNat 0 hI) (by omega))
  · exact GI_fnd h (by omega)
theorem gi_odds {B : Int} {T K : Tb} {ik : Int} {SB SS SN : Nat → Int} {tn : Int} {TB F : Nat → Int} {sp n wh : Int} (h : GI B T K ik SB SS SN tn TB F) (h_sp : rI sp) (h_n : rI n) (h_wh : rI wh) : GIp (B + 61) (m_odds sp n wh T K ik SB SS SN tn TB F) := by
  obtain ⟨hI, hIK, hik, hSB, hSS, hSN, htn, hTB, hF⟩ := id h
  have hn := Inv_n hI
  unfold m_odds
  split
  · exact GI_same h _
  · exact GI_fnd h (by omega)
theorem gi_seed {B : Int} {T K : Tb} {ik : Int} {SB SS SN : Nat → Int} {tn : Int} {TB F : Nat → Int} {v : Int} (h : GI B T K ik SB SS SN tn TB F) (h_v : rI v) : GIp (B + 61) (m_seed v T K ik SB SS SN tn TB F) := by
  obtain ⟨hI, hIK, hik, hSB, hSS, hSN, htn, hTB, hF⟩ := id h
  have hn := Inv_n hI
  exact GI_T h _ (Inv_mono (Inv_up hI (by omega) trivial) (by omega))
theorem gi_feed {B : Int} {T K : Tb} {ik : Int} {SB SS SN : Nat → Int} {tn : Int} {TB F : Nat → Int} {bs n : Int} (h : GI B T K ik SB SS SN tn TB F) (h_bs : rI bs) (h_n : rI n) : GIp (B + 61) (m_feed bs n T K ik SB SS SN tn TB F) := by
  obtain ⟨hI, hIK, hik, hSB, hSS, hSN, htn, hTB, hF⟩ := id h
  have hn := Inv_n hI
  unfold m_feed
  split
  · exact GI_fnd h (by omega)
  · split
    · exact GI_fnd h (by omega)
    · exact ⟨Inv_mono hI (by omega), hIK.imp id (fun q => Inv_mono q (by omega)), hik, hSB, hSS, hSN, (show 0 ≤ tn + n ∧ tn + n ≤ 120 by omega), fd_I _ _ _ hTB, fun i hi => (show 0 ≤ F i ∧ F i ≤ B + 61 by have := hF i hi; omega)⟩
theorem gi_wipe {B : Int} {T K : Tb} {ik : Int} {SB SS SN : Nat → Int} {tn : Int} {TB F : Nat → Int}  (h : GI B T K ik SB SS SN tn TB F)  : GIp (B + 61) (m_wipe  T K ik SB SS SN tn TB F) := by
  obtain ⟨hI, hIK, hik, hSB, hSS, hSN, htn, hTB, hF⟩ := id h
  have hn := Inv_n hI
  exact ⟨Inv_mono hI (by omega), hIK.imp id (fun q => Inv_mono q (by omega)), hik, hSB, hSS, hSN, (show (0 : Int) ≤ 0 ∧ (0 : Int) ≤ 120 by omega), hTB, fun i hi => (show 0 ≤ F i ∧ F i ≤ B + 61 by have := hF i hi; omega)⟩
theorem gi_hold {B : Int} {T K : Tb} {ik : Int} {SB SS SN : Nat → Int} {tn : Int} {TB F : Nat → Int} {k sp : Int} (h : GI B T K ik SB SS SN tn TB F) (h_k : rI k) (h_sp : rI sp) : GIp (B + 61) (m_hold k sp T K ik SB SS SN tn TB F) := by
  obtain ⟨hI, hIK, hik, hSB, hSS, hSN, htn, hTB, hF⟩ := id h
  have hn := Inv_n hI
  unfold m_hold
  split
  · rename_i hc
    refine GI_T h _ (Inv_mono (Inv_up hI (by omega) ?_) (by omega))
    unfold ckd
    rw [if_neg (by omega), if_neg (by omega), if_neg (by omega), if_neg (by omega), if_neg (by omega), if_neg (by omega)]
    omega
  · exact GI_fnd h (by omega)
theorem gi_as {B : Int} {T K : Tb} {ik : Int} {SB SS SN : Nat → Int} {tn : Int} {TB F : Nat → Int} {k kd : Int} (h : GI B T K ik SB SS SN tn TB F) (h_k : rI k) (h_kd : rI kd) : GIp (B + 61) (m_as k kd T K ik SB SS SN tn TB F) := by
  obtain ⟨hI, hIK, hik, hSB, hSS, hSN, htn, hTB, hF⟩ := id h
  have hn := Inv_n hI
  unfold m_as
  split
  · exact GI_fnd h (by omega)
  · split
    · exact GI_fnd h (by omega)
    · split
      · exact GI_same h _
      · exact GI_fnd h (by omega)
theorem gi_sheet {B : Int} {T K : Tb} {ik : Int} {SB SS SN : Nat → Int} {tn : Int} {TB F : Nat → Int} {s bt n : Int} (h : GI B T K ik SB SS SN tn TB F) (h_s : rI s) (h_bt : rI bt) (h_n : rI n) : GIp (B + 61) (m_sheet s bt n T K ik SB SS SN tn TB F) := by
  obtain ⟨hI, hIK, hik, hSB, hSS, hSN, htn, hTB, hF⟩ := id h
  have hn := Inv_n hI
  unfold m_sheet
  split
  · exact GI_fnd h (by omega)
  · split
    · exact GI_fnd h (by omega)
    · split
      · exact GI_fnd h (by omega)
      · refine ⟨Inv_mono hI (by omega), hIK.imp id (fun q => Inv_mono q (by omega)), hik, fun i hi => ?_, fun i hi => ?_, ze_I _ _ _ hSN, htn, hTB, fun i hi => (show 0 ≤ F i ∧ F i ≤ B + 61 by have := hF i hi; omega)⟩
        · by_cases e : i = s.toNat
          · subst e
            show va_up SB s.toNat bt s.toNat = 0 ∨ va_up SB s.toNat bt s.toNat = 8 ∨ va_up SB s.toNat bt s.toNat = 16 ∨ va_up SB s.toNat bt s.toNat = 32
            rw [up_s]; omega
          · show va_up SB s.toNat bt i = 0 ∨ va_up SB s.toNat bt i = 8 ∨ va_up SB s.toNat bt i = 16 ∨ va_up SB s.toNat bt i = 32
            rw [up_n _ _ e]; exact hSB i hi
        · by_cases e : i = s.toNat
          · subst e
            show 0 ≤ va_up SS s.toNat (if bt = 0 then 0 else n) s.toNat ∧ va_up SS s.toNat (if bt = 0 then 0 else n) s.toNat ≤ 40
            rw [up_s]; split <;> omega
          · show 0 ≤ va_up SS s.toNat (if bt = 0 then 0 else n) i ∧ va_up SS s.toNat (if bt = 0 then 0 else n) i ≤ 40
            rw [up_n _ _ e]; exact hSS i hi
theorem gi_write {B : Int} {T K : Tb} {ik : Int} {SB SS SN : Nat → Int} {tn : Int} {TB F : Nat → Int} {s i v : Int} (h : GI B T K ik SB SS SN tn TB F) (h_s : rI s) (h_i : rI i) (h_v : rI v) : GIp (B + 61) (m_write s i v T K ik SB SS SN tn TB F) := by
  obtain ⟨hI, hIK, hik, hSB, hSS, hSN, htn, hTB, hF⟩ := id h
  have hn := Inv_n hI
  unfold m_write
  split
  · exact GI_fnI h (by have := waF_c SB s; omega)
  · split
    · refine ⟨Inv_mono hI (by omega), hIK.imp id (fun q => Inv_mono q (by omega)), hik, hSB, hSS, fun j hj => ?_, htn, hTB, fun i hi => (show 0 ≤ F i ∧ F i ≤ B + 61 by have := hF i hi; omega)⟩
      by_cases e : j = 40 * s.toNat + i.toNat
      · subst e
        show rI (va_up SN _ _ _)
        rw [up_s]; exact ct_r h_v
      · show rI (va_up SN _ _ _)
        rw [up_n _ _ e]; exact hSN j hj
    · exact GI_fnd h (by omega)
theorem gi_copy {B : Int} {T K : Tb} {ik : Int} {SB SS SN : Nat → Int} {tn : Int} {TB F : Nat → Int} {s a t c n : Int} (h : GI B T K ik SB SS SN tn TB F) (h_s : rI s) (h_a : rI a) (h_t : rI t) (h_c : rI c) (h_n : rI n) : GIp (B + 61) (m_copy s a t c n T K ik SB SS SN tn TB F) := by
  obtain ⟨hI, hIK, hik, hSB, hSS, hSN, htn, hTB, hF⟩ := id h
  have hn := Inv_n hI
  unfold m_copy
  split
  · exact GI_fnd h (by omega)
  · split
    · exact GI_fnd h (by omega)
    · split
      · exact GI_fnd h (by omega)
      · split
        · rename_i c1 c2 c3 c4
          refine ⟨Inv_mono hI (by omega), hIK.imp id (fun q => Inv_mono q (by omega)), hik, hSB, hSS, fun j hj => ?_, htn, hTB, fun i hi => (show 0 ≤ F i ∧ F i ≤ B + 61 by have := hF i hi; omega)⟩
          have z1 := hSS s.toNat (by omega)
          show rI (va_cpy SN SN _ _ _ j)
          unfold va_cpy
          split
          · exact hSN _ (by omega)
          · exact hSN j hj
        · exact GI_fnd h (by omega)
theorem gi_load {B : Int} {T K : Tb} {ik : Int} {SB SS SN : Nat → Int} {tn : Int} {TB F : Nat → Int} {s : Int} (h : GI B T K ik SB SS SN tn TB F) (h_s : rI s) : GIp (B + 61) (m_load s T K ik SB SS SN tn TB F) := by
  obtain ⟨hI, hIK, hik, hSB, hSS, hSN, htn, hTB, hF⟩ := id h
  have hn := Inv_n hI
  unfold m_load
  split
  · exact GI_fnI h (by have := waF_c SB s; omega)
  · rename_i hc
    have z0 := waF_0 (show waF SB s = 0 by omega)
    have z1 := hSS s.toNat (by omega)
    exact GI_T h _ (Inv_mono (ld_I _ _ hI (by omega)) (by omega))
theorem gi_judge {B : Int} {T K : Tb} {ik : Int} {SB SS SN : Nat → Int} {tn : Int} {TB F : Nat → Int} {s : Int} (h : GI B T K ik SB SS SN tn TB F) (h_s : rI s) : GIp (B + 61) (m_judge s T K ik SB SS SN tn TB F) := by
  obtain ⟨hI, hIK, hik, hSB, hSS, hSN, htn, hTB, hF⟩ := id h
  have hn := Inv_n hI
  unfold m_judge
  split
  · exact GI_fnI h (by have := waF_c SB s; omega)
  · exact GI_same h _
theorem gi_image {B : Int} {T K : Tb} {ik : Int} {SB SS SN : Nat → Int} {tn : Int} {TB F : Nat → Int}  (h : GI B T K ik SB SS SN tn TB F)  : GIp (B + 61) (m_image  T K ik SB SS SN tn TB F) := by
  obtain ⟨hI, hIK, hik, hSB, hSS, hSN, htn, hTB, hF⟩ := id h
  have hn := Inv_n hI
  exact ⟨Inv_mono hI (by omega), Or.inr (Inv_mono hI (by omega)), Or.inr rfl, hSB, hSS, hSN, htn, hTB, fun i hi => (show 0 ≤ F i ∧ F i ≤ B + 61 by have := hF i hi; omega)⟩
theorem gi_undo {B : Int} {T K : Tb} {ik : Int} {SB SS SN : Nat → Int} {tn : Int} {TB F : Nat → Int}  (h : GI B T K ik SB SS SN tn TB F)  : GIp (B + 61) (m_undo  T K ik SB SS SN tn TB F) := by
  obtain ⟨hI, hIK, hik, hSB, hSS, hSN, htn, hTB, hF⟩ := id h
  have hn := Inv_n hI
  unfold m_undo
  split
  · exact GI_fnd h (by omega)
  · exact GI_T h _ (Inv_mono (hIK.resolve_left (by assumption)) (by omega))
theorem gi_tear {B : Int} {T K : Tb} {ik : Int} {SB SS SN : Nat → Int} {tn : Int} {TB F : Nat → Int}  (h : GI B T K ik SB SS SN tn TB F)  : GIp (B + 61) (m_tear  T K ik SB SS SN tn TB F) := by
  obtain ⟨hI, hIK, hik, hSB, hSS, hSN, htn, hTB, hF⟩ := id h
  have hn := Inv_n hI
  exact ⟨Inv_mono hI (by omega), Or.inl rfl, Or.inl rfl, hSB, hSS, hSN, htn, hTB, fun i hi => (show 0 ≤ F i ∧ F i ≤ B + 61 by have := hF i hi; omega)⟩
theorem gi_count {B : Int} {T K : Tb} {ik : Int} {SB SS SN : Nat → Int} {tn : Int} {TB F : Nat → Int} {wh : Int} (h : GI B T K ik SB SS SN tn TB F) (h_wh : rI wh) : GIp (B + 61) (m_count wh T K ik SB SS SN tn TB F) := by
  obtain ⟨hI, hIK, hik, hSB, hSS, hSN, htn, hTB, hF⟩ := id h
  have hn := Inv_n hI
  unfold m_count
  split
  · exact GI_same h _
  · exact GI_fnd h (by omega)
theorem gi_status {B : Int} {T K : Tb} {ik : Int} {SB SS SN : Nat → Int} {tn : Int} {TB F : Nat → Int} {wh : Int} (h : GI B T K ik SB SS SN tn TB F) (h_wh : rI wh) : GIp (B + 61) (m_status wh T K ik SB SS SN tn TB F) := by
  obtain ⟨hI, hIK, hik, hSB, hSS, hSN, htn, hTB, hF⟩ := id h
  have hn := Inv_n hI
  unfold m_status
  split
  · exact GI_same h _
  · exact GI_fnd h (by omega)
-- the image that is not kept doesn't count
def eqK (z y : Int × Gs) : Prop := z.1 = y.1 ∧ z.2.1 = y.2.1 ∧ z.2.2.2 = y.2.2.2 ∧ (z.2.2.2.1 = 0 ∨ z.2.2.1 = y.2.2.1)
theorem eqK_r (z : Int × Gs) : eqK z z := ⟨rfl, rfl, rfl, Or.inr rfl⟩
theorem ek_vinegar (v : Int) (T K K2 : Tb) (ik : Int) (SB SS SN : Nat → Int) (tn : Int) (TB F : Nat → Int) (h : ik = 0 ∨ K = K2) : eqK (m_vinegar v T K ik SB SS SN tn TB F) (m_vinegar v T K2 ik SB SS SN tn TB F) := by
  rcases h with rfl | rfl
  · unfold m_vinegar
    (try unfold fdR)
    (repeat' split) <;> first | exact ⟨rfl, rfl, rfl, Or.inl rfl⟩ | exact ⟨rfl, rfl, rfl, Or.inr rfl⟩ | (exfalso; omega)
  · exact eqK_r _
theorem ek_list (t v : Int) (T K K2 : Tb) (ik : Int) (SB SS SN : Nat → Int) (tn : Int) (TB F : Nat → Int) (h : ik = 0 ∨ K = K2) : eqK (m_list t v T K ik SB SS SN tn TB F) (m_list t v T K2 ik SB SS SN tn TB F) := by
  rcases h with rfl | rfl
  · unfold m_list
    (try unfold fdR)
    (repeat' split) <;> first | exact ⟨rfl, rfl, rfl, Or.inl rfl⟩ | exact ⟨rfl, rfl, rfl, Or.inr rfl⟩ | (exfalso; omega)
  · exact eqK_r _
theorem ek_listed (t : Int) (T K K2 : Tb) (ik : Int) (SB SS SN : Nat → Int) (tn : Int) (TB F : Nat → Int) (h : ik = 0 ∨ K = K2) : eqK (m_listed t T K ik SB SS SN tn TB F) (m_listed t T K2 ik SB SS SN tn TB F) := by
  rcases h with rfl | rfl
  · unfold m_listed
    (try unfold fdR)
    (repeat' split) <;> first | exact ⟨rfl, rfl, rfl, Or.inl rfl⟩ | exact ⟨rfl, rfl, rfl, Or.inr rfl⟩ | (exfalso; omega)
  · exact eqK_r _
theorem ek_speaker (kd : Int) (T K K2 : Tb) (ik : Int) (SB SS SN : Nat → Int) (tn : Int) (TB F : Nat → Int) (h : ik = 0 ∨ K = K2) : eqK (m_speaker kd T K ik SB SS SN tn TB F) (m_speaker kd T K2 ik SB SS SN tn TB F) := by
  rcases h with rfl | rfl
  · unfold m_speaker
    (try unfold fdR)
    (repeat' split) <;> first | exact ⟨rfl, rfl, rfl, Or.inl rfl⟩ | exact ⟨rfl, rfl, rfl, Or.inr rfl⟩ | (exfalso; omega)
  · exact eqK_r _
theorem ek_of (sp wh : Int) (T K K2 : Tb) (ik : Int) (SB SS SN : Nat → Int) (tn : Int) (TB F : Nat → Int) (h : ik = 0 ∨ K = K2) : eqK (m_of sp wh T K ik SB SS SN tn TB F) (m_of sp wh T K2 ik SB SS SN tn TB F) := by
  rcases h with rfl | rfl
  · unfold m_of
    (try unfold fdR)
    (repeat' split) <;> first | exact ⟨rfl, rfl, rfl, Or.inl rfl⟩ | exact ⟨rfl, rfl, rfl, Or.inr rfl⟩ | (exfalso; omega)
  · exact eqK_r _
theorem ek_change (sp wh v : Int) (T K K2 : Tb) (ik : Int) (SB SS SN : Nat → Int) (tn : Int) (TB F : Nat → Int) (h : ik = 0 ∨ K = K2) : eqK (m_change sp wh v T K ik SB SS SN tn TB F) (m_change sp wh v T K2 ik SB SS SN tn TB F) := by
  rcases h with rfl | rfl
  · unfold m_change
    (try unfold fdR)
    (repeat' split) <;> first | exact ⟨rfl, rfl, rfl, Or.inl rfl⟩ | exact ⟨rfl, rfl, rfl, Or.inr rfl⟩ | (exfalso; omega)
  · exact eqK_r _
theorem ek_serve (sp t v : Int) (T K K2 : Tb) (ik : Int) (SB SS SN : Nat → Int) (tn : Int) (TB F : Nat → Int) (h : ik = 0 ∨ K = K2) : eqK (m_serve sp t v T K ik SB SS SN tn TB F) (m_serve sp t v T K2 ik SB SS SN tn TB F) := by
  rcases h with rfl | rfl
  · unfold m_serve
    (try unfold fdR)
    (repeat' split) <;> first | exact ⟨rfl, rfl, rfl, Or.inl rfl⟩ | exact ⟨rfl, rfl, rfl, Or.inr rfl⟩ | (exfalso; omega)
  · exact eqK_r _
theorem ek_plate (sp t : Int) (T K K2 : Tb) (ik : Int) (SB SS SN : Nat → Int) (tn : Int) (TB F : Nat → Int) (h : ik = 0 ∨ K = K2) : eqK (m_plate sp t T K ik SB SS SN tn TB F) (m_plate sp t T K2 ik SB SS SN tn TB F) := by
  rcases h with rfl | rfl
  · unfold m_plate
    (try unfold fdR)
    (repeat' split) <;> first | exact ⟨rfl, rfl, rfl, Or.inl rfl⟩ | exact ⟨rfl, rfl, rfl, Or.inr rfl⟩ | (exfalso; omega)
  · exact eqK_r _
theorem ek_chews (sp t : Int) (T K K2 : Tb) (ik : Int) (SB SS SN : Nat → Int) (tn : Int) (TB F : Nat → Int) (h : ik = 0 ∨ K = K2) : eqK (m_chews sp t T K ik SB SS SN tn TB F) (m_chews sp t T K2 ik SB SS SN tn TB F) := by
  rcases h with rfl | rfl
  · unfold m_chews
    (try unfold fdR)
    (repeat' split) <;> first | exact ⟨rfl, rfl, rfl, Or.inl rfl⟩ | exact ⟨rfl, rfl, rfl, Or.inr rfl⟩ | (exfalso; omega)
  · exact eqK_r _
theorem ek_talks (sp t : Int) (T K K2 : Tb) (ik : Int) (SB SS SN : Nat → Int) (tn : Int) (TB F : Nat → Int) (h : ik = 0 ∨ K = K2) : eqK (m_talks sp t T K ik SB SS SN tn TB F) (m_talks sp t T K2 ik SB SS SN tn TB F) := by
  rcases h with rfl | rfl
  · unfold m_talks
    (try unfold fdR)
    (repeat' split) <;> first | exact ⟨rfl, rfl, rfl, Or.inl rfl⟩ | exact ⟨rfl, rfl, rfl, Or.inr rfl⟩ | (exfalso; omega)
  · exact eqK_r _
theorem ek_go (n : Int) (T K K2 : Tb) (ik : Int) (SB SS SN : Nat → Int) (tn : Int) (TB F : Nat → Int) (h : ik = 0 ∨ K = K2) : eqK (m_go n T K ik SB SS SN tn TB F) (m_go n T K2 ik SB SS SN tn TB F) := by
  rcases h with rfl | rfl
  · unfold m_go
    (try unfold fdR)
    (repeat' split) <;> first | exact ⟨rfl, rfl, rfl, Or.inl rfl⟩ | exact ⟨rfl, rfl, rfl, Or.inr rfl⟩ | (exfalso; omega)
  · exact eqK_r _
theorem ek_now (wh : Int) (T K K2 : Tb) (ik : Int) (SB SS SN : Nat → Int) (tn : Int) (TB F : Nat → Int) (h : ik = 0 ∨ K = K2) : eqK (m_now wh T K ik SB SS SN tn TB F) (m_now wh T K2 ik SB SS SN tn TB F) := by
  rcases h with rfl | rfl
  · unfold m_now
    (try unfold fdR)
    (repeat' split) <;> first | exact ⟨rfl, rfl, rfl, Or.inl rfl⟩ | exact ⟨rfl, rfl, rfl, Or.inr rfl⟩ | (exfalso; omega)
  · exact eqK_r _
theorem ek_ahead (sp wh n : Int) (T K K2 : Tb) (ik : Int) (SB SS SN : Nat → Int) (tn : Int) (TB F : Nat → Int) (h : ik = 0 ∨ K = K2) : eqK (m_ahead sp wh n T K ik SB SS SN tn TB F) (m_ahead sp wh n T K2 ik SB SS SN tn TB F) := by
  rcases h with rfl | rfl
  · unfold m_ahead
    (try unfold fdR)
    (repeat' split) <;> first | exact ⟨rfl, rfl, rfl, Or.inl rfl⟩ | exact ⟨rfl, rfl, rfl, Or.inr rfl⟩ | (exfalso; omega)
  · exact eqK_r _
theorem ek_served (sp t n : Int) (T K K2 : Tb) (ik : Int) (SB SS SN : Nat → Int) (tn : Int) (TB F : Nat → Int) (h : ik = 0 ∨ K = K2) : eqK (m_served sp t n T K ik SB SS SN tn TB F) (m_served sp t n T K2 ik SB SS SN tn TB F) := by
  rcases h with rfl | rfl
  · unfold m_served
    (try unfold fdR)
    (repeat' split) <;> first | exact ⟨rfl, rfl, rfl, Or.inl rfl⟩ | exact ⟨rfl, rfl, rfl, Or.inr rfl⟩ | (exfalso; omega)
  · exact eqK_r _
theorem ek_clean (sp : Int) (T K K2 : Tb) (ik : Int) (SB SS SN : Nat → Int) (tn : Int) (TB F : Nat → Int) (h : ik = 0 ∨ K = K2) : eqK (m_clean sp T K ik SB SS SN tn TB F) (m_clean sp T K2 ik SB SS SN tn TB F) := by
  rcases h with rfl | rfl
  · unfold m_clean
    (try unfold fdR)
    (repeat' split) <;> first | exact ⟨rfl, rfl, rfl, Or.inl rfl⟩ | exact ⟨rfl, rfl, rfl, Or.inr rfl⟩ | (exfalso; omega)
  · exact eqK_r _
theorem ek_when (sp v : Int) (T K K2 : Tb) (ik : Int) (SB SS SN : Nat → Int) (tn : Int) (TB F : Nat → Int) (h : ik = 0 ∨ K = K2) : eqK (m_when sp v T K ik SB SS SN tn TB F) (m_when sp v T K2 ik SB SS SN tn TB F) := by
  rcases h with rfl | rfl
  · unfold m_when
    (try unfold fdR)
    (repeat' split) <;> first | exact ⟨rfl, rfl, rfl, Or.inl rfl⟩ | exact ⟨rfl, rfl, rfl, Or.inr rfl⟩ | (exfalso; omega)
  · exact eqK_r _
theorem ek_thin (sp : Int) (T K K2 : Tb) (ik : Int) (SB SS SN : Nat → Int) (tn : Int) (TB F : Nat → Int) (h : ik = 0 ∨ K = K2) : eqK (m_thin sp T K ik SB SS SN tn TB F) (m_thin sp T K2 ik SB SS SN tn TB F) := by
  rcases h with rfl | rfl
  · unfold m_thin
    (try unfold fdR)
    (repeat' split) <;> first | exact ⟨rfl, rfl, rfl, Or.inl rfl⟩ | exact ⟨rfl, rfl, rfl, Or.inr rfl⟩ | (exfalso; omega)
  · exact eqK_r _
theorem ek_love (sp n : Int) (T K K2 : Tb) (ik : Int) (SB SS SN : Nat → Int) (tn : Int) (TB F : Nat → Int) (h : ik = 0 ∨ K = K2) : eqK (m_love sp n T K ik SB SS SN tn TB F) (m_love sp n T K2 ik SB SS SN tn TB F) := by
  rcases h with rfl | rfl
  · unfold m_love
    (try unfold fdR)
    (repeat' split) <;> first | exact ⟨rfl, rfl, rfl, Or.inl rfl⟩ | exact ⟨rfl, rfl, rfl, Or.inr rfl⟩ | (exfalso; omega)
  · exact eqK_r _
theorem ek_kindFor (sp n : Int) (T K K2 : Tb) (ik : Int) (SB SS SN : Nat → Int) (tn : Int) (TB F : Nat → Int) (h : ik = 0 ∨ K = K2) : eqK (m_kindFor sp n T K ik SB SS SN tn TB F) (m_kindFor sp n T K2 ik SB SS SN tn TB F) := by
  rcases h with rfl | rfl
  · unfold m_kindFor
    (try unfold fdR)
    (repeat' split) <;> first | exact ⟨rfl, rfl, rfl, Or.inl rfl⟩ | exact ⟨rfl, rfl, rfl, Or.inr rfl⟩ | (exfalso; omega)
  · exact eqK_r _
theorem ek_vinegarFor (sp n : Int) (T K K2 : Tb) (ik : Int) (SB SS SN : Nat → Int) (tn : Int) (TB F : Nat → Int) (h : ik = 0 ∨ K = K2) : eqK (m_vinegarFor sp n T K ik SB SS SN tn TB F) (m_vinegarFor sp n T K2 ik SB SS SN tn TB F) := by
  rcases h with rfl | rfl
  · unfold m_vinegarFor
    (try unfold fdR)
    (repeat' split) <;> first | exact ⟨rfl, rfl, rfl, Or.inl rfl⟩ | exact ⟨rfl, rfl, rfl, Or.inr rfl⟩ | (exfalso; omega)
  · exact eqK_r _
theorem ek_unsay (n : Int) (T K K2 : Tb) (ik : Int) (SB SS SN : Nat → Int) (tn : Int) (TB F : Nat → Int) (h : ik = 0 ∨ K = K2) : eqK (m_unsay n T K ik SB SS SN tn TB F) (m_unsay n T K2 ik SB SS SN tn TB F) := by
  rcases h with rfl | rfl
  · unfold m_unsay
    (try unfold fdR)
    (repeat' split) <;> first | exact ⟨rfl, rfl, rfl, Or.inl rfl⟩ | exact ⟨rfl, rfl, rfl, Or.inr rfl⟩ | (exfalso; omega)
  · exact eqK_r _
theorem ek_silence (sp n : Int) (T K K2 : Tb) (ik : Int) (SB SS SN : Nat → Int) (tn : Int) (TB F : Nat → Int) (h : ik = 0 ∨ K = K2) : eqK (m_silence sp n T K ik SB SS SN tn TB F) (m_silence sp n T K2 ik SB SS SN tn TB F) := by
  rcases h with rfl | rfl
  · unfold m_silence
    (try unfold fdR)
    (repeat' split) <;> first | exact ⟨rfl, rfl, rfl, Or.inl rfl⟩ | exact ⟨rfl, rfl, rfl, Or.inr rfl⟩ | (exfalso; omega)
  · exact eqK_r _
theorem ek_swapFor (n : Int) (T K K2 : Tb) (ik : Int) (SB SS SN : Nat → Int) (tn : Int) (TB F : Nat → Int) (h : ik = 0 ∨ K = K2) : eqK (m_swapFor n T K ik SB SS SN tn TB F) (m_swapFor n T K2 ik SB SS SN tn TB F) := by
  rcases h with rfl | rfl
  · unfold m_swapFor
    (try unfold fdR)
    (repeat' split) <;> first | exact ⟨rfl, rfl, rfl, Or.inl rfl⟩ | exact ⟨rfl, rfl, rfl, Or.inr rfl⟩ | (exfalso; omega)
  · exact eqK_r _
theorem ek_fits (s sp : Int) (T K K2 : Tb) (ik : Int) (SB SS SN : Nat → Int) (tn : Int) (TB F : Nat → Int) (h : ik = 0 ∨ K = K2) : eqK (m_fits s sp T K ik SB SS SN tn TB F) (m_fits s sp T K2 ik SB SS SN tn TB F) := by
  rcases h with rfl | rfl
  · unfold m_fits
    (try unfold fdR)
    (repeat' split) <;> first | exact ⟨rfl, rfl, rfl, Or.inl rfl⟩ | exact ⟨rfl, rfl, rfl, Or.inr rfl⟩ | (exfalso; omega)
  · exact eqK_r _
theorem ek_kinds (s sp : Int) (T K K2 : Tb) (ik : Int) (SB SS SN : Nat → Int) (tn : Int) (TB F : Nat → Int) (h : ik = 0 ∨ K = K2) : eqK (m_kinds s sp T K ik SB SS SN tn TB F) (m_kinds s sp T K2 ik SB SS SN tn TB F) := by
  rcases h with rfl | rfl
  · unfold m_kinds
    (try unfold fdR)
    (repeat' split) <;> first | exact ⟨rfl, rfl, rfl, Or.inl rfl⟩ | exact ⟨rfl, rfl, rfl, Or.inr rfl⟩ | (exfalso; omega)
  · exact eqK_r _
theorem ek_talk (n : Int) (T K K2 : Tb) (ik : Int) (SB SS SN : Nat → Int) (tn : Int) (TB F : Nat → Int) (h : ik = 0 ∨ K = K2) : eqK (m_talk n T K ik SB SS SN tn TB F) (m_talk n T K2 ik SB SS SN tn TB F) := by
  rcases h with rfl | rfl
  · unfold m_talk
    (try unfold fdR)
    (repeat' split) <;> first | exact ⟨rfl, rfl, rfl, Or.inl rfl⟩ | exact ⟨rfl, rfl, rfl, Or.inr rfl⟩ | (exfalso; omega)
  · exact eqK_r _
theorem ek_odds (sp n wh : Int) (T K K2 : Tb) (ik : Int) (SB SS SN : Nat → Int) (tn : Int) (TB F : Nat → Int) (h : ik = 0 ∨ K = K2) : eqK (m_odds sp n wh T K ik SB SS SN tn TB F) (m_odds sp n wh T K2 ik SB SS SN tn TB F) := by
  rcases h with rfl | rfl
  · unfold m_odds
    (try unfold fdR)
    (repeat' split) <;> first | exact ⟨rfl, rfl, rfl, Or.inl rfl⟩ | exact ⟨rfl, rfl, rfl, Or.inr rfl⟩ | (exfalso; omega)
  · exact eqK_r _
theorem ek_seed (v : Int) (T K K2 : Tb) (ik : Int) (SB SS SN : Nat → Int) (tn : Int) (TB F : Nat → Int) (h : ik = 0 ∨ K = K2) : eqK (m_seed v T K ik SB SS SN tn TB F) (m_seed v T K2 ik SB SS SN tn TB F) := by
  rcases h with rfl | rfl
  · unfold m_seed
    (try unfold fdR)
    (repeat' split) <;> first | exact ⟨rfl, rfl, rfl, Or.inl rfl⟩ | exact ⟨rfl, rfl, rfl, Or.inr rfl⟩ | (exfalso; omega)
  · exact eqK_r _
theorem ek_feed (bs n : Int) (T K K2 : Tb) (ik : Int) (SB SS SN : Nat → Int) (tn : Int) (TB F : Nat → Int) (h : ik = 0 ∨ K = K2) : eqK (m_feed bs n T K ik SB SS SN tn TB F) (m_feed bs n T K2 ik SB SS SN tn TB F) := by
  rcases h with rfl | rfl
  · unfold m_feed
    (try unfold fdR)
    (repeat' split) <;> first | exact ⟨rfl, rfl, rfl, Or.inl rfl⟩ | exact ⟨rfl, rfl, rfl, Or.inr rfl⟩ | (exfalso; omega)
  · exact eqK_r _
theorem ek_wipe (T K K2 : Tb) (ik : Int) (SB SS SN : Nat → Int) (tn : Int) (TB F : Nat → Int) (h : ik = 0 ∨ K = K2) : eqK (m_wipe  T K ik SB SS SN tn TB F) (m_wipe  T K2 ik SB SS SN tn TB F) := by
  rcases h with rfl | rfl
  · unfold m_wipe
    (try unfold fdR)
    (repeat' split) <;> first | exact ⟨rfl, rfl, rfl, Or.inl rfl⟩ | exact ⟨rfl, rfl, rfl, Or.inr rfl⟩ | (exfalso; omega)
  · exact eqK_r _
theorem ek_hold (k sp : Int) (T K K2 : Tb) (ik : Int) (SB SS SN : Nat → Int) (tn : Int) (TB F : Nat → Int) (h : ik = 0 ∨ K = K2) : eqK (m_hold k sp T K ik SB SS SN tn TB F) (m_hold k sp T K2 ik SB SS SN tn TB F) := by
  rcases h with rfl | rfl
  · unfold m_hold
    (try unfold fdR)
    (repeat' split) <;> first | exact ⟨rfl, rfl, rfl, Or.inl rfl⟩ | exact ⟨rfl, rfl, rfl, Or.inr rfl⟩ | (exfalso; omega)
  · exact eqK_r _
theorem ek_sheet (s bt n : Int) (T K K2 : Tb) (ik : Int) (SB SS SN : Nat → Int) (tn : Int) (TB F : Nat → Int) (h : ik = 0 ∨ K = K2) : eqK (m_sheet s bt n T K ik SB SS SN tn TB F) (m_sheet s bt n T K2 ik SB SS SN tn TB F) := by
  rcases h with rfl | rfl
  · unfold m_sheet
    (try unfold fdR)
    (repeat' split) <;> first | exact ⟨rfl, rfl, rfl, Or.inl rfl⟩ | exact ⟨rfl, rfl, rfl, Or.inr rfl⟩ | (exfalso; omega)
  · exact eqK_r _
theorem ek_write (s i v : Int) (T K K2 : Tb) (ik : Int) (SB SS SN : Nat → Int) (tn : Int) (TB F : Nat → Int) (h : ik = 0 ∨ K = K2) : eqK (m_write s i v T K ik SB SS SN tn TB F) (m_write s i v T K2 ik SB SS SN tn TB F) := by
  rcases h with rfl | rfl
  · unfold m_write
    (try unfold fdR)
    (repeat' split) <;> first | exact ⟨rfl, rfl, rfl, Or.inl rfl⟩ | exact ⟨rfl, rfl, rfl, Or.inr rfl⟩ | (exfalso; omega)
  · exact eqK_r _
theorem ek_copy (s a t c n : Int) (T K K2 : Tb) (ik : Int) (SB SS SN : Nat → Int) (tn : Int) (TB F : Nat → Int) (h : ik = 0 ∨ K = K2) : eqK (m_copy s a t c n T K ik SB SS SN tn TB F) (m_copy s a t c n T K2 ik SB SS SN tn TB F) := by
  rcases h with rfl | rfl
  · unfold m_copy
    (try unfold fdR)
    (repeat' split) <;> first | exact ⟨rfl, rfl, rfl, Or.inl rfl⟩ | exact ⟨rfl, rfl, rfl, Or.inr rfl⟩ | (exfalso; omega)
  · exact eqK_r _
theorem ek_load (s : Int) (T K K2 : Tb) (ik : Int) (SB SS SN : Nat → Int) (tn : Int) (TB F : Nat → Int) (h : ik = 0 ∨ K = K2) : eqK (m_load s T K ik SB SS SN tn TB F) (m_load s T K2 ik SB SS SN tn TB F) := by
  rcases h with rfl | rfl
  · unfold m_load
    (try unfold fdR)
    (repeat' split) <;> first | exact ⟨rfl, rfl, rfl, Or.inl rfl⟩ | exact ⟨rfl, rfl, rfl, Or.inr rfl⟩ | (exfalso; omega)
  · exact eqK_r _
theorem ek_judge (s : Int) (T K K2 : Tb) (ik : Int) (SB SS SN : Nat → Int) (tn : Int) (TB F : Nat → Int) (h : ik = 0 ∨ K = K2) : eqK (m_judge s T K ik SB SS SN tn TB F) (m_judge s T K2 ik SB SS SN tn TB F) := by
  rcases h with rfl | rfl
  · unfold m_judge
    (try unfold fdR)
    (repeat' split) <;> first | exact ⟨rfl, rfl, rfl, Or.inl rfl⟩ | exact ⟨rfl, rfl, rfl, Or.inr rfl⟩ | (exfalso; omega)
  · exact eqK_r _
theorem ek_image (T K K2 : Tb) (ik : Int) (SB SS SN : Nat → Int) (tn : Int) (TB F : Nat → Int) (h : ik = 0 ∨ K = K2) : eqK (m_image  T K ik SB SS SN tn TB F) (m_image  T K2 ik SB SS SN tn TB F) := by
  rcases h with rfl | rfl
  · unfold m_image
    (try unfold fdR)
    (repeat' split) <;> first | exact ⟨rfl, rfl, rfl, Or.inl rfl⟩ | exact ⟨rfl, rfl, rfl, Or.inr rfl⟩ | (exfalso; omega)
  · exact eqK_r _
theorem ek_undo (T K K2 : Tb) (ik : Int) (SB SS SN : Nat → Int) (tn : Int) (TB F : Nat → Int) (h : ik = 0 ∨ K = K2) : eqK (m_undo  T K ik SB SS SN tn TB F) (m_undo  T K2 ik SB SS SN tn TB F) := by
  rcases h with rfl | rfl
  · unfold m_undo
    (try unfold fdR)
    (repeat' split) <;> first | exact ⟨rfl, rfl, rfl, Or.inl rfl⟩ | exact ⟨rfl, rfl, rfl, Or.inr rfl⟩ | (exfalso; omega)
  · exact eqK_r _
theorem ek_tear (T K K2 : Tb) (ik : Int) (SB SS SN : Nat → Int) (tn : Int) (TB F : Nat → Int) (h : ik = 0 ∨ K = K2) : eqK (m_tear  T K ik SB SS SN tn TB F) (m_tear  T K2 ik SB SS SN tn TB F) := by
  rcases h with rfl | rfl
  · unfold m_tear
    (try unfold fdR)
    (repeat' split) <;> first | exact ⟨rfl, rfl, rfl, Or.inl rfl⟩ | exact ⟨rfl, rfl, rfl, Or.inr rfl⟩ | (exfalso; omega)
  · exact eqK_r _
theorem ek_count (wh : Int) (T K K2 : Tb) (ik : Int) (SB SS SN : Nat → Int) (tn : Int) (TB F : Nat → Int) (h : ik = 0 ∨ K = K2) : eqK (m_count wh T K ik SB SS SN tn TB F) (m_count wh T K2 ik SB SS SN tn TB F) := by
  rcases h with rfl | rfl
  · unfold m_count
    (try unfold fdR)
    (repeat' split) <;> first | exact ⟨rfl, rfl, rfl, Or.inl rfl⟩ | exact ⟨rfl, rfl, rfl, Or.inr rfl⟩ | (exfalso; omega)
  · exact eqK_r _
theorem ek_status (wh : Int) (T K K2 : Tb) (ik : Int) (SB SS SN : Nat → Int) (tn : Int) (TB F : Nat → Int) (h : ik = 0 ∨ K = K2) : eqK (m_status wh T K ik SB SS SN tn TB F) (m_status wh T K2 ik SB SS SN tn TB F) := by
  rcases h with rfl | rfl
  · unfold m_status
    (try unfold fdR)
    (repeat' split) <;> first | exact ⟨rfl, rfl, rfl, Or.inl rfl⟩ | exact ⟨rfl, rfl, rfl, Or.inr rfl⟩ | (exfalso; omega)
  · exact eqK_r _
theorem ek_as (k kd : Int) (T K K2 : Tb) (ik : Int) (SB SS SN : Nat → Int) (tn : Int) (TB F : Nat → Int) (h : ik = 0 ∨ K = K2) : eqK (m_as k kd T K ik SB SS SN tn TB F) (m_as k kd T K2 ik SB SS SN tn TB F) := by
  rcases h with rfl | rfl
  · unfold m_as
    (try unfold fdR)
    (repeat' split) <;> first | exact ⟨rfl, rfl, rfl, Or.inl rfl⟩ | exact ⟨rfl, rfl, rfl, Or.inr rfl⟩ | (exfalso; omega)
  · exact eqK_r _
