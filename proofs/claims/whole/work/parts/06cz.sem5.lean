theorem fdR_of {f : Tb → Bool} {r : Int} {F1 : Nat → Int} {T K : Tb} {ik : Int} {SB SS SN : Nat → Int} {tn : Int} {TB F : Nat → Int} (h : (r, F1) = if 0 ≤ fdF f 101 0 T then (fdF f 101 0 T, F) else (-1000004, bmp 3 F)) : (r, T, K, ik, SB, SS, SN, tn, TB, F1) = fdR f T K ik SB SS SN tn TB F := by
  unfold fdR
  split at h
  · cases h
    rw [if_pos (by assumption)]
  · cases h
    rw [if_neg (by assumption)]
    rfl
theorem waF_c (SB : Nat → Int) (s : Int) : waF SB s = -1000001 ∨ waF SB s = -1000006 ∨ waF SB s = 0 := by
  unfold waF
  (repeat' split) <;> omega
theorem waF_0 {SB : Nat → Int} {s : Int} (h : waF SB s = 0) : (0 ≤ s ∧ s < 4) ∧ SB s.toNat ≠ 0 := by
  unfold waF at h
  split at h
  · omega
  · split at h
    · omega
    · exact ⟨by omega, by assumption⟩
theorem wtF_c (SB : Nat → Int) (n s sp : Int) : wtF SB n s sp = -1000001 ∨ wtF SB n s sp = -1000006 ∨ wtF SB n s sp = 0 := by
  have := waF_c SB s
  unfold wtF
  (repeat' split) <;> omega
theorem wtF_0 {SB : Nat → Int} {n s sp : Int} (h : wtF SB n s sp = 0) : (0 ≤ s ∧ s < 4) ∧ SB s.toNat ≠ 0 ∧ (0 ≤ sp ∧ sp < n) := by
  unfold wtF at h
  split at h
  · omega
  · split at h
    · have := waF_0 (SB := SB) (s := s) (by omega)
      exact ⟨this.1, this.2, by assumption⟩
    · omega
theorem uL_un {k a : Int} (hk : 0 ≤ k ∧ k ≤ 6) (ha : 0 ≤ a ∧ a ≤ 6) : uL 7 k a = unB k a := by
  have h1 : k = 0 ∨ k = 1 ∨ k = 2 ∨ k = 3 ∨ k = 4 ∨ k = 5 ∨ k = 6 := by omega
  have h2 : a = 0 ∨ a = 1 ∨ a = 2 ∨ a = 3 ∨ a = 4 ∨ a = 5 ∨ a = 6 := by omega
  rcases h1 with rfl | rfl | rfl | rfl | rfl | rfl | rfl <;> rcases h2 with rfl | rfl | rfl | rfl | rfl | rfl | rfl <;> rfl
theorem Inv_dr {B : Int} {T : Tb} (h : Inv B T) : Inv B (drF T) := Inv_up h (by omega) trivial
theorem ushr8_b (a : Int) : 0 ≤ ushrI a 8 ∧ ushrI a 8 ≤ 16777215 := by
  have h := pk_ushr (iI a) (iI 8) 8 (by decide)
  have hlt : (iI a).toBitVec.toNat < 2 ^ 32 := (iI a).toBitVec.isLt
  unfold ushrI
  generalize hX : ((iI a).toUInt32 >>> ((iI 8).toUInt32 &&& Int32.toUInt32 31)).toInt32 = X at h
  have e : X.toInt = (X.toBitVec.toNat : Int) := by
    show X.toBitVec.toInt = _
    rw [BitVec.toInt_eq_toNat_of_lt]
    rw [h]
    omega
  rw [e, h]
  omega
theorem loF_b {a b : Int} (ha : 0 ≤ a ∧ a ≤ 6) : ∀ d : Nat, 0 ≤ loF a b d ∧ loF a b d ≤ 6
  | 0 => ha
  | d + 1 => by
    rw [loF]
    split
    · have h1 : 0 ≤ a / ((d + 1 : Nat) : Int) := Int.ediv_nonneg ha.1 (by omega)
      have h2 : a / ((d + 1 : Nat) : Int) ≤ a := Int.ediv_le_self _ ha.1
      omega
    · exact loF_b ha d
theorem byte_sg (a : Int) : byteI a = sgB (andI a 255) := by
  have h1 : byteI a = (iI a).toInt.bmod 256 := by
    unfold byteI
    rw [Int8.toInt_toInt32, Int32.toInt_toInt8]
  have h2 : andI a 255 = (iI a).toInt % 256 := by
    unfold andI
    rw [pk_and (iI a) 8 (by decide)]
    have hlt : (iI a).toBitVec.toNat % 2 ^ 8 < 2 ^ 31 := by omega
    rw [nI_toInt hlt]
    show _ = (iI a).toBitVec.toInt % 256
    rw [BitVec.toInt_eq_toNat_bmod]
    have : ((iI a).toBitVec.toNat : Int).bmod (2 ^ 32) % 256 = ((iI a).toBitVec.toNat : Int) % 256 := by
      rw [Int.bmod_def]
      split <;> omega
    rw [this]
    omega
  rw [h1, h2]
  generalize (iI a).toInt = z
  unfold sgB
  rw [Int.bmod_def]
  have : ((256 : Nat) : Int) = 256 := rfl
  split <;> split <;> omega
theorem byte_id (a : Int) : byteI (byteI a) = byteI a := by
  unfold byteI
  rw [iI_self]
  apply congrArg Int32.toInt
  rw [Int8.toInt8_toInt32]
theorem andB (a : Int) : 0 ≤ andI a 255 ∧ andI a 255 ≤ 255 := by
  unfold andI
  rw [pk_and (iI a) 8 (by decide)]
  have hlt : (iI a).toBitVec.toNat % 2 ^ 8 < 2 ^ 31 := by omega
  rw [nI_toInt hlt]
  omega
theorem wTp_up (cB : ClassId) (g : Nat → Nat) (tn : Int) (TB : Nat → Int) (j : Nat → Int) (v : Int) (i : Nat) (w : Int) (hi : i < 120) (hw : sgB w = v) : (wTp cB g tn TB j).set 1 (g 1, .inl (cB, 120, .inl (aI (va_up (gd 120 (fun i => sgB (TB i))) i v)))) = wTp cB g tn (va_up TB i w) j := by
  have e : va_up (gd 120 (fun i => sgB (TB i))) i v = gd 120 (fun k => sgB (va_up TB i w k)) := by
    rw [gd_up _ _ hi]
    refine gd_congr (fun k hk => ?_)
    by_cases h : k = i
    · subst h; rw [up_s, up_s, hw]
    · rw [up_n _ _ h, up_n _ _ h]
  rw [e]
  rfl
theorem Inv_li {B v : Int} {T : Tb} {t : Nat} (h : Inv B T) (ht : t < 6) (hv : 0 ≤ v ∧ v ≤ 20) : Inv B (va_up T (4 + t) v) := by
  refine Inv_up h (by omega) ?_
  unfold ckd
  rw [if_neg (by omega), if_neg (by omega), if_neg (by omega), if_neg (by omega), if_pos (by omega)]
  exact hv
theorem beS_t {val : Nat → Int} {ok : Nat → Bool} {nm : Nat → Int} {i : Nat} {z : Int × Int} {a b : Int} (h1 : ok i = true) (h2 : val i = b) (h3 : nm i = a) (h : b < z.2) : beS val ok nm i z = (a, b) := by
  unfold beS
  rw [h2, h3, if_pos ⟨h1, h⟩]
theorem beS_n {val : Nat → Int} {ok : Nat → Bool} {nm : Nat → Int} {i : Nat} {z : Int × Int} {b : Int} (h2 : val i = b) (h : z.2 ≤ b) : beS val ok nm i z = z := by
  unfold beS
  rw [h2, if_neg (fun q => by omega)]
theorem beS_o {val : Nat → Int} {ok : Nat → Bool} {nm : Nat → Int} {i : Nat} {z : Int × Int} (h : ok i = false) : beS val ok nm i z = z := by
  unfold beS
  rw [h, if_neg (fun q => Bool.false_ne_true q.1)]
theorem vf_ok {p n : Nat} {v : Int} {T K : Tb} {ik : Int} {SB SS SN : Nat → Int} {tn : Int} {TB F : Nat → Int} (h : (0 ≤ ((p : Nat) : Int) ∧ ((p : Nat) : Int) < T 0) ∧ (0 ≤ ((n : Nat) : Int) ∧ ((n : Nat) : Int) ≤ 40)) (h0 : 0 ≤ v) (e : viF n p T 10 = v) : (v, T, K, ik, SB, SS, SN, tn, TB, F) = m_vinegarFor ((p : Nat) : Int) ((n : Nat) : Int) T K ik SB SS SN tn TB F := by
  unfold m_vinegarFor
  rw [if_pos h]
  simp only [Int.toNat_natCast]
  rw [e, if_pos h0]
theorem vf_no {p n : Nat} {T K : Tb} {ik : Int} {SB SS SN : Nat → Int} {tn : Int} {TB F : Nat → Int} (h : (0 ≤ ((p : Nat) : Int) ∧ ((p : Nat) : Int) < T 0) ∧ (0 ≤ ((n : Nat) : Int) ∧ ((n : Nat) : Int) ≤ 40)) (e : viF n p T 10 = -1) : (-1000004, T, K, ik, SB, SS, SN, tn, TB, bmp 3 F) = m_vinegarFor ((p : Nat) : Int) ((n : Nat) : Int) T K ik SB SS SN tn TB F := by
  unfold m_vinegarFor
  rw [if_pos h]
  simp only [Int.toNat_natCast]
  rw [e, if_neg (by decide)]
  rfl
