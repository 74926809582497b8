theorem tx_r {TB : Nat → Int} {nn : Nat} (h9 : nn ≤ 120) : ∀ (k : Nat) (n : Int) (T : Tb) (p : Tk), tkI nn p → 0 ≤ n → n + k ≤ 1000 → rI (txF TB nn k n T p).1
  | 0, n, T, p, h, _, _ => by
    obtain ⟨z1, z2, z3, z4, z5, z6⟩ := h
    show rI (-1 - (p.2.1 : Int))
    omega
  | k + 1, n, T, p, h, h0, h1 => by
    have hi := itF_I (TB := TB) (T := T) h
    obtain ⟨z1, z2, z3, z4, z5, z6⟩ := id hi
    rw [txF]
    split
    · split
      · dsimp only; omega
      · split
        · exact tx_r h9 k (n + 1) _ _ (nx_I hi).1 (by omega) (by omega)
        · dsimp only; omega
    · dsimp only; omega
-- what a text leaves is a table
theorem pkF_V {B : Int} {TB : Nat → Int} {nn i : Nat} {m : Int} {T : Tb} {p : Tk} {cnd : Bool} (h : Inv B T) (hp : tkI nn p) (hv : ∀ v : Int, 0 ≤ v → v ≤ m → Inv B (va_up T i v)) : Inv B (pkF TB nn cnd i m T p).2.1 := by
  unfold pkF
  split
  · split
    · rename_i h1
      have h2 := nbB_i.mp h1
      obtain ⟨z1, z2, z3, z4, z5, z6⟩ := (nx_I (TB := TB) hp).1
      exact hv _ z5.1 h2.2
    · exact h
  · exact h
theorem plL_V {B : Int} {TB : Nat → Int} {nn n : Nat} (hn : n < 8) : ∀ (k t : Nat) (T : Tb) (p : Tk), t + k ≤ 6 → Inv B T → tkI nn p → Inv B (plL TB nn n k t T p).1
  | 0, _, _, _, _, h, _ => h
  | k + 1, t, T, p, ht, h, hp => by
    rw [plL]
    split
    · rename_i h1
      have h2 := nbB_i.mp h1
      obtain ⟨z1, z2, z3, z4, z5, z6⟩ := id hp
      exact plL_V hn k (t + 1) _ _ (by omega) (Inv_cx h hn (by omega) (fun _ => pkd_pl (by omega))) (nx_I hp).1
    · exact h
theorem plF_V {B : Int} {TB : Nat → Int} {nn n : Nat} {T : Tb} {p : Tk} (hn : n < 8) (h : Inv B T) (hp : tkI nn p) : Inv B (plF TB nn n T p).2.1 := by
  unfold plF
  split
  · unfold plQ
    split
    · exact plL_V hn 6 0 _ _ (by omega) h (nx_I hp).1
    · exact h
  · exact h
theorem bindR_V {B : Int} {nn : Nat} {r : Rs} {f : Tb → Tk → Rs} {n0 : Int} (h1 : Inv B r.2.1) (h0 : r.2.1 0 = n0) (hp : tkI nn r.2.2) (h2 : ∀ T p, Inv B T → T 0 = n0 → tkI nn p → Inv B (f T p).2.1) : Inv B (bindR r f).2.1 := by
  unfold bindR
  split
  · exact h2 _ _ h1 h0 hp
  · exact h1
theorem spB_V {B : Int} {TB : Nat → Int} {nn n : Nat} {T : Tb} {p : Tk} (hn : n < 8) (hT : T 0 = (n : Int) + 1) (h : Inv B T) (hp : tkI nn p) : Inv B (spB TB nn n T p).2.1 := by
  unfold spB
  have g1 : cx n 1 ≠ 0 := by have := cx_ge n 1; omega
  have g2 : cx n 2 ≠ 0 := by have := cx_ge n 2; omega
  refine bindR_V (nn := nn) (n0 := T 0) (pkF_V h (nx_I hp).1 (fun v h1 h2 => Inv_cx h hn (by omega) (fun _ => show -1 ≤ v ∧ v < T 0 by omega))) (pkF_0 g1) (pkF_I (nx_I hp).1) (fun T1 p1 a1 b1 c1 => ?_)
  exact bindR_V (nn := nn) (n0 := T 0) (pkF_V a1 c1 (fun v h1 h2 => Inv_cx a1 hn (by omega) (fun _ => show 0 ≤ v ∧ v ≤ 99 by omega))) ((pkF_0 g2).trans b1) (pkF_I c1) (fun T2 p2 a2 b2 c2 => plF_V hn a2 c2)
theorem itF_V {B : Int} {TB : Nat → Int} {nn : Nat} {T : Tb} {p : Tk} (h : Inv B T) (hp : tkI nn p) : Inv B (itF TB nn T p).2.1 := by
  have hn := Inv_n h
  unfold itF
  split
  · unfold liF
    split
    · rename_i h1
      have h2 := nbB_i.mp h1
      obtain ⟨z1, z2, z3, z4, z5, z6⟩ := (nx_I (TB := TB) hp).1
      exact pkF_V h (nx_I hp).1 (fun v h3 h4 => Inv_li h (by omega) ⟨h3, h4⟩)
    · exact h
  · split
    · exact pkF_V h hp (fun v h3 h4 => Inv_up h (by omega) (show 0 ≤ v ∧ v ≤ 9 by omega))
    · split
      · exact h
      · have hk := kd_b TB p
        exact spB_V (by omega) (by rw [st_0]; omega) (st_I h (by omega) (by omega) (by omega)) hp
theorem txF_V {B : Int} {TB : Nat → Int} {nn : Nat} : ∀ (k : Nat) (n : Int) (T : Tb) (p : Tk), Inv B T → tkI nn p → Inv B (txF TB nn k n T p).2
  | 0, _, _, _, h, _ => h
  | k + 1, n, T, p, h, hp => by
    have h1 := itF_V (TB := TB) h hp
    have h2 := itF_I (TB := TB) (T := T) hp
    rw [txF]
    split
    · split
      · exact h1
      · split
        · exact txF_V k (n + 1) _ _ h1 (nx_I h2).1
        · exact h1
    · exact h1
theorem gi_text {B : Int} {T K : Tb} {ik : Int} {SB SS SN : Nat → Int} {tn : Int} {TB F : Nat → Int} (h : GI B T K ik SB SS SN tn TB F) : GIp (B + 61) (m_text T K ik SB SS SN tn TB F) := by
  obtain ⟨hI, hIK, hik, hSB, hSS, hSN, htn, hTB, hF⟩ := id h
  unfold m_text
  split
  · exact ⟨Inv_mono (txF_V _ _ _ _ hI (tnF_I (Nat.zero_le _)).1) (by omega), hIK.imp id (fun q => Inv_mono q (by omega)), hik, hSB, hSS, hSN, (show (0 : Int) ≤ 0 ∧ (0 : Int) ≤ 120 by omega), hTB, fun i hi => (show 0 ≤ F i ∧ F i ≤ B + 61 by have := hF i hi; omega)⟩
  · exact ⟨Inv_mono hI (by omega), hIK.imp id (fun q => Inv_mono q (by omega)), hik, hSB, hSS, hSN, (show (0 : Int) ≤ 0 ∧ (0 : Int) ≤ 120 by omega), hTB, fun i hi => (show 0 ≤ F i ∧ F i ≤ B + 61 by have := hF i hi; omega)⟩
theorem ek_text (T K K2 : Tb) (ik : Int) (SB SS SN : Nat → Int) (tn : Int) (TB F : Nat → Int) (h : ik = 0 ∨ K = K2) : eqK (m_text T K ik SB SS SN tn TB F) (m_text T K2 ik SB SS SN tn TB F) := by
  unfold m_text
  split
  · exact ⟨rfl, rfl, rfl, h⟩
  · exact ⟨rfl, rfl, rfl, h⟩
