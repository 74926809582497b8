/-! what each call answers and does, on both sides: (answer, T table, K kept image, ik whether one is kept, SB SS SN sheets: bits, sizes, numbers; tn TB tape; F findings) -/
abbrev Gs : Type := Tb × Tb × Int × (Nat → Int) × (Nat → Int) × (Nat → Int) × Int × (Nat → Int) × (Nat → Int)
def bmp (k : Nat) (F : Nat → Int) : Nat → Int := va_up F k (F k + 1)
def fnd (k : Nat) (T K : Tb) (ik : Int) (SB SS SN : Nat → Int) (tn : Int) (TB F : Nat → Int) : Int × Gs := (-1000001 - (k : Int), T, K, ik, SB, SS, SN, tn, TB, bmp k F)
def rok (r : Int) (T K : Tb) (ik : Int) (SB SS SN : Nat → Int) (tn : Int) (TB F : Nat → Int) : Int × Gs := (r, T, K, ik, SB, SS, SN, tn, TB, F)
def m_vinegar (v : Int) (T K : Tb) (ik : Int) (SB SS SN : Nat → Int) (tn : Int) (TB F : Nat → Int) : Int × Gs := if 0 ≤ v ∧ v ≤ 9 then (T 3, va_up T 3 v, K, ik, SB, SS, SN, tn, TB, F) else fnd 0 T K ik SB SS SN tn TB F
def m_list (t v : Int) (T K : Tb) (ik : Int) (SB SS SN : Nat → Int) (tn : Int) (TB F : Nat → Int) : Int × Gs := if (0 ≤ t ∧ t < 6) ∧ (0 ≤ v ∧ v ≤ 20) then (T (4 + t.toNat), va_up T (4 + t.toNat) v, K, ik, SB, SS, SN, tn, TB, F) else fnd 0 T K ik SB SS SN tn TB F
def m_listed (t : Int) (T K : Tb) (ik : Int) (SB SS SN : Nat → Int) (tn : Int) (TB F : Nat → Int) : Int × Gs := if 0 ≤ t ∧ t < 6 then (T (4 + t.toNat), T, K, ik, SB, SS, SN, tn, TB, F) else fnd 0 T K ik SB SS SN tn TB F
def m_speaker (kd : Int) (T K : Tb) (ik : Int) (SB SS SN : Nat → Int) (tn : Int) (TB F : Nat → Int) : Int × Gs := if ¬ (0 ≤ kd ∧ kd ≤ 6) then fnd 0 T K ik SB SS SN tn TB F else if T 0 = 8 then fnd 1 T K ik SB SS SN tn TB F else (T 0, stF kd (T 0).toNat T, K, ik, SB, SS, SN, tn, TB, F)
def m_of (sp w : Int) (T K : Tb) (ik : Int) (SB SS SN : Nat → Int) (tn : Int) (TB F : Nat → Int) : Int × Gs := if (0 ≤ sp ∧ sp < T 0) ∧ (0 ≤ w ∧ w ≤ 6) then (trF T sp.toNat w, T, K, ik, SB, SS, SN, tn, TB, F) else fnd 0 T K ik SB SS SN tn TB F
def mayF (T : Tb) (sp wh v : Int) : Prop := (wh = 0 ∧ (0 ≤ v ∧ v ≤ 6)) ∨ (wh = 1 ∧ (v = -1 ∨ ((0 ≤ v ∧ v < T 0) ∧ v ≠ sp))) ∨ (wh = 2 ∧ (0 ≤ v ∧ v ≤ 99)) ∨ (wh = 3 ∧ (0 ≤ v ∧ v ≤ 99999))
def mayB (T : Tb) (sp wh v : Int) : Bool := decide ((wh = 0 ∧ (0 ≤ v ∧ v ≤ 6)) ∨ (wh = 1 ∧ (v = -1 ∨ ((0 ≤ v ∧ v < T 0) ∧ v ≠ sp))) ∨ (wh = 2 ∧ (0 ≤ v ∧ v ≤ 99)) ∨ (wh = 3 ∧ (0 ≤ v ∧ v ≤ 99999)))
theorem mayB_t {T : Tb} {sp wh v : Int} (h : mayF T sp wh v) : mayB T sp wh v = true := decide_eq_true h
theorem mayB_f {T : Tb} {sp wh v : Int} (h : ¬ mayF T sp wh v) : mayB T sp wh v = false := decide_eq_false h
def m_change (sp wh v : Int) (T K : Tb) (ik : Int) (SB SS SN : Nat → Int) (tn : Int) (TB F : Nat → Int) : Int × Gs := if (0 ≤ sp ∧ sp < T 0) ∧ mayB T sp wh v = true then (T (cx sp.toNat wh.toNat), va_up T (cx sp.toNat wh.toNat) v, K, ik, SB, SS, SN, tn, TB, F) else fnd 0 T K ik SB SS SN tn TB F
def m_serve (sp t v : Int) (T K : Tb) (ik : Int) (SB SS SN : Nat → Int) (tn : Int) (TB F : Nat → Int) : Int × Gs := if (0 ≤ sp ∧ sp < T 0) ∧ (0 ≤ t ∧ t < 6) ∧ (0 ≤ v ∧ v ≤ 999) then (T (cx sp.toNat (4 + t.toNat)), va_up T (cx sp.toNat (4 + t.toNat)) v, K, ik, SB, SS, SN, tn, TB, F) else fnd 0 T K ik SB SS SN tn TB F
def m_plate (sp t : Int) (T K : Tb) (ik : Int) (SB SS SN : Nat → Int) (tn : Int) (TB F : Nat → Int) : Int × Gs := if (0 ≤ sp ∧ sp < T 0) ∧ (0 ≤ t ∧ t < 6) then (T (cx sp.toNat (4 + t.toNat)), T, K, ik, SB, SS, SN, tn, TB, F) else fnd 0 T K ik SB SS SN tn TB F
def m_chews (sp t : Int) (T K : Tb) (ik : Int) (SB SS SN : Nat → Int) (tn : Int) (TB F : Nat → Int) : Int × Gs := if (0 ≤ sp ∧ sp < T 0) ∧ (0 ≤ t ∧ t < 6) then (chF (T (cx sp.toNat 0)) t (T 3), T, K, ik, SB, SS, SN, tn, TB, F) else fnd 0 T K ik SB SS SN tn TB F
def m_talks (sp t : Int) (T K : Tb) (ik : Int) (SB SS SN : Nat → Int) (tn : Int) (TB F : Nat → Int) : Int × Gs := if (0 ≤ sp ∧ sp < T 0) ∧ (0 ≤ t ∧ t < 6) then (tkF (T (cx sp.toNat 0)) t (T 1), T, K, ik, SB, SS, SN, tn, TB, F) else fnd 0 T K ik SB SS SN tn TB F
def m_go (n : Int) (T K : Tb) (ik : Int) (SB SS SN : Nat → Int) (tn : Int) (TB F : Nat → Int) : Int × Gs := if 1 ≤ n ∧ n ≤ 60 then (alF (dsF 0 n.toNat T), dsF 0 n.toNat T, K, ik, SB, SS, SN, tn, TB, F) else fnd 0 T K ik SB SS SN tn TB F
def nowF (T : Tb) (wh : Int) : Int := if wh = 0 then T 1 else if wh = 1 then alF T else if wh = 2 then cnF T else if wh = 3 then smF T 2 else if wh = 4 then smF T 3 else if wh = 5 then fuF T else lvF T
def m_now (wh : Int) (T K : Tb) (ik : Int) (SB SS SN : Nat → Int) (tn : Int) (TB F : Nat → Int) : Int × Gs := if 0 ≤ wh ∧ wh ≤ 6 then (nowF T wh, T, K, ik, SB, SS, SN, tn, TB, F) else fnd 0 T K ik SB SS SN tn TB F
def m_ahead (sp wh n : Int) (T K : Tb) (ik : Int) (SB SS SN : Nat → Int) (tn : Int) (TB F : Nat → Int) : Int × Gs := if (0 ≤ sp ∧ sp < T 0) ∧ (wh = 2 ∨ wh = 3 ∨ wh = 5) ∧ (0 ≤ n ∧ n ≤ 100) then (trF (dsF 0 n.toNat T) sp.toNat wh, T, K, ik, SB, SS, SN, tn, TB, F) else fnd 0 T K ik SB SS SN tn TB F
def m_served (sp t n : Int) (T K : Tb) (ik : Int) (SB SS SN : Nat → Int) (tn : Int) (TB F : Nat → Int) : Int × Gs := if (0 ≤ sp ∧ sp < T 0) ∧ (0 ≤ t ∧ t < 6) ∧ (0 ≤ n ∧ n ≤ 100) then (dsF 0 n.toNat T (cx sp.toNat (4 + t.toNat)), T, K, ik, SB, SS, SN, tn, TB, F) else fnd 0 T K ik SB SS SN tn TB F
def fdF (f : Tb → Bool) : Nat → Nat → Tb → Int
  | 0, _, _ => -1
  | k + 1, d, T => if f T = true then (d : Int) else fdF f k (d + 1) (dyF 0 T)
def fdR (f : Tb → Bool) (T K : Tb) (ik : Int) (SB SS SN : Nat → Int) (tn : Int) (TB F : Nat → Int) : Int × Gs := if 0 ≤ fdF f 101 0 T then (fdF f 101 0 T, T, K, ik, SB, SS, SN, tn, TB, F) else fnd 3 T K ik SB SS SN tn TB F
def fdB (sp : Nat) (wh lo hi : Int) (S : Tb) : Bool := decide (lo ≤ trF S sp wh ∧ trF S sp wh ≤ hi)
def m_clean (sp : Int) (T K : Tb) (ik : Int) (SB SS SN : Nat → Int) (tn : Int) (TB F : Nat → Int) : Int × Gs := if (0 ≤ sp ∧ sp < T 0) then fdR (fdB sp.toNat 5 0 0) T K ik SB SS SN tn TB F else fnd 0 T K ik SB SS SN tn TB F
def m_when (sp v : Int) (T K : Tb) (ik : Int) (SB SS SN : Nat → Int) (tn : Int) (TB F : Nat → Int) : Int × Gs := if (0 ≤ sp ∧ sp < T 0) ∧ (0 ≤ v ∧ v ≤ 5000) then fdR (fdB sp.toNat 5 v 1000000) T K ik SB SS SN tn TB F else fnd 0 T K ik SB SS SN tn TB F
def m_thin (sp : Int) (T K : Tb) (ik : Int) (SB SS SN : Nat → Int) (tn : Int) (TB F : Nat → Int) : Int × Gs := if (0 ≤ sp ∧ sp < T 0) then fdR (fdB sp.toNat 2 0 0) T K ik SB SS SN tn TB F else fnd 0 T K ik SB SS SN tn TB F
def beS (val : Nat → Int) (ok : Nat → Bool) (nm : Nat → Int) (i : Nat) (z : Int × Int) : Int × Int := if ok i = true ∧ val i < z.2 then (nm i, val i) else z
def beF (val : Nat → Int) (ok : Nat → Bool) (nm : Nat → Int) (n : Nat) (z : Int × Int) : Int × Int := run (beS val ok nm) n 0 z
def lvW (T : Tb) (i : Nat) : Int := if (i : Int) < T 0 then (i : Int) else -1
def m_love (sp n : Int) (T K : Tb) (ik : Int) (SB SS SN : Nat → Int) (tn : Int) (TB F : Nat → Int) : Int × Gs := if (0 ≤ sp ∧ sp < T 0) ∧ (0 ≤ n ∧ n ≤ 40) then ((beF (fun i => alF (dsF 0 n.toNat (va_up T (cx sp.toNat 1) (lvW T i)))) (fun i => decide (lvW T i ≠ sp)) (lvW T) ((T 0).toNat + 1) (-1, 1000000)).1, T, K, ik, SB, SS, SN, tn, TB, F) else fnd 0 T K ik SB SS SN tn TB F
def m_kindFor (sp n : Int) (T K : Tb) (ik : Int) (SB SS SN : Nat → Int) (tn : Int) (TB F : Nat → Int) : Int × Gs := if (0 ≤ sp ∧ sp < T 0) ∧ (0 ≤ n ∧ n ≤ 40) then ((beF (fun i => lfF (dsF 0 n.toNat (va_up T (cx sp.toNat 0) (i : Int))) sp.toNat) (fun _ => true) (fun i => (i : Int)) 7 (0, 1000000)).1, T, K, ik, SB, SS, SN, tn, TB, F) else fnd 0 T K ik SB SS SN tn TB F
def viF (n : Nat) (sp : Nat) (T : Tb) : Nat → Int
  | 0 => -1
  | v + 1 => if lfF (dsF 0 n (va_up T 3 (v : Int))) sp = 0 then (v : Int) else viF n sp T v
def m_vinegarFor (sp n : Int) (T K : Tb) (ik : Int) (SB SS SN : Nat → Int) (tn : Int) (TB F : Nat → Int) : Int × Gs := if (0 ≤ sp ∧ sp < T 0) ∧ (0 ≤ n ∧ n ≤ 40) then (if 0 ≤ viF n.toNat sp.toNat T 10 then (viF n.toNat sp.toNat T 10, T, K, ik, SB, SS, SN, tn, TB, F) else fnd 3 T K ik SB SS SN tn TB F) else fnd 0 T K ik SB SS SN tn TB F
def m_unsay (n : Int) (T K : Tb) (ik : Int) (SB SS SN : Nat → Int) (tn : Int) (TB F : Nat → Int) : Int × Gs := if 0 ≤ n ∧ n ≤ 40 then ((beF (fun i => alF (dsF 0 n.toNat (va_up T (4 + i) 0))) (fun _ => true) (fun i => (i : Int)) 6 (0, 1000000)).1, T, K, ik, SB, SS, SN, tn, TB, F) else fnd 0 T K ik SB SS SN tn TB F
-- the sets by size, each size by number: the class's way
def bcF (s : Nat) : Nat := s % 2 + s / 2 % 2 + s / 4 % 2 + s / 8 % 2 + s / 16 % 2 + s / 32 % 2 + s / 64 % 2 + s / 128 % 2 + s / 256 % 2
def siG (n sp sz : Nat) (T : Tb) : Nat → Nat → Int
  | 0, _ => -1
  | k + 1, s => if bcF s = sz ∧ lfF (dsF (s : Int) n T) sp = 0 then (s : Int) else siG n sp sz T k (s + 1)
def siF (n sp m : Nat) (T : Tb) : Nat → Nat → Int
  | 0, _ => -1
  | k + 1, sz => if 0 ≤ siG n sp sz T m 0 then siG n sp sz T m 0 else siF n sp m T k (sz + 1)
def m_silence (sp n : Int) (T K : Tb) (ik : Int) (SB SS SN : Nat → Int) (tn : Int) (TB F : Nat → Int) : Int × Gs := if (0 ≤ sp ∧ sp < T 0) ∧ (0 ≤ n ∧ n ≤ 12) then (if 0 ≤ siF n.toNat sp.toNat (2 ^ (T 0).toNat) T ((T 0).toNat + 1) 0 then (siF n.toNat sp.toNat (2 ^ (T 0).toNat) T ((T 0).toNat + 1) 0, T, K, ik, SB, SS, SN, tn, TB, F) else fnd 3 T K ik SB SS SN tn TB F) else fnd 0 T K ik SB SS SN tn TB F
def swV (T : Tb) (n : Nat) (a c : Nat) : Int := alF (dsF 0 n (exF a c T))
def swI1 (T : Tb) (n : Nat) (a : Nat) (c : Nat) (z : Int × Int) : Int × Int := if swV T n a c < z.2 then (8 * (a : Int) + (c : Int), swV T n a c) else z
def swO (T : Tb) (n : Nat) (a : Nat) (z : Int × Int) : Int × Int := run (swI1 T n a) ((T 0).toNat - (a + 1)) (a + 1) z
def m_swapFor (n : Int) (T K : Tb) (ik : Int) (SB SS SN : Nat → Int) (tn : Int) (TB F : Nat → Int) : Int × Gs := if ¬ (0 ≤ n ∧ n ≤ 20) then fnd 0 T K ik SB SS SN tn TB F else if T 0 < 2 then fnd 3 T K ik SB SS SN tn TB F else ((run (swO T n.toNat) (T 0).toNat 0 (0, 1000000)).1, T, K, ik, SB, SS, SN, tn, TB, F)
-- told plates
def toF (SN : Nat → Int) (b sp : Nat) : Nat → Nat → Tb → Bool
  | 0, _, _ => true
  | k + 1, i, T => if SN (b + i) = -1 ∨ SN (b + i) = lfF T sp then toF SN b sp k (i + 1) (dyF 0 T) else false
def waF (SB : Nat → Int) (s : Int) : Int := if ¬ (0 ≤ s ∧ s < 4) then -1000001 else if SB s.toNat = 0 then -1000006 else 0
def wtF (SB : Nat → Int) (n s sp : Int) : Int := if waF SB s ≠ 0 then waF SB s else if 0 ≤ sp ∧ sp < n then 0 else -1000001
def seS (f : Nat → Bool) (i : Nat) (z : Int) : Int := if f i = true then orI z (shlI 1 i) else z
def seF (f : Nat → Bool) (n : Nat) : Int := run (seS f) n 0 (0 : Int)
def fnI (e : Int) (T K : Tb) (ik : Int) (SB SS SN : Nat → Int) (tn : Int) (TB F : Nat → Int) : Int × Gs := (e, T, K, ik, SB, SS, SN, tn, TB, bmp (-1000001 - e).toNat F)
def m_fits (s sp : Int) (T K : Tb) (ik : Int) (SB SS SN : Nat → Int) (tn : Int) (TB F : Nat → Int) : Int × Gs := if wtF SB (T 0) s sp ≠ 0 then fnI (wtF SB (T 0) s sp) T K ik SB SS SN tn TB F else (seF (fun t => toF SN (40 * s.toNat) sp.toNat (SS s.toNat).toNat 0 (va_up T (cx sp.toNat (4 + t)) (min 999 (T (cx sp.toNat (4 + t)) + 1)))) 6, T, K, ik, SB, SS, SN, tn, TB, F)
def m_kinds (s sp : Int) (T K : Tb) (ik : Int) (SB SS SN : Nat → Int) (tn : Int) (TB F : Nat → Int) : Int × Gs := if wtF SB (T 0) s sp ≠ 0 then fnI (wtF SB (T 0) s sp) T K ik SB SS SN tn TB F else (seF (fun kd => toF SN (40 * s.toNat) sp.toNat (SS s.toNat).toNat 0 (va_up T (cx sp.toNat 0) (kd : Int))) 7, T, K, ik, SB, SS, SN, tn, TB, F)
-- talk
def tlS (_ : Nat) (T : Tb) : Tb := dyF 0 (va_up (drF (drF T)) (4 + (ushrI (drF T 2) 8 % 6).toNat) (ushrI (drF (drF T) 2) 8 % 21))
def caF (T : Tb) (p : Nat) : Nat := run (fun t s => if 0 ≤ chF (T (cx p 0)) (t : Int) (T 3) then s + 1 else s) 6 0 (0 : Nat)
def loF (a b : Int) : Nat → Int
  | 0 => a
  | d + 1 => if (2 ≤ d + 1 ∧ a % ((d + 1 : Nat) : Int) = 0 ∧ b % ((d + 1 : Nat) : Int) = 0) then a / ((d + 1 : Nat) : Int) else loF a b d
def pwF (a : Int) (n : Nat) : Int := run (fun _ z => z * a) n 0 (1 : Int)
def m_talk (n : Int) (T K : Tb) (ik : Int) (SB SS SN : Nat → Int) (tn : Int) (TB F : Nat → Int) : Int × Gs := if 1 ≤ n ∧ n ≤ 20 then (alF (run tlS n.toNat 0 T), run tlS n.toNat 0 T, K, ik, SB, SS, SN, tn, TB, F) else fnd 0 T K ik SB SS SN tn TB F
def m_odds (sp n wh : Int) (T K : Tb) (ik : Int) (SB SS SN : Nat → Int) (tn : Int) (TB F : Nat → Int) : Int × Gs := if (0 ≤ sp ∧ sp < T 0) ∧ (0 ≤ n ∧ n ≤ 23) ∧ (0 ≤ wh ∧ wh ≤ 1) then (if wh = 0 then pwF (loF (caF T sp.toNat) 6 6) n.toNat else pwF (loF 6 (caF T sp.toNat) 6) n.toNat, T, K, ik, SB, SS, SN, tn, TB, F) else fnd 0 T K ik SB SS SN tn TB F
def m_seed (v : Int) (T K : Tb) (ik : Int) (SB SS SN : Nat → Int) (tn : Int) (TB F : Nat → Int) : Int × Gs := (T 2, va_up T 2 v, K, ik, SB, SS, SN, tn, TB, F)
-- texts
def fdT (bs : Int) : Nat → Nat → (Nat → Int) → (Nat → Int)
  | 0, _, TB => TB
  | k + 1, c, TB => fdT bs k (c + 1) (va_up TB c (andI (shrI bs (8 * (k : Int))) 255))
def m_feed (bs n : Int) (T K : Tb) (ik : Int) (SB SS SN : Nat → Int) (tn : Int) (TB F : Nat → Int) : Int × Gs := if ¬ (1 ≤ n ∧ n ≤ 4) then fnd 0 T K ik SB SS SN tn TB F else if 120 < tn + n then fnd 1 T K ik SB SS SN tn TB F else (tn + n, T, K, ik, SB, SS, SN, tn + n, fdT bs n.toNat tn.toNat TB, F)
def m_wipe  (T K : Tb) (ik : Int) (SB SS SN : Nat → Int) (tn : Int) (TB F : Nat → Int) : Int × Gs := (tn, T, K, ik, SB, SS, SN, 0, TB, F)
def m_hold (k sp : Int) (T K : Tb) (ik : Int) (SB SS SN : Nat → Int) (tn : Int) (TB F : Nat → Int) : Int × Gs := if (0 ≤ k ∧ k ≤ 9) ∧ (sp = -1 ∨ (0 ≤ sp ∧ sp < T 0)) then (1, va_up T (90 + k.toNat) sp, K, ik, SB, SS, SN, tn, TB, F) else fnd 0 T K ik SB SS SN tn TB F
def unB (own kd : Int) : Bool := decide (kd = 0 ∨ own = kd ∨ (kd = 2 ∧ (own = 3 ∨ own = 4)) ∨ (kd = 3 ∧ own = 4) ∨ (kd = 1 ∧ own = 6))
def m_as (k kd : Int) (T K : Tb) (ik : Int) (SB SS SN : Nat → Int) (tn : Int) (TB F : Nat → Int) : Int × Gs := if ¬ ((0 ≤ k ∧ k ≤ 9) ∧ (0 ≤ kd ∧ kd ≤ 6)) then fnd 0 T K ik SB SS SN tn TB F else if T (90 + k.toNat) < 0 then fnd 5 T K ik SB SS SN tn TB F else if unB (T (cx (T (90 + k.toNat)).toNat 0)) kd = true then (T (90 + k.toNat), T, K, ik, SB, SS, SN, tn, TB, F) else fnd 2 T K ik SB SS SN tn TB F
def zeF (b : Nat) : Nat → Nat → (Nat → Int) → (Nat → Int)
  | 0, _, S => S
  | k + 1, i, S => zeF b k (i + 1) (va_up S (b + i) 0)
def m_sheet (s bt n : Int) (T K : Tb) (ik : Int) (SB SS SN : Nat → Int) (tn : Int) (TB F : Nat → Int) : Int × Gs := if ¬ ((0 ≤ s ∧ s < 4) ∧ (bt = 0 ∨ bt = 8 ∨ bt = 16 ∨ bt = 32)) then fnd 0 T K ik SB SS SN tn TB F else if n < 0 then fnd 6 T K ik SB SS SN tn TB F else if 40 < n then fnd 0 T K ik SB SS SN tn TB F else ((if bt = 0 then 0 else n), T, K, ik, va_up SB s.toNat bt, va_up SS s.toNat (if bt = 0 then 0 else n), zeF (40 * s.toNat) 40 0 SN, tn, TB, F)
def ctF (v bt : Int) : Int := if bt = 8 then byteI v else if bt = 16 then shortI v else v
def m_write (s i v : Int) (T K : Tb) (ik : Int) (SB SS SN : Nat → Int) (tn : Int) (TB F : Nat → Int) : Int × Gs := if waF SB s ≠ 0 then fnI (waF SB s) T K ik SB SS SN tn TB F else if 0 ≤ i ∧ i ≤ SS s.toNat - 1 then (1, T, K, ik, SB, SS, va_up SN (40 * s.toNat + i.toNat) (ctF v (SB s.toNat)), tn, TB, F) else fnd 0 T K ik SB SS SN tn TB F
def m_copy (s a t c n : Int) (T K : Tb) (ik : Int) (SB SS SN : Nat → Int) (tn : Int) (TB F : Nat → Int) : Int × Gs := if ¬ ((0 ≤ s ∧ s < 4) ∧ (0 ≤ t ∧ t < 4)) then fnd 0 T K ik SB SS SN tn TB F else if SB s.toNat = 0 ∨ SB t.toNat = 0 then fnd 5 T K ik SB SS SN tn TB F else if SB s.toNat ≠ SB t.toNat then fnd 2 T K ik SB SS SN tn TB F else if (0 ≤ a ∧ 0 ≤ n ∧ a + n ≤ SS s.toNat) ∧ (0 ≤ c ∧ 0 ≤ n ∧ c + n ≤ SS t.toNat) then (n, T, K, ik, SB, SS, va_cpy SN SN (40 * s.toNat + a.toNat) (40 * t.toNat + c.toNat) n.toNat, tn, TB, F) else fnd 0 T K ik SB SS SN tn TB F
def ldF (SN : Nat → Int) (b : Nat) : Nat → Nat → Tb → Int × Tb
  | 0, i, T => ((i : Int), T)
  | k + 1, i, T => if 0 ≤ SN (b + i) ∧ SN (b + i) ≤ 20 then ldF SN b k (i + 1) (va_up T (4 + i) (SN (b + i))) else ((i : Int), T)
def m_load (s : Int) (T K : Tb) (ik : Int) (SB SS SN : Nat → Int) (tn : Int) (TB F : Nat → Int) : Int × Gs := if waF SB s ≠ 0 then fnI (waF SB s) T K ik SB SS SN tn TB F else ((ldF SN (40 * s.toNat) (min 6 (SS s.toNat)).toNat 0 T).1, (ldF SN (40 * s.toNat) (min 6 (SS s.toNat)).toNat 0 T).2, K, ik, SB, SS, SN, tn, TB, F)
def juF (T : Tb) (SN : Nat → Int) (b : Nat) : Nat → Nat → Int
  | 0, _ => 0
  | k + 1, i => if (i : Int) < T 0 ∧ SN (b + i) = lfF T i then juF T SN b k (i + 1) else 1 + (i : Int)
def m_judge (s : Int) (T K : Tb) (ik : Int) (SB SS SN : Nat → Int) (tn : Int) (TB F : Nat → Int) : Int × Gs := if waF SB s ≠ 0 then fnI (waF SB s) T K ik SB SS SN tn TB F else (juF T SN (40 * s.toNat) (SS s.toNat).toNat 0, T, K, ik, SB, SS, SN, tn, TB, F)
def m_image  (T K : Tb) (ik : Int) (SB SS SN : Nat → Int) (tn : Int) (TB F : Nat → Int) : Int × Gs := (1, T, T, 1, SB, SS, SN, tn, TB, F)
def m_undo  (T K : Tb) (ik : Int) (SB SS SN : Nat → Int) (tn : Int) (TB F : Nat → Int) : Int × Gs := if ik = 0 then fnd 3 T K ik SB SS SN tn TB F else (K 1, K, K, ik, SB, SS, SN, tn, TB, F)
def m_tear  (T K : Tb) (ik : Int) (SB SS SN : Nat → Int) (tn : Int) (TB F : Nat → Int) : Int × Gs := (ik, T, K, 0, SB, SS, SN, tn, TB, F)
def coF (T : Tb) (tn wh : Int) : Int := if wh = 0 then T 1 else if wh = 1 then T 0 else if wh = 2 then alF T else if wh = 3 then smF T 3 else if wh = 4 then smF T 2 else if wh = 5 then tn else if wh = 6 then T 2 else hsF T
def m_count (wh : Int) (T K : Tb) (ik : Int) (SB SS SN : Nat → Int) (tn : Int) (TB F : Nat → Int) : Int × Gs := if 0 ≤ wh ∧ wh ≤ 7 then (coF T tn wh, T, K, ik, SB, SS, SN, tn, TB, F) else fnd 0 T K ik SB SS SN tn TB F
def m_status (wh : Int) (T K : Tb) (ik : Int) (SB SS SN : Nat → Int) (tn : Int) (TB F : Nat → Int) : Int × Gs := if -1 ≤ wh ∧ wh ≤ 6 then (fR F (wh + 1).toNat, T, K, ik, SB, SS, SN, tn, TB, F) else fnd 0 T K ik SB SS SN tn TB F
-- the worlds of whole objects: the class's, the reference's
def wC (cI cB : ClassId) (x f : Nat) (q kq vq h g : Nat → Nat) (G : Gs) (V : Tb) (j : Nat → Int) : va_W :=
  wObj x f q kq vq h g G.2.2.1 ++ (wTab cI q G.1 (j 0) ++ (wTab cI kq G.2.1 (j 1) ++ (wTab cI vq V (j 2) ++ (wSh cI h G.2.2.2.1 G.2.2.2.2.1 G.2.2.2.2.2.1 ++ (wTp cB g G.2.2.2.2.2.2.1 G.2.2.2.2.2.2.2.1 j ++ (wA cI f 7 G.2.2.2.2.2.2.2.2))))))
def wM (cI : ClassId) (r : Nat → Nat) (G : Gs) (X Y : Tb) (j : Nat → Int) : va_W :=
  wRo r G.2.2.1 G.2.2.2.2.2.2.1 j ++ (wA cI (r 1) 100 G.1 ++ (wA cI (r 2) 100 G.2.1 ++ (wA cI (r 3) 100 X ++ (wA cI (r 4) 100 Y ++ (wA cI (r 5) 8 (fR G.2.2.2.2.2.2.2.2) ++ (wA cI (r 6) 120 G.2.2.2.2.2.2.2.1 ++ (wA cI (r 7) 4 (bR G.2.2.2.1) ++ (wA cI (r 8) 4 G.2.2.2.2.1 ++ (wA cI (r 9) 160 G.2.2.2.2.2.1)))))))))
-- what can come to be
def GI (B : Int) (T K : Tb) (ik : Int) (SB SS SN : Nat → Int) (tn : Int) (TB F : Nat → Int) : Prop := Inv B T ∧ (ik = 0 ∨ Inv B K) ∧ (ik = 0 ∨ ik = 1) ∧ (∀ i : Nat, i < 4 → SB i = 0 ∨ SB i = 8 ∨ SB i = 16 ∨ SB i = 32) ∧ (∀ i : Nat, i < 4 → 0 ≤ SS i ∧ SS i ≤ 40) ∧ (∀ i : Nat, i < 160 → rI (SN i)) ∧ (0 ≤ tn ∧ tn ≤ 120) ∧ (∀ i : Nat, i < 120 → 0 ≤ TB i ∧ TB i ≤ 255) ∧ (∀ i : Nat, i < 7 → 0 ≤ F i ∧ F i ≤ B)
def GIp (B : Int) (z : Int × Gs) : Prop := GI B z.2.1 z.2.2.1 z.2.2.2.1 z.2.2.2.2.1 z.2.2.2.2.2.1 z.2.2.2.2.2.2.1 z.2.2.2.2.2.2.2.1 z.2.2.2.2.2.2.2.2.1 z.2.2.2.2.2.2.2.2.2
