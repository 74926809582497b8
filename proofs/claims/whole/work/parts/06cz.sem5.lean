theorem fdR_of {f : Tb → Bool} {r : Int} {F1 : Nat → Int} {T K : Tb} {ik : Int} {SB SS SN : Nat → Int} {tn : Int} {TB F : Nat → Int} (h : (r, F1) = if 0 ≤ fdF f 101 0 T then (fdF f 101 0 T, F) else (-1000004, bmp 3 F)) : (r, T, K, ik, SB, SS, SN, tn, TB, F1) = fdR f T K ik SB SS SN tn TB F := by
  unfold fdR
  split at h
  · cases h
    rw [if_pos (by assumption)]
  · cases h
    rw [if_neg (by assumption)]
    rfl
