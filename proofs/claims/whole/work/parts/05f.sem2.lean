theorem fu_0 {T : Tb} (h : 0 < T 0) (hl : 0 ≤ lfF T 0) : (run (fuS T) ((T 0).toNat - 1) 1 (((0 : Nat) : Int), lfF T 0)).1 = fuF T := by
  unfold fuF
  rw [show (T 0).toNat = ((T 0).toNat - 1) + 1 by omega, run_s]
  congr 2
  unfold fuS
  dsimp only
  rw [if_pos (by omega)]
theorem fu_e {T : Tb} (h : T 0 ≤ 0) : -1 = fuF T := by
  unfold fuF
  rw [show (T 0).toNat = 0 by omega]
  rfl
