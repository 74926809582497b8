/-! constructors -/
section XN
variable {p : Program} {l : Launch} {e : Env} {R : Room} {s : State} {m : MethodId} {args : Array Value} {below : List Frame} {meth : Method} {c : Code} {H : Heap} {locs : List Loc} {cells slots : Nat} {Q : State → Prop}
variable {cc : ByteArray} {pc : Nat} {ls : Array Slot} {rest : List Value} {D : va_G} {ws : va_W} {A : Nat → Prop} {H0 : Heap} {cI cB : ClassId}
theorem x_gd0 (n : Nat) : (fun _ : Nat => (0 : Int32)) = aI (gd n (fun _ => 0)) := by
  funext j
  unfold aI gd
  split <;> rfl
theorem x_cl {cA : ClassId} (h1 : va_K D vwCl ([(cI, .int), (cB, .byte)] ++ [(cA, .int)]) s) : cA = cI := by
  have a : s.vm.findClass ("[" ++ FieldType.int.toString) = some cA := (h1.2 2 _ rfl).2
  have b : s.vm.findClass ("[" ++ FieldType.int.toString) = some cI := (h1.2 0 _ rfl).2
  exact Option.some.inj (a.symm.trans b)
theorem x_clB {cA : ClassId} (h1 : va_K D vwCl ([(cI, .int), (cB, .byte)] ++ [(cA, .byte)]) s) : cA = cB := by
  have a : s.vm.findClass ("[" ++ FieldType.byte.toString) = some cA := (h1.2 2 _ rfl).2
  have b : s.vm.findClass ("[" ++ FieldType.byte.toString) = some cB := (h1.2 1 _ rfl).2
  exact Option.some.inj (a.symm.trans b)
theorem x_newI (hexec : p.tables.exec = Jvm.exec) (hb : c.code = cc) (harr : (Cond.arrayClass .int).before args s = true) (hK : va_K D vwCl [(cI, .int), (cB, .byte)] s) (hP : va_P D vwCl ws H) (hD : va_D A ws) (hS : va_S A H0 H locs) (hA : ∀ q, H0.size ≤ q → A q) {n : Int} (N' : Nat) (hn : n = (N' : Int)) (hlt : N' < 1000) (hcells : cells + 1 ≤ R.cells) (hslots : slots + N' ≤ R.slots) (hdg : decode cc pc = .ok (.newarray .int, 2))
    (kk : ∀ (q : Nat) (H1 : Heap), va_P D vwCl (ws ++ [(q, .inl (cI, N', .inl (aI (gd N' (fun _ => 0)))))]) H1 → va_D A (ws ++ [(q, .inl (cI, N', .inl (aI (gd N' (fun _ => 0)))))]) → va_S A H0 H1 locs → W p l e R s m args below meth c H1 locs (cells + 1) (slots + N') Q (F0 m (pc + 2) ls (.ref q :: rest))) : W p l e R s m args below meth c H locs cells slots Q (F0 m pc ls (.int (iI n) :: rest)) := by
  subst hn
  have r1 : rI (N' : Int) := ⟨by omega, by omega⟩
  refine va_newa (atype := .int) (ty := .int) (a0 := (N', .inl (fun _ => 0))) hexec hb harr rfl hK hP hD hS hA (fun _ => rfl) (fun h => by have h1 := (iI_lt (b := 0) r1 ⟨by omega, by omega⟩).mp h; omega) (by rw [iI_clamp r1]; omega) (by show N' * 4 ≤ _; omega) hcells hslots hdg (fun q cA H1 hK1 p1 p2 p3 => ?_)
  rw [x_cl hK1, x_gd0 N'] at p1 p2
  exact kk q H1 p1 p2 p3
theorem x_newB (hexec : p.tables.exec = Jvm.exec) (hb : c.code = cc) (harr : (Cond.arrayClass .byte).before args s = true) (hK : va_K D vwCl [(cI, .int), (cB, .byte)] s) (hP : va_P D vwCl ws H) (hD : va_D A ws) (hS : va_S A H0 H locs) (hA : ∀ q, H0.size ≤ q → A q) {n : Int} (N' : Nat) (hn : n = (N' : Int)) (hlt : N' < 1000) (hcells : cells + 1 ≤ R.cells) (hslots : slots + N' ≤ R.slots) (hdg : decode cc pc = .ok (.newarray .byte, 2))
    (kk : ∀ (q : Nat) (H1 : Heap), va_P D vwCl (ws ++ [(q, .inl (cB, N', .inl (aI (gd N' (fun _ => 0)))))]) H1 → va_D A (ws ++ [(q, .inl (cB, N', .inl (aI (gd N' (fun _ => 0)))))]) → va_S A H0 H1 locs → W p l e R s m args below meth c H1 locs (cells + 1) (slots + N') Q (F0 m (pc + 2) ls (.ref q :: rest))) : W p l e R s m args below meth c H locs cells slots Q (F0 m pc ls (.int (iI n) :: rest)) := by
  subst hn
  have r1 : rI (N' : Int) := ⟨by omega, by omega⟩
  refine va_newa (atype := .byte) (ty := .byte) (a0 := (N', .inl (fun _ => 0))) hexec hb harr rfl hK hP hD hS hA (fun _ => rfl) (fun h => by have h1 := (iI_lt (b := 0) r1 ⟨by omega, by omega⟩).mp h; omega) (by rw [iI_clamp r1]; omega) (by show N' * 1 ≤ _; omega) hcells hslots hdg (fun q cA H1 hK1 p1 p2 p3 => ?_)
  rw [x_clB hK1, x_gd0 N'] at p1 p2
  exact kk q H1 p1 p2 p3
end XN
-- the start of a table
def tZ : Tb := fun i => if i = 2 ∨ i = 3 then 1 else if 90 ≤ i ∧ i < 100 then -1 else 0
def g0 : Nat → Int := fun _ => 0
theorem tZ_l : gd 6 (fun i => tZ (4 + i)) = gd 6 (fun _ => 0) := gd_congr (fun i hi => by unfold tZ; rw [if_neg (by omega), if_neg (by omega)])
theorem tZ_c {w : Nat} (hw : w < 10) : gd 8 (fun i => tZ (cx i w)) = gd 8 (fun _ => 0) := gd_congr (fun i hi => by unfold tZ cx; rw [if_neg (by omega), if_neg (by omega)])
theorem tZ_p : gd 48 (plG tZ) = gd 48 (fun _ => 0) := gd_congr (fun i hi => by unfold plG tZ cx; rw [if_neg (by omega), if_neg (by omega)])
theorem tZ_s10 : (va_up (va_up (va_up (va_up (va_up (va_up (va_up (va_up (va_up (va_up (gd 10 (fun _ => 0)) 0 (-1)) 1 (-1)) 2 (-1)) 3 (-1)) 4 (-1)) 5 (-1)) 6 (-1)) 7 (-1)) 8 (-1)) 9 (-1)) = gd 10 (fun i => tZ (90 + i)) := by
  funext i
  by_cases h9 : i = 9
  · subst h9; rw [up_s]; decide
  rw [up_n _ _ h9]
  by_cases h8 : i = 8
  · subst h8; rw [up_s]; decide
  rw [up_n _ _ h8]
  by_cases h7 : i = 7
  · subst h7; rw [up_s]; decide
  rw [up_n _ _ h7]
  by_cases h6 : i = 6
  · subst h6; rw [up_s]; decide
  rw [up_n _ _ h6]
  by_cases h5 : i = 5
  · subst h5; rw [up_s]; decide
  rw [up_n _ _ h5]
  by_cases h4 : i = 4
  · subst h4; rw [up_s]; decide
  rw [up_n _ _ h4]
  by_cases h3 : i = 3
  · subst h3; rw [up_s]; decide
  rw [up_n _ _ h3]
  by_cases h2 : i = 2
  · subst h2; rw [up_s]; decide
  rw [up_n _ _ h2]
  by_cases h1 : i = 1
  · subst h1; rw [up_s]; decide
  rw [up_n _ _ h1]
  by_cases h0 : i = 0
  · subst h0; rw [up_s]; decide
  rw [up_n _ _ h0]
  unfold gd
  rw [if_neg (by omega), if_neg (by omega)]
theorem tZ_r100 : (va_up (va_up (va_up (va_up (va_up (va_up (va_up (va_up (va_up (va_up (va_up (va_up (gd 100 (fun _ => 0)) 2 1) 3 1) 90 (-1)) 91 (-1)) 92 (-1)) 93 (-1)) 94 (-1)) 95 (-1)) 96 (-1)) 97 (-1)) 98 (-1)) 99 (-1)) = gd 100 tZ := by
  funext i
  by_cases h99 : i = 99
  · subst h99; rw [up_s]; decide
  rw [up_n _ _ h99]
  by_cases h98 : i = 98
  · subst h98; rw [up_s]; decide
  rw [up_n _ _ h98]
  by_cases h97 : i = 97
  · subst h97; rw [up_s]; decide
  rw [up_n _ _ h97]
  by_cases h96 : i = 96
  · subst h96; rw [up_s]; decide
  rw [up_n _ _ h96]
  by_cases h95 : i = 95
  · subst h95; rw [up_s]; decide
  rw [up_n _ _ h95]
  by_cases h94 : i = 94
  · subst h94; rw [up_s]; decide
  rw [up_n _ _ h94]
  by_cases h93 : i = 93
  · subst h93; rw [up_s]; decide
  rw [up_n _ _ h93]
  by_cases h92 : i = 92
  · subst h92; rw [up_s]; decide
  rw [up_n _ _ h92]
  by_cases h91 : i = 91
  · subst h91; rw [up_s]; decide
  rw [up_n _ _ h91]
  by_cases h90 : i = 90
  · subst h90; rw [up_s]; decide
  rw [up_n _ _ h90]
  by_cases h3 : i = 3
  · subst h3; rw [up_s]; decide
  rw [up_n _ _ h3]
  by_cases h2 : i = 2
  · subst h2; rw [up_s]; decide
  rw [up_n _ _ h2]
  unfold gd tZ
  by_cases h : i < 100
  · rw [if_pos h, if_pos h, if_neg (by omega), if_neg (by omega)]
  · rw [if_neg h, if_neg h]
theorem fR_0 : gd 8 (fR (fun _ => 0)) = gd 8 (fun _ => 0) := gd_congr (fun i hi => by unfold fR; split <;> rfl)
theorem bR_0 : va_up (va_up (va_up (va_up (gd 4 (fun _ => 0)) 0 (-1)) 1 (-1)) 2 (-1)) 3 (-1) = gd 4 (bR (fun _ => 0)) := by
  funext i
  unfold va_up gd bR
  by_cases h3 : i = 3
  · rw [if_pos h3, if_pos (by omega), if_pos rfl]
  rw [if_neg h3]
  by_cases h2 : i = 2
  · rw [if_pos h2, if_pos (by omega), if_pos rfl]
  rw [if_neg h2]
  by_cases h1 : i = 1
  · rw [if_pos h1, if_pos (by omega), if_pos rfl]
  rw [if_neg h1]
  by_cases h0 : i = 0
  · rw [if_pos h0, if_pos (by omega), if_pos rfl]
  rw [if_neg h0, if_neg (by omega), if_neg (by omega)]
def xN (D : va_G) (tys : List (ClassId × FieldType)) (sz : Nat) (w : va_W) (N : State → Prop) : State → Prop := fun U => U.heap.size = sz ∧ va_P D vwCl w U.heap ∧ va_K D vwCl tys U ∧ va_D (fun _ => True) w ∧ N U
def xNp (D : va_G) (tys : List (ClassId × FieldType)) (A : Nat → Prop) {S : Type} (w' : S → va_W) : S → State → Prop := fun u U => va_P D vwCl (w' u) U.heap ∧ va_K D vwCl tys U ∧ va_D A (w' u)
def nT : State → Prop := fun _ => True
def nW : State → Prop := fun U => va_Nw (.methodLinkNest RX4 24 yX1_init "WordSupper") U ∧ va_Nw (.methodLinkNest RX4 31 yX3_init "WordSupper") U

set_option maxRecDepth 20000 in
theorem iN_X2_init_X2 : ∀ w ∈ u_ws RX2 TX2 12, w ∈ wsX2_init := by decide +kernel
theorem ynSX2_init : yX2_init.cls ≠ "java/lang/invoke/MethodHandle" ∧ yX2_init.cls ≠ "java/lang/invoke/VarHandle" ∧ (parseMethodDescriptor yX2_init.desc).map (fun d => d.parameters.length) = some 0 := by decide +kernel
set_option maxHeartbeats 4000000 in
set_option maxRecDepth 100000 in
theorem kX2_init {l : Launch} {D : va_G} {cI cB : ClassId} (a sz : Nat) : Met l yX2_init wsX2_init { frames := 1, cells := 7, slots := 96, locals := 12 } (va_Pc [.ref a] (xN D [(cI, .int), (cB, .byte)] sz [(a, .inr (1, [.int (iI 0), .int (iI 0), .int (iI 0), .int (iI 0), .int (iI 0), .null, .null, .null, .null, .null, .null, .null]))] nT)) (va_Qv (fun u : Nat → Nat => u 0 = a) (xNp D [(cI, .int), (cB, .byte)] (va_A [(a, .inr (1, [.int (iI 0), .int (iI 0), .int (iI 0), .int (iI 0), .int (iI 0), .null, .null, .null, .null, .null, .null, .null]))] sz) (fun u => wTab cI u tZ 0)) (va_A [(a, .inr (1, [.int (iI 0), .int (iI 0), .int (iI 0), .int (iI 0), .int (iI 0), .null, .null, .null, .null, .null, .null, .null]))] sz)) 7 96 (va_A [(a, .inr (1, [.int (iI 0), .int (iI 0), .int (iI 0), .int (iI 0), .int (iI 0), .null, .null, .null, .null, .null, .null, .null]))] sz) := by
  refine Met.ofW (cc := cX2_init) (maxL := 2) (ret := none) (by decide +kernel) rfl ?_
  intro p e s m args below meth c s₁ B hml hv
  obtain ⟨rfl, hsz, hP, hK, hD0, hN⟩ := hv
  have hx := B.exec
  have hb := B.bytes
  have hr := B.returns
  have hts := atoms_spec (ws := wsX2_init) B.pre
  have hown : s.vm.findClass RX2 = some m.cls := findClass_of_methodNamed B.named
  have hlocks := B.notSynchronized
  have hin : meth.name = "<init>" := (name_of_methodNamed B.named B.method).1
  subst hsz
  have hD := hD0.self (sz := s.heap.size)
  generalize hAe : va_A [(a, .inr (1, [.int (iI 0), .int (iI 0), .int (iI 0), .int (iI 0), .int (iI 0), .null, .null, .null, .null, .null, .null, .null]))] s.heap.size = A at hD ⊢
  have hA : ∀ q : Nat, s.heap.size ≤ q → A q := fun q h => by rw [← hAe]; exact Or.inr h
  have hS : va_S A s.heap s.heap [] := va_S.rf
  have hP : va_P D vwCl [(a, .inr (1, [.int (iI 0), .int (iI 0), .int (iI 0), .int (iI 0), .int (iI 0), .null, .null, .null, .null, .null, .null, .null]))] s.heap := hP
  have hl := lv_entry ([.ref a]) (n := 2) (Nat.le_of_ble_eq_true rfl)
  rw [lg_entry_eq]
  generalize (lg_sl ([.ref a]) ++ List.replicate (2 - (lg_sl ([.ref a])).length) Slot.unset).toArray = ls at hl ⊢
  have hl : lv_has ls 2 [(0, .ref a)] := hl
  refine lv_aload_n hx hb dX2_init_0 rfl (lv_at hl 0 rfl) ?_
  refine W.objInit hx hb hown (hts (.methodLink RX2 3 objectInit) (by decide +kernel)) (hts (.instanceMethod objectInit) (by decide +kernel)) (hts (.code objectInit ⟨#[0xb1]⟩ 1 none) (by decide +kernel)) rfl (by rw [hml]; exact hl.1) rfl dX2_init_1 (Nat.le_of_ble_eq_true rfl) (Nat.le_of_ble_eq_true rfl) ?_
  refine W.eq (g2 := F0 m 4 ls []) rfl ?_
  refine lv_aload_n hx hb dX2_init_4 rfl (lv_at hl 0 rfl) ?_
  refine x_iconst hx hb dX2_init_5 ?_
  refine va_put (D := D) (ci := 1) (v := .int (iI 1)) (ty := .int) (C := RX2) (T := TX2) (N := 12) hx hb hts (iN_X2_init_X2) tyX2 tyX2_ok nmX2 hown hK hP hD hS 0 rfl rfl 1 (by decide) (hts (.fieldLink RX2 9 "WordSupper$Table" "vinegar" "I") (by decide +kernel)) (fun _ h9 => h9) rfl (by decide +kernel) rfl rfl (Nat.le_of_ble_eq_true rfl) dX2_init_6 (fun H locs hP hD hS => ?_)
  have hP : va_P D vwCl (([(a, .inr (1, [.int (iI 0), .int (iI 1), .int (iI 0), .int (iI 0), .int (iI 0), .null, .null, .null, .null, .null, .null, .null]))] : va_W)) H := hP
  have hD : va_D A (([(a, .inr (1, [.int (iI 0), .int (iI 1), .int (iI 0), .int (iI 0), .int (iI 0), .null, .null, .null, .null, .null, .null, .null]))] : va_W)) := hD
  refine lv_aload_n hx hb dX2_init_9 rfl (lv_at hl 0 rfl) ?_
  refine x_iconst hx hb dX2_init_10 ?_
  refine va_put (D := D) (ci := 1) (v := .int (iI 1)) (ty := .int) (C := RX2) (T := TX2) (N := 12) hx hb hts (iN_X2_init_X2) tyX2 tyX2_ok nmX2 hown hK hP hD hS 0 rfl rfl 2 (by decide) (hts (.fieldLink RX2 15 "WordSupper$Table" "z" "I") (by decide +kernel)) (fun _ h9 => h9) rfl (by decide +kernel) rfl rfl (Nat.le_of_ble_eq_true rfl) dX2_init_11 (fun H locs hP hD hS => ?_)
  have hP : va_P D vwCl (([(a, .inr (1, [.int (iI 0), .int (iI 1), .int (iI 1), .int (iI 0), .int (iI 0), .null, .null, .null, .null, .null, .null, .null]))] : va_W)) H := hP
  have hD : va_D A (([(a, .inr (1, [.int (iI 0), .int (iI 1), .int (iI 1), .int (iI 0), .int (iI 0), .null, .null, .null, .null, .null, .null, .null]))] : va_W)) := hD
  refine lv_aload_n hx hb dX2_init_14 rfl (lv_at hl 0 rfl) ?_
  refine x_bipush hx hb dX2_init_15 (by decide) ?_
  refine x_newI hx hb (hts (.arrayClass .int) (by decide +kernel)) hK hP hD hS hA 6 rfl (by decide) (Nat.le_of_ble_eq_true rfl) (Nat.le_of_ble_eq_true rfl) dX2_init_17 (fun q1 H hP hD hS => ?_)
  have hP : va_P D vwCl (([(a, .inr (1, [.int (iI 0), .int (iI 1), .int (iI 1), .int (iI 0), .int (iI 0), .null, .null, .null, .null, .null, .null, .null])), (q1, .inl (cI, 6, .inl (aI (gd 6 (fun _ => 0)))))] : va_W)) H := hP
  have hD : va_D A (([(a, .inr (1, [.int (iI 0), .int (iI 1), .int (iI 1), .int (iI 0), .int (iI 0), .null, .null, .null, .null, .null, .null, .null])), (q1, .inl (cI, 6, .inl (aI (gd 6 (fun _ => 0)))))] : va_W)) := hD
  refine W.widen (k := 1) (n := 6) (Nat.le_of_ble_eq_true rfl) (Nat.le_of_ble_eq_true rfl) ?_
  refine va_putF (D := D) (ci := 1) (v := .ref q1) (ty := .array .int) (C := RX2) (T := TX2) (N := 12) hx hb hts (iN_X2_init_X2) tyX2 tyX2_ok nmX2 hown hK hP hD hS 0 rfl rfl 5 (by decide) (hts (.fieldLink RX2 18 "WordSupper$Table" "listed" "[I") (by decide +kernel)) (fun _ h9 => h9) rfl hin rfl (by decide +kernel) rfl rfl (Nat.le_of_ble_eq_true rfl) dX2_init_19 (fun H locs hP hD hS => ?_)
  have hP : va_P D vwCl (([(a, .inr (1, [.int (iI 0), .int (iI 1), .int (iI 1), .int (iI 0), .int (iI 0), .ref q1, .null, .null, .null, .null, .null, .null])), (q1, .inl (cI, 6, .inl (aI (gd 6 (fun _ => 0)))))] : va_W)) H := hP
  have hD : va_D A (([(a, .inr (1, [.int (iI 0), .int (iI 1), .int (iI 1), .int (iI 0), .int (iI 0), .ref q1, .null, .null, .null, .null, .null, .null])), (q1, .inl (cI, 6, .inl (aI (gd 6 (fun _ => 0)))))] : va_W)) := hD
  refine lv_aload_n hx hb dX2_init_22 rfl (lv_at hl 0 rfl) ?_
  refine x_bipush hx hb dX2_init_23 (by decide) ?_
  refine x_newI hx hb (hts (.arrayClass .int) (by decide +kernel)) hK hP hD hS hA 8 rfl (by decide) (Nat.le_of_ble_eq_true rfl) (Nat.le_of_ble_eq_true rfl) dX2_init_25 (fun q2 H hP hD hS => ?_)
  have hP : va_P D vwCl (([(a, .inr (1, [.int (iI 0), .int (iI 1), .int (iI 1), .int (iI 0), .int (iI 0), .ref q1, .null, .null, .null, .null, .null, .null])), (q1, .inl (cI, 6, .inl (aI (gd 6 (fun _ => 0))))), (q2, .inl (cI, 8, .inl (aI (gd 8 (fun _ => 0)))))] : va_W)) H := hP
  have hD : va_D A (([(a, .inr (1, [.int (iI 0), .int (iI 1), .int (iI 1), .int (iI 0), .int (iI 0), .ref q1, .null, .null, .null, .null, .null, .null])), (q1, .inl (cI, 6, .inl (aI (gd 6 (fun _ => 0))))), (q2, .inl (cI, 8, .inl (aI (gd 8 (fun _ => 0)))))] : va_W)) := hD
  refine W.widen (k := 2) (n := 14) (Nat.le_of_ble_eq_true rfl) (Nat.le_of_ble_eq_true rfl) ?_
  refine va_putF (D := D) (ci := 1) (v := .ref q2) (ty := .array .int) (C := RX2) (T := TX2) (N := 12) hx hb hts (iN_X2_init_X2) tyX2 tyX2_ok nmX2 hown hK hP hD hS 0 rfl rfl 6 (by decide) (hts (.fieldLink RX2 22 "WordSupper$Table" "kind" "[I") (by decide +kernel)) (fun _ h9 => h9) rfl hin rfl (by decide +kernel) rfl rfl (Nat.le_of_ble_eq_true rfl) dX2_init_27 (fun H locs hP hD hS => ?_)
  have hP : va_P D vwCl (([(a, .inr (1, [.int (iI 0), .int (iI 1), .int (iI 1), .int (iI 0), .int (iI 0), .ref q1, .ref q2, .null, .null, .null, .null, .null])), (q1, .inl (cI, 6, .inl (aI (gd 6 (fun _ => 0))))), (q2, .inl (cI, 8, .inl (aI (gd 8 (fun _ => 0)))))] : va_W)) H := hP
  have hD : va_D A (([(a, .inr (1, [.int (iI 0), .int (iI 1), .int (iI 1), .int (iI 0), .int (iI 0), .ref q1, .ref q2, .null, .null, .null, .null, .null])), (q1, .inl (cI, 6, .inl (aI (gd 6 (fun _ => 0))))), (q2, .inl (cI, 8, .inl (aI (gd 8 (fun _ => 0)))))] : va_W)) := hD
  refine lv_aload_n hx hb dX2_init_30 rfl (lv_at hl 0 rfl) ?_
  refine x_bipush hx hb dX2_init_31 (by decide) ?_
  refine x_newI hx hb (hts (.arrayClass .int) (by decide +kernel)) hK hP hD hS hA 8 rfl (by decide) (Nat.le_of_ble_eq_true rfl) (Nat.le_of_ble_eq_true rfl) dX2_init_33 (fun q3 H hP hD hS => ?_)
  have hP : va_P D vwCl (([(a, .inr (1, [.int (iI 0), .int (iI 1), .int (iI 1), .int (iI 0), .int (iI 0), .ref q1, .ref q2, .null, .null, .null, .null, .null])), (q1, .inl (cI, 6, .inl (aI (gd 6 (fun _ => 0))))), (q2, .inl (cI, 8, .inl (aI (gd 8 (fun _ => 0))))), (q3, .inl (cI, 8, .inl (aI (gd 8 (fun _ => 0)))))] : va_W)) H := hP
  have hD : va_D A (([(a, .inr (1, [.int (iI 0), .int (iI 1), .int (iI 1), .int (iI 0), .int (iI 0), .ref q1, .ref q2, .null, .null, .null, .null, .null])), (q1, .inl (cI, 6, .inl (aI (gd 6 (fun _ => 0))))), (q2, .inl (cI, 8, .inl (aI (gd 8 (fun _ => 0))))), (q3, .inl (cI, 8, .inl (aI (gd 8 (fun _ => 0)))))] : va_W)) := hD
  refine W.widen (k := 3) (n := 22) (Nat.le_of_ble_eq_true rfl) (Nat.le_of_ble_eq_true rfl) ?_
  refine va_putF (D := D) (ci := 1) (v := .ref q3) (ty := .array .int) (C := RX2) (T := TX2) (N := 12) hx hb hts (iN_X2_init_X2) tyX2 tyX2_ok nmX2 hown hK hP hD hS 0 rfl rfl 7 (by decide) (hts (.fieldLink RX2 25 "WordSupper$Table" "loves" "[I") (by decide +kernel)) (fun _ h9 => h9) rfl hin rfl (by decide +kernel) rfl rfl (Nat.le_of_ble_eq_true rfl) dX2_init_35 (fun H locs hP hD hS => ?_)
  have hP : va_P D vwCl (([(a, .inr (1, [.int (iI 0), .int (iI 1), .int (iI 1), .int (iI 0), .int (iI 0), .ref q1, .ref q2, .ref q3, .null, .null, .null, .null])), (q1, .inl (cI, 6, .inl (aI (gd 6 (fun _ => 0))))), (q2, .inl (cI, 8, .inl (aI (gd 8 (fun _ => 0))))), (q3, .inl (cI, 8, .inl (aI (gd 8 (fun _ => 0)))))] : va_W)) H := hP
  have hD : va_D A (([(a, .inr (1, [.int (iI 0), .int (iI 1), .int (iI 1), .int (iI 0), .int (iI 0), .ref q1, .ref q2, .ref q3, .null, .null, .null, .null])), (q1, .inl (cI, 6, .inl (aI (gd 6 (fun _ => 0))))), (q2, .inl (cI, 8, .inl (aI (gd 8 (fun _ => 0))))), (q3, .inl (cI, 8, .inl (aI (gd 8 (fun _ => 0)))))] : va_W)) := hD
  refine lv_aload_n hx hb dX2_init_38 rfl (lv_at hl 0 rfl) ?_
  refine x_bipush hx hb dX2_init_39 (by decide) ?_
  refine x_newI hx hb (hts (.arrayClass .int) (by decide +kernel)) hK hP hD hS hA 8 rfl (by decide) (Nat.le_of_ble_eq_true rfl) (Nat.le_of_ble_eq_true rfl) dX2_init_41 (fun q4 H hP hD hS => ?_)
  have hP : va_P D vwCl (([(a, .inr (1, [.int (iI 0), .int (iI 1), .int (iI 1), .int (iI 0), .int (iI 0), .ref q1, .ref q2, .ref q3, .null, .null, .null, .null])), (q1, .inl (cI, 6, .inl (aI (gd 6 (fun _ => 0))))), (q2, .inl (cI, 8, .inl (aI (gd 8 (fun _ => 0))))), (q3, .inl (cI, 8, .inl (aI (gd 8 (fun _ => 0))))), (q4, .inl (cI, 8, .inl (aI (gd 8 (fun _ => 0)))))] : va_W)) H := hP
  have hD : va_D A (([(a, .inr (1, [.int (iI 0), .int (iI 1), .int (iI 1), .int (iI 0), .int (iI 0), .ref q1, .ref q2, .ref q3, .null, .null, .null, .null])), (q1, .inl (cI, 6, .inl (aI (gd 6 (fun _ => 0))))), (q2, .inl (cI, 8, .inl (aI (gd 8 (fun _ => 0))))), (q3, .inl (cI, 8, .inl (aI (gd 8 (fun _ => 0))))), (q4, .inl (cI, 8, .inl (aI (gd 8 (fun _ => 0)))))] : va_W)) := hD
  refine W.widen (k := 4) (n := 30) (Nat.le_of_ble_eq_true rfl) (Nat.le_of_ble_eq_true rfl) ?_
  refine va_putF (D := D) (ci := 1) (v := .ref q4) (ty := .array .int) (C := RX2) (T := TX2) (N := 12) hx hb hts (iN_X2_init_X2) tyX2 tyX2_ok nmX2 hown hK hP hD hS 0 rfl rfl 8 (by decide) (hts (.fieldLink RX2 28 "WordSupper$Table" "fat" "[I") (by decide +kernel)) (fun _ h9 => h9) rfl hin rfl (by decide +kernel) rfl rfl (Nat.le_of_ble_eq_true rfl) dX2_init_43 (fun H locs hP hD hS => ?_)
  have hP : va_P D vwCl (([(a, .inr (1, [.int (iI 0), .int (iI 1), .int (iI 1), .int (iI 0), .int (iI 0), .ref q1, .ref q2, .ref q3, .ref q4, .null, .null, .null])), (q1, .inl (cI, 6, .inl (aI (gd 6 (fun _ => 0))))), (q2, .inl (cI, 8, .inl (aI (gd 8 (fun _ => 0))))), (q3, .inl (cI, 8, .inl (aI (gd 8 (fun _ => 0))))), (q4, .inl (cI, 8, .inl (aI (gd 8 (fun _ => 0)))))] : va_W)) H := hP
  have hD : va_D A (([(a, .inr (1, [.int (iI 0), .int (iI 1), .int (iI 1), .int (iI 0), .int (iI 0), .ref q1, .ref q2, .ref q3, .ref q4, .null, .null, .null])), (q1, .inl (cI, 6, .inl (aI (gd 6 (fun _ => 0))))), (q2, .inl (cI, 8, .inl (aI (gd 8 (fun _ => 0))))), (q3, .inl (cI, 8, .inl (aI (gd 8 (fun _ => 0))))), (q4, .inl (cI, 8, .inl (aI (gd 8 (fun _ => 0)))))] : va_W)) := hD
  refine lv_aload_n hx hb dX2_init_46 rfl (lv_at hl 0 rfl) ?_
  refine x_bipush hx hb dX2_init_47 (by decide) ?_
  refine x_newI hx hb (hts (.arrayClass .int) (by decide +kernel)) hK hP hD hS hA 8 rfl (by decide) (Nat.le_of_ble_eq_true rfl) (Nat.le_of_ble_eq_true rfl) dX2_init_49 (fun q5 H hP hD hS => ?_)
  have hP : va_P D vwCl (([(a, .inr (1, [.int (iI 0), .int (iI 1), .int (iI 1), .int (iI 0), .int (iI 0), .ref q1, .ref q2, .ref q3, .ref q4, .null, .null, .null])), (q1, .inl (cI, 6, .inl (aI (gd 6 (fun _ => 0))))), (q2, .inl (cI, 8, .inl (aI (gd 8 (fun _ => 0))))), (q3, .inl (cI, 8, .inl (aI (gd 8 (fun _ => 0))))), (q4, .inl (cI, 8, .inl (aI (gd 8 (fun _ => 0))))), (q5, .inl (cI, 8, .inl (aI (gd 8 (fun _ => 0)))))] : va_W)) H := hP
  have hD : va_D A (([(a, .inr (1, [.int (iI 0), .int (iI 1), .int (iI 1), .int (iI 0), .int (iI 0), .ref q1, .ref q2, .ref q3, .ref q4, .null, .null, .null])), (q1, .inl (cI, 6, .inl (aI (gd 6 (fun _ => 0))))), (q2, .inl (cI, 8, .inl (aI (gd 8 (fun _ => 0))))), (q3, .inl (cI, 8, .inl (aI (gd 8 (fun _ => 0))))), (q4, .inl (cI, 8, .inl (aI (gd 8 (fun _ => 0))))), (q5, .inl (cI, 8, .inl (aI (gd 8 (fun _ => 0)))))] : va_W)) := hD
  refine W.widen (k := 5) (n := 38) (Nat.le_of_ble_eq_true rfl) (Nat.le_of_ble_eq_true rfl) ?_
  refine va_putF (D := D) (ci := 1) (v := .ref q5) (ty := .array .int) (C := RX2) (T := TX2) (N := 12) hx hb hts (iN_X2_init_X2) tyX2 tyX2_ok nmX2 hown hK hP hD hS 0 rfl rfl 9 (by decide) (hts (.fieldLink RX2 31 "WordSupper$Table" "ate" "[I") (by decide +kernel)) (fun _ h9 => h9) rfl hin rfl (by decide +kernel) rfl rfl (Nat.le_of_ble_eq_true rfl) dX2_init_51 (fun H locs hP hD hS => ?_)
  have hP : va_P D vwCl (([(a, .inr (1, [.int (iI 0), .int (iI 1), .int (iI 1), .int (iI 0), .int (iI 0), .ref q1, .ref q2, .ref q3, .ref q4, .ref q5, .null, .null])), (q1, .inl (cI, 6, .inl (aI (gd 6 (fun _ => 0))))), (q2, .inl (cI, 8, .inl (aI (gd 8 (fun _ => 0))))), (q3, .inl (cI, 8, .inl (aI (gd 8 (fun _ => 0))))), (q4, .inl (cI, 8, .inl (aI (gd 8 (fun _ => 0))))), (q5, .inl (cI, 8, .inl (aI (gd 8 (fun _ => 0)))))] : va_W)) H := hP
  have hD : va_D A (([(a, .inr (1, [.int (iI 0), .int (iI 1), .int (iI 1), .int (iI 0), .int (iI 0), .ref q1, .ref q2, .ref q3, .ref q4, .ref q5, .null, .null])), (q1, .inl (cI, 6, .inl (aI (gd 6 (fun _ => 0))))), (q2, .inl (cI, 8, .inl (aI (gd 8 (fun _ => 0))))), (q3, .inl (cI, 8, .inl (aI (gd 8 (fun _ => 0))))), (q4, .inl (cI, 8, .inl (aI (gd 8 (fun _ => 0))))), (q5, .inl (cI, 8, .inl (aI (gd 8 (fun _ => 0)))))] : va_W)) := hD
  refine lv_aload_n hx hb dX2_init_54 rfl (lv_at hl 0 rfl) ?_
  refine x_bipush hx hb dX2_init_55 (by decide) ?_
  refine x_newI hx hb (hts (.arrayClass .int) (by decide +kernel)) hK hP hD hS hA 48 rfl (by decide) (Nat.le_of_ble_eq_true rfl) (Nat.le_of_ble_eq_true rfl) dX2_init_57 (fun q6 H hP hD hS => ?_)
  have hP : va_P D vwCl (([(a, .inr (1, [.int (iI 0), .int (iI 1), .int (iI 1), .int (iI 0), .int (iI 0), .ref q1, .ref q2, .ref q3, .ref q4, .ref q5, .null, .null])), (q1, .inl (cI, 6, .inl (aI (gd 6 (fun _ => 0))))), (q2, .inl (cI, 8, .inl (aI (gd 8 (fun _ => 0))))), (q3, .inl (cI, 8, .inl (aI (gd 8 (fun _ => 0))))), (q4, .inl (cI, 8, .inl (aI (gd 8 (fun _ => 0))))), (q5, .inl (cI, 8, .inl (aI (gd 8 (fun _ => 0))))), (q6, .inl (cI, 48, .inl (aI (gd 48 (fun _ => 0)))))] : va_W)) H := hP
  have hD : va_D A (([(a, .inr (1, [.int (iI 0), .int (iI 1), .int (iI 1), .int (iI 0), .int (iI 0), .ref q1, .ref q2, .ref q3, .ref q4, .ref q5, .null, .null])), (q1, .inl (cI, 6, .inl (aI (gd 6 (fun _ => 0))))), (q2, .inl (cI, 8, .inl (aI (gd 8 (fun _ => 0))))), (q3, .inl (cI, 8, .inl (aI (gd 8 (fun _ => 0))))), (q4, .inl (cI, 8, .inl (aI (gd 8 (fun _ => 0))))), (q5, .inl (cI, 8, .inl (aI (gd 8 (fun _ => 0))))), (q6, .inl (cI, 48, .inl (aI (gd 48 (fun _ => 0)))))] : va_W)) := hD
  refine W.widen (k := 6) (n := 86) (Nat.le_of_ble_eq_true rfl) (Nat.le_of_ble_eq_true rfl) ?_
  refine va_putF (D := D) (ci := 1) (v := .ref q6) (ty := .array .int) (C := RX2) (T := TX2) (N := 12) hx hb hts (iN_X2_init_X2) tyX2 tyX2_ok nmX2 hown hK hP hD hS 0 rfl rfl 10 (by decide) (hts (.fieldLink RX2 34 "WordSupper$Table" "plates" "[I") (by decide +kernel)) (fun _ h9 => h9) rfl hin rfl (by decide +kernel) rfl rfl (Nat.le_of_ble_eq_true rfl) dX2_init_59 (fun H locs hP hD hS => ?_)
  have hP : va_P D vwCl (([(a, .inr (1, [.int (iI 0), .int (iI 1), .int (iI 1), .int (iI 0), .int (iI 0), .ref q1, .ref q2, .ref q3, .ref q4, .ref q5, .ref q6, .null])), (q1, .inl (cI, 6, .inl (aI (gd 6 (fun _ => 0))))), (q2, .inl (cI, 8, .inl (aI (gd 8 (fun _ => 0))))), (q3, .inl (cI, 8, .inl (aI (gd 8 (fun _ => 0))))), (q4, .inl (cI, 8, .inl (aI (gd 8 (fun _ => 0))))), (q5, .inl (cI, 8, .inl (aI (gd 8 (fun _ => 0))))), (q6, .inl (cI, 48, .inl (aI (gd 48 (fun _ => 0)))))] : va_W)) H := hP
  have hD : va_D A (([(a, .inr (1, [.int (iI 0), .int (iI 1), .int (iI 1), .int (iI 0), .int (iI 0), .ref q1, .ref q2, .ref q3, .ref q4, .ref q5, .ref q6, .null])), (q1, .inl (cI, 6, .inl (aI (gd 6 (fun _ => 0))))), (q2, .inl (cI, 8, .inl (aI (gd 8 (fun _ => 0))))), (q3, .inl (cI, 8, .inl (aI (gd 8 (fun _ => 0))))), (q4, .inl (cI, 8, .inl (aI (gd 8 (fun _ => 0))))), (q5, .inl (cI, 8, .inl (aI (gd 8 (fun _ => 0))))), (q6, .inl (cI, 48, .inl (aI (gd 48 (fun _ => 0)))))] : va_W)) := hD
  refine lv_aload_n hx hb dX2_init_62 rfl (lv_at hl 0 rfl) ?_
  refine x_bipush hx hb dX2_init_63 (by decide) ?_
  refine x_newI hx hb (hts (.arrayClass .int) (by decide +kernel)) hK hP hD hS hA 10 rfl (by decide) (Nat.le_of_ble_eq_true rfl) (Nat.le_of_ble_eq_true rfl) dX2_init_65 (fun q7 H hP hD hS => ?_)
  have hP : va_P D vwCl (([(a, .inr (1, [.int (iI 0), .int (iI 1), .int (iI 1), .int (iI 0), .int (iI 0), .ref q1, .ref q2, .ref q3, .ref q4, .ref q5, .ref q6, .null])), (q1, .inl (cI, 6, .inl (aI (gd 6 (fun _ => 0))))), (q2, .inl (cI, 8, .inl (aI (gd 8 (fun _ => 0))))), (q3, .inl (cI, 8, .inl (aI (gd 8 (fun _ => 0))))), (q4, .inl (cI, 8, .inl (aI (gd 8 (fun _ => 0))))), (q5, .inl (cI, 8, .inl (aI (gd 8 (fun _ => 0))))), (q6, .inl (cI, 48, .inl (aI (gd 48 (fun _ => 0))))), (q7, .inl (cI, 10, .inl (aI (gd 10 (fun _ => 0)))))] : va_W)) H := hP
  have hD : va_D A (([(a, .inr (1, [.int (iI 0), .int (iI 1), .int (iI 1), .int (iI 0), .int (iI 0), .ref q1, .ref q2, .ref q3, .ref q4, .ref q5, .ref q6, .null])), (q1, .inl (cI, 6, .inl (aI (gd 6 (fun _ => 0))))), (q2, .inl (cI, 8, .inl (aI (gd 8 (fun _ => 0))))), (q3, .inl (cI, 8, .inl (aI (gd 8 (fun _ => 0))))), (q4, .inl (cI, 8, .inl (aI (gd 8 (fun _ => 0))))), (q5, .inl (cI, 8, .inl (aI (gd 8 (fun _ => 0))))), (q6, .inl (cI, 48, .inl (aI (gd 48 (fun _ => 0))))), (q7, .inl (cI, 10, .inl (aI (gd 10 (fun _ => 0)))))] : va_W)) := hD
  refine W.widen (k := 7) (n := 96) (Nat.le_of_ble_eq_true rfl) (Nat.le_of_ble_eq_true rfl) ?_
  refine va_putF (D := D) (ci := 1) (v := .ref q7) (ty := .array .int) (C := RX2) (T := TX2) (N := 12) hx hb hts (iN_X2_init_X2) tyX2 tyX2_ok nmX2 hown hK hP hD hS 0 rfl rfl 11 (by decide) (hts (.fieldLink RX2 37 "WordSupper$Table" "spots" "[I") (by decide +kernel)) (fun _ h9 => h9) rfl hin rfl (by decide +kernel) rfl rfl (Nat.le_of_ble_eq_true rfl) dX2_init_67 (fun H locs hP hD hS => ?_)
  have hP : va_P D vwCl (([(a, .inr (1, [.int (iI 0), .int (iI 1), .int (iI 1), .int (iI 0), .int (iI 0), .ref q1, .ref q2, .ref q3, .ref q4, .ref q5, .ref q6, .ref q7])), (q1, .inl (cI, 6, .inl (aI (gd 6 (fun _ => 0))))), (q2, .inl (cI, 8, .inl (aI (gd 8 (fun _ => 0))))), (q3, .inl (cI, 8, .inl (aI (gd 8 (fun _ => 0))))), (q4, .inl (cI, 8, .inl (aI (gd 8 (fun _ => 0))))), (q5, .inl (cI, 8, .inl (aI (gd 8 (fun _ => 0))))), (q6, .inl (cI, 48, .inl (aI (gd 48 (fun _ => 0))))), (q7, .inl (cI, 10, .inl (aI (gd 10 (fun _ => 0)))))] : va_W)) H := hP
  have hD : va_D A (([(a, .inr (1, [.int (iI 0), .int (iI 1), .int (iI 1), .int (iI 0), .int (iI 0), .ref q1, .ref q2, .ref q3, .ref q4, .ref q5, .ref q6, .ref q7])), (q1, .inl (cI, 6, .inl (aI (gd 6 (fun _ => 0))))), (q2, .inl (cI, 8, .inl (aI (gd 8 (fun _ => 0))))), (q3, .inl (cI, 8, .inl (aI (gd 8 (fun _ => 0))))), (q4, .inl (cI, 8, .inl (aI (gd 8 (fun _ => 0))))), (q5, .inl (cI, 8, .inl (aI (gd 8 (fun _ => 0))))), (q6, .inl (cI, 48, .inl (aI (gd 48 (fun _ => 0))))), (q7, .inl (cI, 10, .inl (aI (gd 10 (fun _ => 0)))))] : va_W)) := hD
  refine x_iconst hx hb dX2_init_70 ?_
  refine lv_istore_n (lv' := [(1, .int (iI 0)), (0, .ref a)]) hx hb dX2_init_71 rfl hl (by decide) rfl (fun ls hl => ?_)
  refine lv_iload_n hx hb dX2_init_72 rfl (lv_at hl 0 rfl) ?_
  refine x_bipush hx hb dX2_init_73 (by decide) ?_
  refine x_icmp_ge (tgt := 91) hx hb (by decide) (by decide) dX2_init_75 (by decide) (fun c9 => ?_) (fun c9 => ?_)
  · exact absurd c9 (by decide)
  refine lv_aload_n hx hb dX2_init_78 rfl (lv_at hl 1 rfl) ?_
  refine va_get (D := D) (ci := 1) (v := .ref q7) (C := RX2) (T := TX2) (N := 12) hx hb hts (iN_X2_init_X2) hown hK hP 0 rfl rfl 11 (by decide) (hts (.fieldLink RX2 37 "WordSupper$Table" "spots" "[I") (by decide +kernel)) (fun _ h9 => h9) rfl dX2_init_79 ?_
  refine lv_iload_n hx hb dX2_init_82 rfl (lv_at hl 0 rfl) ?_
  refine x_iconst hx hb dX2_init_83 ?_
  refine x_iast hx hb hK hP hD hS 7 0 rfl rfl 0 rfl (by decide) (by decide) (([(a, .inr (1, [.int (iI 0), .int (iI 1), .int (iI 1), .int (iI 0), .int (iI 0), .ref q1, .ref q2, .ref q3, .ref q4, .ref q5, .ref q6, .ref q7])), (q1, .inl (cI, 6, .inl (aI (gd 6 (fun _ => 0))))), (q2, .inl (cI, 8, .inl (aI (gd 8 (fun _ => 0))))), (q3, .inl (cI, 8, .inl (aI (gd 8 (fun _ => 0))))), (q4, .inl (cI, 8, .inl (aI (gd 8 (fun _ => 0))))), (q5, .inl (cI, 8, .inl (aI (gd 8 (fun _ => 0))))), (q6, .inl (cI, 48, .inl (aI (gd 48 (fun _ => 0))))), (q7, .inl (cI, 10, .inl (aI (va_up (gd 10 (fun _ => 0)) 0 (-1)))))] : va_W)) rfl dX2_init_84 (fun H locs hP hD hS => ?_)
  refine x_iinc hx hb 0 1 (by decide) [(1, .int (iI 1)), (0, .ref a)] dX2_init_85 hl rfl (by decide) rfl (fun ls hl => ?_)
  refine lv_goto (tgt := 72) hx hb dX2_init_88 (by decide) ?_
  refine lv_iload_n hx hb dX2_init_72 rfl (lv_at hl 0 rfl) ?_
  refine x_bipush hx hb dX2_init_73 (by decide) ?_
  refine x_icmp_ge (tgt := 91) hx hb (by decide) (by decide) dX2_init_75 (by decide) (fun c9 => ?_) (fun c9 => ?_)
  · exact absurd c9 (by decide)
  refine lv_aload_n hx hb dX2_init_78 rfl (lv_at hl 1 rfl) ?_
  refine va_get (D := D) (ci := 1) (v := .ref q7) (C := RX2) (T := TX2) (N := 12) hx hb hts (iN_X2_init_X2) hown hK hP 0 rfl rfl 11 (by decide) (hts (.fieldLink RX2 37 "WordSupper$Table" "spots" "[I") (by decide +kernel)) (fun _ h9 => h9) rfl dX2_init_79 ?_
  refine lv_iload_n hx hb dX2_init_82 rfl (lv_at hl 0 rfl) ?_
  refine x_iconst hx hb dX2_init_83 ?_
  refine x_iast hx hb hK hP hD hS 7 0 rfl rfl 1 rfl (by decide) (by decide) (([(a, .inr (1, [.int (iI 0), .int (iI 1), .int (iI 1), .int (iI 0), .int (iI 0), .ref q1, .ref q2, .ref q3, .ref q4, .ref q5, .ref q6, .ref q7])), (q1, .inl (cI, 6, .inl (aI (gd 6 (fun _ => 0))))), (q2, .inl (cI, 8, .inl (aI (gd 8 (fun _ => 0))))), (q3, .inl (cI, 8, .inl (aI (gd 8 (fun _ => 0))))), (q4, .inl (cI, 8, .inl (aI (gd 8 (fun _ => 0))))), (q5, .inl (cI, 8, .inl (aI (gd 8 (fun _ => 0))))), (q6, .inl (cI, 48, .inl (aI (gd 48 (fun _ => 0))))), (q7, .inl (cI, 10, .inl (aI (va_up (va_up (gd 10 (fun _ => 0)) 0 (-1)) 1 (-1)))))] : va_W)) rfl dX2_init_84 (fun H locs hP hD hS => ?_)
  refine x_iinc hx hb 0 2 (by decide) [(1, .int (iI 2)), (0, .ref a)] dX2_init_85 hl rfl (by decide) rfl (fun ls hl => ?_)
  refine lv_goto (tgt := 72) hx hb dX2_init_88 (by decide) ?_
  refine lv_iload_n hx hb dX2_init_72 rfl (lv_at hl 0 rfl) ?_
  refine x_bipush hx hb dX2_init_73 (by decide) ?_
  refine x_icmp_ge (tgt := 91) hx hb (by decide) (by decide) dX2_init_75 (by decide) (fun c9 => ?_) (fun c9 => ?_)
  · exact absurd c9 (by decide)
  refine lv_aload_n hx hb dX2_init_78 rfl (lv_at hl 1 rfl) ?_
  refine va_get (D := D) (ci := 1) (v := .ref q7) (C := RX2) (T := TX2) (N := 12) hx hb hts (iN_X2_init_X2) hown hK hP 0 rfl rfl 11 (by decide) (hts (.fieldLink RX2 37 "WordSupper$Table" "spots" "[I") (by decide +kernel)) (fun _ h9 => h9) rfl dX2_init_79 ?_
  refine lv_iload_n hx hb dX2_init_82 rfl (lv_at hl 0 rfl) ?_
  refine x_iconst hx hb dX2_init_83 ?_
  refine x_iast hx hb hK hP hD hS 7 0 rfl rfl 2 rfl (by decide) (by decide) (([(a, .inr (1, [.int (iI 0), .int (iI 1), .int (iI 1), .int (iI 0), .int (iI 0), .ref q1, .ref q2, .ref q3, .ref q4, .ref q5, .ref q6, .ref q7])), (q1, .inl (cI, 6, .inl (aI (gd 6 (fun _ => 0))))), (q2, .inl (cI, 8, .inl (aI (gd 8 (fun _ => 0))))), (q3, .inl (cI, 8, .inl (aI (gd 8 (fun _ => 0))))), (q4, .inl (cI, 8, .inl (aI (gd 8 (fun _ => 0))))), (q5, .inl (cI, 8, .inl (aI (gd 8 (fun _ => 0))))), (q6, .inl (cI, 48, .inl (aI (gd 48 (fun _ => 0))))), (q7, .inl (cI, 10, .inl (aI (va_up (va_up (va_up (gd 10 (fun _ => 0)) 0 (-1)) 1 (-1)) 2 (-1)))))] : va_W)) rfl dX2_init_84 (fun H locs hP hD hS => ?_)
  refine x_iinc hx hb 0 3 (by decide) [(1, .int (iI 3)), (0, .ref a)] dX2_init_85 hl rfl (by decide) rfl (fun ls hl => ?_)
  refine lv_goto (tgt := 72) hx hb dX2_init_88 (by decide) ?_
  refine lv_iload_n hx hb dX2_init_72 rfl (lv_at hl 0 rfl) ?_
  refine x_bipush hx hb dX2_init_73 (by decide) ?_
  refine x_icmp_ge (tgt := 91) hx hb (by decide) (by decide) dX2_init_75 (by decide) (fun c9 => ?_) (fun c9 => ?_)
  · exact absurd c9 (by decide)
  refine lv_aload_n hx hb dX2_init_78 rfl (lv_at hl 1 rfl) ?_
  refine va_get (D := D) (ci := 1) (v := .ref q7) (C := RX2) (T := TX2) (N := 12) hx hb hts (iN_X2_init_X2) hown hK hP 0 rfl rfl 11 (by decide) (hts (.fieldLink RX2 37 "WordSupper$Table" "spots" "[I") (by decide +kernel)) (fun _ h9 => h9) rfl dX2_init_79 ?_
  refine lv_iload_n hx hb dX2_init_82 rfl (lv_at hl 0 rfl) ?_
  refine x_iconst hx hb dX2_init_83 ?_
  refine x_iast hx hb hK hP hD hS 7 0 rfl rfl 3 rfl (by decide) (by decide) (([(a, .inr (1, [.int (iI 0), .int (iI 1), .int (iI 1), .int (iI 0), .int (iI 0), .ref q1, .ref q2, .ref q3, .ref q4, .ref q5, .ref q6, .ref q7])), (q1, .inl (cI, 6, .inl (aI (gd 6 (fun _ => 0))))), (q2, .inl (cI, 8, .inl (aI (gd 8 (fun _ => 0))))), (q3, .inl (cI, 8, .inl (aI (gd 8 (fun _ => 0))))), (q4, .inl (cI, 8, .inl (aI (gd 8 (fun _ => 0))))), (q5, .inl (cI, 8, .inl (aI (gd 8 (fun _ => 0))))), (q6, .inl (cI, 48, .inl (aI (gd 48 (fun _ => 0))))), (q7, .inl (cI, 10, .inl (aI (va_up (va_up (va_up (va_up (gd 10 (fun _ => 0)) 0 (-1)) 1 (-1)) 2 (-1)) 3 (-1)))))] : va_W)) rfl dX2_init_84 (fun H locs hP hD hS => ?_)
  refine x_iinc hx hb 0 4 (by decide) [(1, .int (iI 4)), (0, .ref a)] dX2_init_85 hl rfl (by decide) rfl (fun ls hl => ?_)
  refine lv_goto (tgt := 72) hx hb dX2_init_88 (by decide) ?_
  refine lv_iload_n hx hb dX2_init_72 rfl (lv_at hl 0 rfl) ?_
  refine x_bipush hx hb dX2_init_73 (by decide) ?_
  refine x_icmp_ge (tgt := 91) hx hb (by decide) (by decide) dX2_init_75 (by decide) (fun c9 => ?_) (fun c9 => ?_)
  · exact absurd c9 (by decide)
  refine lv_aload_n hx hb dX2_init_78 rfl (lv_at hl 1 rfl) ?_
  refine va_get (D := D) (ci := 1) (v := .ref q7) (C := RX2) (T := TX2) (N := 12) hx hb hts (iN_X2_init_X2) hown hK hP 0 rfl rfl 11 (by decide) (hts (.fieldLink RX2 37 "WordSupper$Table" "spots" "[I") (by decide +kernel)) (fun _ h9 => h9) rfl dX2_init_79 ?_
  refine lv_iload_n hx hb dX2_init_82 rfl (lv_at hl 0 rfl) ?_
  refine x_iconst hx hb dX2_init_83 ?_
  refine x_iast hx hb hK hP hD hS 7 0 rfl rfl 4 rfl (by decide) (by decide) (([(a, .inr (1, [.int (iI 0), .int (iI 1), .int (iI 1), .int (iI 0), .int (iI 0), .ref q1, .ref q2, .ref q3, .ref q4, .ref q5, .ref q6, .ref q7])), (q1, .inl (cI, 6, .inl (aI (gd 6 (fun _ => 0))))), (q2, .inl (cI, 8, .inl (aI (gd 8 (fun _ => 0))))), (q3, .inl (cI, 8, .inl (aI (gd 8 (fun _ => 0))))), (q4, .inl (cI, 8, .inl (aI (gd 8 (fun _ => 0))))), (q5, .inl (cI, 8, .inl (aI (gd 8 (fun _ => 0))))), (q6, .inl (cI, 48, .inl (aI (gd 48 (fun _ => 0))))), (q7, .inl (cI, 10, .inl (aI (va_up (va_up (va_up (va_up (va_up (gd 10 (fun _ => 0)) 0 (-1)) 1 (-1)) 2 (-1)) 3 (-1)) 4 (-1)))))] : va_W)) rfl dX2_init_84 (fun H locs hP hD hS => ?_)
  refine x_iinc hx hb 0 5 (by decide) [(1, .int (iI 5)), (0, .ref a)] dX2_init_85 hl rfl (by decide) rfl (fun ls hl => ?_)
  refine lv_goto (tgt := 72) hx hb dX2_init_88 (by decide) ?_
  refine lv_iload_n hx hb dX2_init_72 rfl (lv_at hl 0 rfl) ?_
  refine x_bipush hx hb dX2_init_73 (by decide) ?_
  refine x_icmp_ge (tgt := 91) hx hb (by decide) (by decide) dX2_init_75 (by decide) (fun c9 => ?_) (fun c9 => ?_)
  · exact absurd c9 (by decide)
  refine lv_aload_n hx hb dX2_init_78 rfl (lv_at hl 1 rfl) ?_
  refine va_get (D := D) (ci := 1) (v := .ref q7) (C := RX2) (T := TX2) (N := 12) hx hb hts (iN_X2_init_X2) hown hK hP 0 rfl rfl 11 (by decide) (hts (.fieldLink RX2 37 "WordSupper$Table" "spots" "[I") (by decide +kernel)) (fun _ h9 => h9) rfl dX2_init_79 ?_
  refine lv_iload_n hx hb dX2_init_82 rfl (lv_at hl 0 rfl) ?_
  refine x_iconst hx hb dX2_init_83 ?_
  refine x_iast hx hb hK hP hD hS 7 0 rfl rfl 5 rfl (by decide) (by decide) (([(a, .inr (1, [.int (iI 0), .int (iI 1), .int (iI 1), .int (iI 0), .int (iI 0), .ref q1, .ref q2, .ref q3, .ref q4, .ref q5, .ref q6, .ref q7])), (q1, .inl (cI, 6, .inl (aI (gd 6 (fun _ => 0))))), (q2, .inl (cI, 8, .inl (aI (gd 8 (fun _ => 0))))), (q3, .inl (cI, 8, .inl (aI (gd 8 (fun _ => 0))))), (q4, .inl (cI, 8, .inl (aI (gd 8 (fun _ => 0))))), (q5, .inl (cI, 8, .inl (aI (gd 8 (fun _ => 0))))), (q6, .inl (cI, 48, .inl (aI (gd 48 (fun _ => 0))))), (q7, .inl (cI, 10, .inl (aI (va_up (va_up (va_up (va_up (va_up (va_up (gd 10 (fun _ => 0)) 0 (-1)) 1 (-1)) 2 (-1)) 3 (-1)) 4 (-1)) 5 (-1)))))] : va_W)) rfl dX2_init_84 (fun H locs hP hD hS => ?_)
  refine x_iinc hx hb 0 6 (by decide) [(1, .int (iI 6)), (0, .ref a)] dX2_init_85 hl rfl (by decide) rfl (fun ls hl => ?_)
  refine lv_goto (tgt := 72) hx hb dX2_init_88 (by decide) ?_
  refine lv_iload_n hx hb dX2_init_72 rfl (lv_at hl 0 rfl) ?_
  refine x_bipush hx hb dX2_init_73 (by decide) ?_
  refine x_icmp_ge (tgt := 91) hx hb (by decide) (by decide) dX2_init_75 (by decide) (fun c9 => ?_) (fun c9 => ?_)
  · exact absurd c9 (by decide)
  refine lv_aload_n hx hb dX2_init_78 rfl (lv_at hl 1 rfl) ?_
  refine va_get (D := D) (ci := 1) (v := .ref q7) (C := RX2) (T := TX2) (N := 12) hx hb hts (iN_X2_init_X2) hown hK hP 0 rfl rfl 11 (by decide) (hts (.fieldLink RX2 37 "WordSupper$Table" "spots" "[I") (by decide +kernel)) (fun _ h9 => h9) rfl dX2_init_79 ?_
  refine lv_iload_n hx hb dX2_init_82 rfl (lv_at hl 0 rfl) ?_
  refine x_iconst hx hb dX2_init_83 ?_
  refine x_iast hx hb hK hP hD hS 7 0 rfl rfl 6 rfl (by decide) (by decide) (([(a, .inr (1, [.int (iI 0), .int (iI 1), .int (iI 1), .int (iI 0), .int (iI 0), .ref q1, .ref q2, .ref q3, .ref q4, .ref q5, .ref q6, .ref q7])), (q1, .inl (cI, 6, .inl (aI (gd 6 (fun _ => 0))))), (q2, .inl (cI, 8, .inl (aI (gd 8 (fun _ => 0))))), (q3, .inl (cI, 8, .inl (aI (gd 8 (fun _ => 0))))), (q4, .inl (cI, 8, .inl (aI (gd 8 (fun _ => 0))))), (q5, .inl (cI, 8, .inl (aI (gd 8 (fun _ => 0))))), (q6, .inl (cI, 48, .inl (aI (gd 48 (fun _ => 0))))), (q7, .inl (cI, 10, .inl (aI (va_up (va_up (va_up (va_up (va_up (va_up (va_up (gd 10 (fun _ => 0)) 0 (-1)) 1 (-1)) 2 (-1)) 3 (-1)) 4 (-1)) 5 (-1)) 6 (-1)))))] : va_W)) rfl dX2_init_84 (fun H locs hP hD hS => ?_)
  refine x_iinc hx hb 0 7 (by decide) [(1, .int (iI 7)), (0, .ref a)] dX2_init_85 hl rfl (by decide) rfl (fun ls hl => ?_)
  refine lv_goto (tgt := 72) hx hb dX2_init_88 (by decide) ?_
  refine lv_iload_n hx hb dX2_init_72 rfl (lv_at hl 0 rfl) ?_
  refine x_bipush hx hb dX2_init_73 (by decide) ?_
  refine x_icmp_ge (tgt := 91) hx hb (by decide) (by decide) dX2_init_75 (by decide) (fun c9 => ?_) (fun c9 => ?_)
  · exact absurd c9 (by decide)
  refine lv_aload_n hx hb dX2_init_78 rfl (lv_at hl 1 rfl) ?_
  refine va_get (D := D) (ci := 1) (v := .ref q7) (C := RX2) (T := TX2) (N := 12) hx hb hts (iN_X2_init_X2) hown hK hP 0 rfl rfl 11 (by decide) (hts (.fieldLink RX2 37 "WordSupper$Table" "spots" "[I") (by decide +kernel)) (fun _ h9 => h9) rfl dX2_init_79 ?_
  refine lv_iload_n hx hb dX2_init_82 rfl (lv_at hl 0 rfl) ?_
  refine x_iconst hx hb dX2_init_83 ?_
  refine x_iast hx hb hK hP hD hS 7 0 rfl rfl 7 rfl (by decide) (by decide) (([(a, .inr (1, [.int (iI 0), .int (iI 1), .int (iI 1), .int (iI 0), .int (iI 0), .ref q1, .ref q2, .ref q3, .ref q4, .ref q5, .ref q6, .ref q7])), (q1, .inl (cI, 6, .inl (aI (gd 6 (fun _ => 0))))), (q2, .inl (cI, 8, .inl (aI (gd 8 (fun _ => 0))))), (q3, .inl (cI, 8, .inl (aI (gd 8 (fun _ => 0))))), (q4, .inl (cI, 8, .inl (aI (gd 8 (fun _ => 0))))), (q5, .inl (cI, 8, .inl (aI (gd 8 (fun _ => 0))))), (q6, .inl (cI, 48, .inl (aI (gd 48 (fun _ => 0))))), (q7, .inl (cI, 10, .inl (aI (va_up (va_up (va_up (va_up (va_up (va_up (va_up (va_up (gd 10 (fun _ => 0)) 0 (-1)) 1 (-1)) 2 (-1)) 3 (-1)) 4 (-1)) 5 (-1)) 6 (-1)) 7 (-1)))))] : va_W)) rfl dX2_init_84 (fun H locs hP hD hS => ?_)
  refine x_iinc hx hb 0 8 (by decide) [(1, .int (iI 8)), (0, .ref a)] dX2_init_85 hl rfl (by decide) rfl (fun ls hl => ?_)
  refine lv_goto (tgt := 72) hx hb dX2_init_88 (by decide) ?_
  refine lv_iload_n hx hb dX2_init_72 rfl (lv_at hl 0 rfl) ?_
  refine x_bipush hx hb dX2_init_73 (by decide) ?_
  refine x_icmp_ge (tgt := 91) hx hb (by decide) (by decide) dX2_init_75 (by decide) (fun c9 => ?_) (fun c9 => ?_)
  · exact absurd c9 (by decide)
  refine lv_aload_n hx hb dX2_init_78 rfl (lv_at hl 1 rfl) ?_
  refine va_get (D := D) (ci := 1) (v := .ref q7) (C := RX2) (T := TX2) (N := 12) hx hb hts (iN_X2_init_X2) hown hK hP 0 rfl rfl 11 (by decide) (hts (.fieldLink RX2 37 "WordSupper$Table" "spots" "[I") (by decide +kernel)) (fun _ h9 => h9) rfl dX2_init_79 ?_
  refine lv_iload_n hx hb dX2_init_82 rfl (lv_at hl 0 rfl) ?_
  refine x_iconst hx hb dX2_init_83 ?_
  refine x_iast hx hb hK hP hD hS 7 0 rfl rfl 8 rfl (by decide) (by decide) (([(a, .inr (1, [.int (iI 0), .int (iI 1), .int (iI 1), .int (iI 0), .int (iI 0), .ref q1, .ref q2, .ref q3, .ref q4, .ref q5, .ref q6, .ref q7])), (q1, .inl (cI, 6, .inl (aI (gd 6 (fun _ => 0))))), (q2, .inl (cI, 8, .inl (aI (gd 8 (fun _ => 0))))), (q3, .inl (cI, 8, .inl (aI (gd 8 (fun _ => 0))))), (q4, .inl (cI, 8, .inl (aI (gd 8 (fun _ => 0))))), (q5, .inl (cI, 8, .inl (aI (gd 8 (fun _ => 0))))), (q6, .inl (cI, 48, .inl (aI (gd 48 (fun _ => 0))))), (q7, .inl (cI, 10, .inl (aI (va_up (va_up (va_up (va_up (va_up (va_up (va_up (va_up (va_up (gd 10 (fun _ => 0)) 0 (-1)) 1 (-1)) 2 (-1)) 3 (-1)) 4 (-1)) 5 (-1)) 6 (-1)) 7 (-1)) 8 (-1)))))] : va_W)) rfl dX2_init_84 (fun H locs hP hD hS => ?_)
  refine x_iinc hx hb 0 9 (by decide) [(1, .int (iI 9)), (0, .ref a)] dX2_init_85 hl rfl (by decide) rfl (fun ls hl => ?_)
  refine lv_goto (tgt := 72) hx hb dX2_init_88 (by decide) ?_
  refine lv_iload_n hx hb dX2_init_72 rfl (lv_at hl 0 rfl) ?_
  refine x_bipush hx hb dX2_init_73 (by decide) ?_
  refine x_icmp_ge (tgt := 91) hx hb (by decide) (by decide) dX2_init_75 (by decide) (fun c9 => ?_) (fun c9 => ?_)
  · exact absurd c9 (by decide)
  refine lv_aload_n hx hb dX2_init_78 rfl (lv_at hl 1 rfl) ?_
  refine va_get (D := D) (ci := 1) (v := .ref q7) (C := RX2) (T := TX2) (N := 12) hx hb hts (iN_X2_init_X2) hown hK hP 0 rfl rfl 11 (by decide) (hts (.fieldLink RX2 37 "WordSupper$Table" "spots" "[I") (by decide +kernel)) (fun _ h9 => h9) rfl dX2_init_79 ?_
  refine lv_iload_n hx hb dX2_init_82 rfl (lv_at hl 0 rfl) ?_
  refine x_iconst hx hb dX2_init_83 ?_
  refine x_iast hx hb hK hP hD hS 7 0 rfl rfl 9 rfl (by decide) (by decide) (([(a, .inr (1, [.int (iI 0), .int (iI 1), .int (iI 1), .int (iI 0), .int (iI 0), .ref q1, .ref q2, .ref q3, .ref q4, .ref q5, .ref q6, .ref q7])), (q1, .inl (cI, 6, .inl (aI (gd 6 (fun _ => 0))))), (q2, .inl (cI, 8, .inl (aI (gd 8 (fun _ => 0))))), (q3, .inl (cI, 8, .inl (aI (gd 8 (fun _ => 0))))), (q4, .inl (cI, 8, .inl (aI (gd 8 (fun _ => 0))))), (q5, .inl (cI, 8, .inl (aI (gd 8 (fun _ => 0))))), (q6, .inl (cI, 48, .inl (aI (gd 48 (fun _ => 0))))), (q7, .inl (cI, 10, .inl (aI (va_up (va_up (va_up (va_up (va_up (va_up (va_up (va_up (va_up (va_up (gd 10 (fun _ => 0)) 0 (-1)) 1 (-1)) 2 (-1)) 3 (-1)) 4 (-1)) 5 (-1)) 6 (-1)) 7 (-1)) 8 (-1)) 9 (-1)))))] : va_W)) rfl dX2_init_84 (fun H locs hP hD hS => ?_)
  refine x_iinc hx hb 0 10 (by decide) [(1, .int (iI 10)), (0, .ref a)] dX2_init_85 hl rfl (by decide) rfl (fun ls hl => ?_)
  refine lv_goto (tgt := 72) hx hb dX2_init_88 (by decide) ?_
  refine lv_iload_n hx hb dX2_init_72 rfl (lv_at hl 0 rfl) ?_
  refine x_bipush hx hb dX2_init_73 (by decide) ?_
  refine x_icmp_ge (tgt := 91) hx hb (by decide) (by decide) dX2_init_75 (by decide) (fun c9 => ?_) (fun c9 => ?_)
  rotate_left
  · exact absurd c9 (by decide)
  refine W.widen (k := 7) (n := 96) (Nat.le_of_ble_eq_true rfl) (Nat.le_of_ble_eq_true rfl) ?_
  have e9 : wTab cI (fun i => [a, q1, q2, q3, q4, q5, q6, q7].getD i 0) tZ 0 = [(a, .inr (1, [.int (iI 0), .int (iI 1), .int (iI 1), .int (iI 0), .int (iI 0), .ref q1, .ref q2, .ref q3, .ref q4, .ref q5, .ref q6, .ref q7])), (q1, .inl (cI, 6, .inl (aI (gd 6 (fun _ => 0))))), (q2, .inl (cI, 8, .inl (aI (gd 8 (fun _ => 0))))), (q3, .inl (cI, 8, .inl (aI (gd 8 (fun _ => 0))))), (q4, .inl (cI, 8, .inl (aI (gd 8 (fun _ => 0))))), (q5, .inl (cI, 8, .inl (aI (gd 8 (fun _ => 0))))), (q6, .inl (cI, 48, .inl (aI (gd 48 (fun _ => 0))))), (q7, .inl (cI, 10, .inl (aI (gd 10 (fun i => tZ (90 + i))))))] := by
    unfold wTab
    rw [tZ_l, tZ_c (w := 0) (by decide), tZ_c (w := 1) (by decide), tZ_c (w := 2) (by decide), tZ_c (w := 3) (by decide), tZ_p]
    rfl
  rw [tZ_s10] at hP hD
  have hP9 := hP
  have hD9 := hD
  rw [← e9] at hP9 hD9
  exact W.vret hx hb hr (fun t ht hW => ⟨⟨(fun i => [a, q1, q2, q3, q4, q5, q6, q7].getD i 0), rfl, rfl, by rw [ht]; exact hP9, va_K.moved hW.alike hK, hD9⟩, hS.F ht⟩) hS.2.2 dX2_init_91
set_option maxRecDepth 20000 in
theorem iN_X1_init_X1 : ∀ w ∈ u_ws RX1 TX1 3, w ∈ wsX1_init := by decide +kernel
theorem ynSX1_init : yX1_init.cls ≠ "java/lang/invoke/MethodHandle" ∧ yX1_init.cls ≠ "java/lang/invoke/VarHandle" ∧ (parseMethodDescriptor yX1_init.desc).map (fun d => d.parameters.length) = some 0 := by decide +kernel
set_option maxHeartbeats 4000000 in
set_option maxRecDepth 100000 in
theorem kX1_init {l : Launch} {D : va_G} {cI cB : ClassId} (a sz : Nat) : Met l yX1_init wsX1_init { frames := 1, cells := 3, slots := 168, locals := 12 } (va_Pc [.ref a] (xN D [(cI, .int), (cB, .byte)] sz [(a, .inr (0, [.null, .null, .null]))] nT)) (va_Qv (fun u : Nat → Nat => u 0 = a) (xNp D [(cI, .int), (cB, .byte)] (va_A [(a, .inr (0, [.null, .null, .null]))] sz) (fun u => wSh cI u g0 g0 g0)) (va_A [(a, .inr (0, [.null, .null, .null]))] sz)) 3 168 (va_A [(a, .inr (0, [.null, .null, .null]))] sz) := by
  refine Met.ofW (cc := cX1_init) (maxL := 1) (ret := none) (by decide +kernel) rfl ?_
  intro p e s m args below meth c s₁ B hml hv
  obtain ⟨rfl, hsz, hP, hK, hD0, hN⟩ := hv
  have hx := B.exec
  have hb := B.bytes
  have hr := B.returns
  have hts := atoms_spec (ws := wsX1_init) B.pre
  have hown : s.vm.findClass RX1 = some m.cls := findClass_of_methodNamed B.named
  have hlocks := B.notSynchronized
  have hin : meth.name = "<init>" := (name_of_methodNamed B.named B.method).1
  subst hsz
  have hD := hD0.self (sz := s.heap.size)
  generalize hAe : va_A [(a, .inr (0, [.null, .null, .null]))] s.heap.size = A at hD ⊢
  have hA : ∀ q : Nat, s.heap.size ≤ q → A q := fun q h => by rw [← hAe]; exact Or.inr h
  have hS : va_S A s.heap s.heap [] := va_S.rf
  have hP : va_P D vwCl [(a, .inr (0, [.null, .null, .null]))] s.heap := hP
  have hl := lv_entry ([.ref a]) (n := 1) (Nat.le_of_ble_eq_true rfl)
  rw [lg_entry_eq]
  generalize (lg_sl ([.ref a]) ++ List.replicate (1 - (lg_sl ([.ref a])).length) Slot.unset).toArray = ls at hl ⊢
  have hl : lv_has ls 1 [(0, .ref a)] := hl
  refine lv_aload_n hx hb dX1_init_0 rfl (lv_at hl 0 rfl) ?_
  refine W.objInit hx hb hown (hts (.methodLink RX1 1 objectInit) (by decide +kernel)) (hts (.instanceMethod objectInit) (by decide +kernel)) (hts (.code objectInit ⟨#[0xb1]⟩ 1 none) (by decide +kernel)) rfl (by rw [hml]; exact hl.1) rfl dX1_init_1 (Nat.le_of_ble_eq_true rfl) (Nat.le_of_ble_eq_true rfl) ?_
  refine W.eq (g2 := F0 m 4 ls []) rfl ?_
  refine lv_aload_n hx hb dX1_init_4 rfl (lv_at hl 0 rfl) ?_
  refine x_iconst hx hb dX1_init_5 ?_
  refine x_newI hx hb (hts (.arrayClass .int) (by decide +kernel)) hK hP hD hS hA 4 rfl (by decide) (Nat.le_of_ble_eq_true rfl) (Nat.le_of_ble_eq_true rfl) dX1_init_6 (fun q1 H hP hD hS => ?_)
  have hP : va_P D vwCl (([(a, .inr (0, [.null, .null, .null])), (q1, .inl (cI, 4, .inl (aI (gd 4 (fun _ => 0)))))] : va_W)) H := hP
  have hD : va_D A (([(a, .inr (0, [.null, .null, .null])), (q1, .inl (cI, 4, .inl (aI (gd 4 (fun _ => 0)))))] : va_W)) := hD
  refine W.widen (k := 1) (n := 4) (Nat.le_of_ble_eq_true rfl) (Nat.le_of_ble_eq_true rfl) ?_
  refine va_putF (D := D) (ci := 0) (v := .ref q1) (ty := .array .int) (C := RX1) (T := TX1) (N := 3) hx hb hts (iN_X1_init_X1) tyX1 tyX1_ok nmX1 hown hK hP hD hS 0 rfl rfl 0 (by decide) (hts (.fieldLink RX1 9 "WordSupper$Sheets" "bits" "[I") (by decide +kernel)) (fun _ h9 => h9) rfl hin rfl (by decide +kernel) rfl rfl (Nat.le_of_ble_eq_true rfl) dX1_init_8 (fun H locs hP hD hS => ?_)
  have hP : va_P D vwCl (([(a, .inr (0, [.ref q1, .null, .null])), (q1, .inl (cI, 4, .inl (aI (gd 4 (fun _ => 0)))))] : va_W)) H := hP
  have hD : va_D A (([(a, .inr (0, [.ref q1, .null, .null])), (q1, .inl (cI, 4, .inl (aI (gd 4 (fun _ => 0)))))] : va_W)) := hD
  refine lv_aload_n hx hb dX1_init_11 rfl (lv_at hl 0 rfl) ?_
  refine x_iconst hx hb dX1_init_12 ?_
  refine x_newI hx hb (hts (.arrayClass .int) (by decide +kernel)) hK hP hD hS hA 4 rfl (by decide) (Nat.le_of_ble_eq_true rfl) (Nat.le_of_ble_eq_true rfl) dX1_init_13 (fun q2 H hP hD hS => ?_)
  have hP : va_P D vwCl (([(a, .inr (0, [.ref q1, .null, .null])), (q1, .inl (cI, 4, .inl (aI (gd 4 (fun _ => 0))))), (q2, .inl (cI, 4, .inl (aI (gd 4 (fun _ => 0)))))] : va_W)) H := hP
  have hD : va_D A (([(a, .inr (0, [.ref q1, .null, .null])), (q1, .inl (cI, 4, .inl (aI (gd 4 (fun _ => 0))))), (q2, .inl (cI, 4, .inl (aI (gd 4 (fun _ => 0)))))] : va_W)) := hD
  refine W.widen (k := 2) (n := 8) (Nat.le_of_ble_eq_true rfl) (Nat.le_of_ble_eq_true rfl) ?_
  refine va_putF (D := D) (ci := 0) (v := .ref q2) (ty := .array .int) (C := RX1) (T := TX1) (N := 3) hx hb hts (iN_X1_init_X1) tyX1 tyX1_ok nmX1 hown hK hP hD hS 0 rfl rfl 1 (by decide) (hts (.fieldLink RX1 13 "WordSupper$Sheets" "size" "[I") (by decide +kernel)) (fun _ h9 => h9) rfl hin rfl (by decide +kernel) rfl rfl (Nat.le_of_ble_eq_true rfl) dX1_init_15 (fun H locs hP hD hS => ?_)
  have hP : va_P D vwCl (([(a, .inr (0, [.ref q1, .ref q2, .null])), (q1, .inl (cI, 4, .inl (aI (gd 4 (fun _ => 0))))), (q2, .inl (cI, 4, .inl (aI (gd 4 (fun _ => 0)))))] : va_W)) H := hP
  have hD : va_D A (([(a, .inr (0, [.ref q1, .ref q2, .null])), (q1, .inl (cI, 4, .inl (aI (gd 4 (fun _ => 0))))), (q2, .inl (cI, 4, .inl (aI (gd 4 (fun _ => 0)))))] : va_W)) := hD
  refine lv_aload_n hx hb dX1_init_18 rfl (lv_at hl 0 rfl) ?_
  refine x_sipush hx hb dX1_init_19 (by decide) ?_
  refine x_newI hx hb (hts (.arrayClass .int) (by decide +kernel)) hK hP hD hS hA 160 rfl (by decide) (Nat.le_of_ble_eq_true rfl) (Nat.le_of_ble_eq_true rfl) dX1_init_22 (fun q3 H hP hD hS => ?_)
  have hP : va_P D vwCl (([(a, .inr (0, [.ref q1, .ref q2, .null])), (q1, .inl (cI, 4, .inl (aI (gd 4 (fun _ => 0))))), (q2, .inl (cI, 4, .inl (aI (gd 4 (fun _ => 0))))), (q3, .inl (cI, 160, .inl (aI (gd 160 (fun _ => 0)))))] : va_W)) H := hP
  have hD : va_D A (([(a, .inr (0, [.ref q1, .ref q2, .null])), (q1, .inl (cI, 4, .inl (aI (gd 4 (fun _ => 0))))), (q2, .inl (cI, 4, .inl (aI (gd 4 (fun _ => 0))))), (q3, .inl (cI, 160, .inl (aI (gd 160 (fun _ => 0)))))] : va_W)) := hD
  refine W.widen (k := 3) (n := 168) (Nat.le_of_ble_eq_true rfl) (Nat.le_of_ble_eq_true rfl) ?_
  refine va_putF (D := D) (ci := 0) (v := .ref q3) (ty := .array .int) (C := RX1) (T := TX1) (N := 3) hx hb hts (iN_X1_init_X1) tyX1 tyX1_ok nmX1 hown hK hP hD hS 0 rfl rfl 2 (by decide) (hts (.fieldLink RX1 16 "WordSupper$Sheets" "numbers" "[I") (by decide +kernel)) (fun _ h9 => h9) rfl hin rfl (by decide +kernel) rfl rfl (Nat.le_of_ble_eq_true rfl) dX1_init_24 (fun H locs hP hD hS => ?_)
  have hP : va_P D vwCl (([(a, .inr (0, [.ref q1, .ref q2, .ref q3])), (q1, .inl (cI, 4, .inl (aI (gd 4 (fun _ => 0))))), (q2, .inl (cI, 4, .inl (aI (gd 4 (fun _ => 0))))), (q3, .inl (cI, 160, .inl (aI (gd 160 (fun _ => 0)))))] : va_W)) H := hP
  have hD : va_D A (([(a, .inr (0, [.ref q1, .ref q2, .ref q3])), (q1, .inl (cI, 4, .inl (aI (gd 4 (fun _ => 0))))), (q2, .inl (cI, 4, .inl (aI (gd 4 (fun _ => 0))))), (q3, .inl (cI, 160, .inl (aI (gd 160 (fun _ => 0)))))] : va_W)) := hD
  refine W.widen (k := 3) (n := 168) (Nat.le_of_ble_eq_true rfl) (Nat.le_of_ble_eq_true rfl) ?_
  have hP9 : va_P D vwCl (wSh cI (fun i => [a, q1, q2, q3].getD i 0) g0 g0 g0) H := hP
  have hD9 : va_D A (wSh cI (fun i => [a, q1, q2, q3].getD i 0) g0 g0 g0) := hD
  exact W.vret hx hb hr (fun t ht hW => ⟨⟨(fun i => [a, q1, q2, q3].getD i 0), rfl, rfl, by rw [ht]; exact hP9, va_K.moved hW.alike hK, hD9⟩, hS.F ht⟩) hS.2.2 dX1_init_27
set_option maxRecDepth 20000 in
theorem iN_X3_init_X3 : ∀ w ∈ u_ws RX3 TX3 6, w ∈ wsX3_init := by decide +kernel
theorem ynSX3_init : yX3_init.cls ≠ "java/lang/invoke/MethodHandle" ∧ yX3_init.cls ≠ "java/lang/invoke/VarHandle" ∧ (parseMethodDescriptor yX3_init.desc).map (fun d => d.parameters.length) = some 0 := by decide +kernel
set_option maxHeartbeats 4000000 in
set_option maxRecDepth 100000 in
theorem kX3_init {l : Launch} {D : va_G} {cI cB : ClassId} (a sz : Nat) : Met l yX3_init wsX3_init { frames := 1, cells := 1, slots := 120, locals := 12 } (va_Pc [.ref a] (xN D [(cI, .int), (cB, .byte)] sz [(a, .inr (2, [.int (iI 0), .null, .int (iI 0), .int (iI 0), .int (iI 0), .int (iI 0)]))] nT)) (va_Qv (fun u : Nat → Nat => u 0 = a) (xNp D [(cI, .int), (cB, .byte)] (va_A [(a, .inr (2, [.int (iI 0), .null, .int (iI 0), .int (iI 0), .int (iI 0), .int (iI 0)]))] sz) (fun u => wTp cB u 0 g0 g0)) (va_A [(a, .inr (2, [.int (iI 0), .null, .int (iI 0), .int (iI 0), .int (iI 0), .int (iI 0)]))] sz)) 1 120 (va_A [(a, .inr (2, [.int (iI 0), .null, .int (iI 0), .int (iI 0), .int (iI 0), .int (iI 0)]))] sz) := by
  refine Met.ofW (cc := cX3_init) (maxL := 1) (ret := none) (by decide +kernel) rfl ?_
  intro p e s m args below meth c s₁ B hml hv
  obtain ⟨rfl, hsz, hP, hK, hD0, hN⟩ := hv
  have hx := B.exec
  have hb := B.bytes
  have hr := B.returns
  have hts := atoms_spec (ws := wsX3_init) B.pre
  have hown : s.vm.findClass RX3 = some m.cls := findClass_of_methodNamed B.named
  have hlocks := B.notSynchronized
  have hin : meth.name = "<init>" := (name_of_methodNamed B.named B.method).1
  subst hsz
  have hD := hD0.self (sz := s.heap.size)
  generalize hAe : va_A [(a, .inr (2, [.int (iI 0), .null, .int (iI 0), .int (iI 0), .int (iI 0), .int (iI 0)]))] s.heap.size = A at hD ⊢
  have hA : ∀ q : Nat, s.heap.size ≤ q → A q := fun q h => by rw [← hAe]; exact Or.inr h
  have hS : va_S A s.heap s.heap [] := va_S.rf
  have hP : va_P D vwCl [(a, .inr (2, [.int (iI 0), .null, .int (iI 0), .int (iI 0), .int (iI 0), .int (iI 0)]))] s.heap := hP
  have hl := lv_entry ([.ref a]) (n := 1) (Nat.le_of_ble_eq_true rfl)
  rw [lg_entry_eq]
  generalize (lg_sl ([.ref a]) ++ List.replicate (1 - (lg_sl ([.ref a])).length) Slot.unset).toArray = ls at hl ⊢
  have hl : lv_has ls 1 [(0, .ref a)] := hl
  refine lv_aload_n hx hb dX3_init_0 rfl (lv_at hl 0 rfl) ?_
  refine W.objInit hx hb hown (hts (.methodLink RX3 3 objectInit) (by decide +kernel)) (hts (.instanceMethod objectInit) (by decide +kernel)) (hts (.code objectInit ⟨#[0xb1]⟩ 1 none) (by decide +kernel)) rfl (by rw [hml]; exact hl.1) rfl dX3_init_1 (Nat.le_of_ble_eq_true rfl) (Nat.le_of_ble_eq_true rfl) ?_
  refine W.eq (g2 := F0 m 4 ls []) rfl ?_
  refine lv_aload_n hx hb dX3_init_4 rfl (lv_at hl 0 rfl) ?_
  refine x_bipush hx hb dX3_init_5 (by decide) ?_
  refine x_newB hx hb (hts (.arrayClass .byte) (by decide +kernel)) hK hP hD hS hA 120 rfl (by decide) (Nat.le_of_ble_eq_true rfl) (Nat.le_of_ble_eq_true rfl) dX3_init_7 (fun q1 H hP hD hS => ?_)
  have hP : va_P D vwCl (([(a, .inr (2, [.int (iI 0), .null, .int (iI 0), .int (iI 0), .int (iI 0), .int (iI 0)])), (q1, .inl (cB, 120, .inl (aI (gd 120 (fun _ => 0)))))] : va_W)) H := hP
  have hD : va_D A (([(a, .inr (2, [.int (iI 0), .null, .int (iI 0), .int (iI 0), .int (iI 0), .int (iI 0)])), (q1, .inl (cB, 120, .inl (aI (gd 120 (fun _ => 0)))))] : va_W)) := hD
  refine W.widen (k := 1) (n := 120) (Nat.le_of_ble_eq_true rfl) (Nat.le_of_ble_eq_true rfl) ?_
  refine va_putF (D := D) (ci := 2) (v := .ref q1) (ty := .array .byte) (C := RX3) (T := TX3) (N := 6) hx hb hts (iN_X3_init_X3) tyX3 tyX3_ok nmX3 hown hK hP hD hS 0 rfl rfl 1 (by decide) (hts (.fieldLink RX3 11 "WordSupper$Tape" "bytes" "[B") (by decide +kernel)) (fun _ h9 => h9) rfl hin rfl (by decide +kernel) rfl rfl (Nat.le_of_ble_eq_true rfl) dX3_init_9 (fun H locs hP hD hS => ?_)
  have hP : va_P D vwCl (([(a, .inr (2, [.int (iI 0), .ref q1, .int (iI 0), .int (iI 0), .int (iI 0), .int (iI 0)])), (q1, .inl (cB, 120, .inl (aI (gd 120 (fun _ => 0)))))] : va_W)) H := hP
  have hD : va_D A (([(a, .inr (2, [.int (iI 0), .ref q1, .int (iI 0), .int (iI 0), .int (iI 0), .int (iI 0)])), (q1, .inl (cB, 120, .inl (aI (gd 120 (fun _ => 0)))))] : va_W)) := hD
  refine W.widen (k := 1) (n := 120) (Nat.le_of_ble_eq_true rfl) (Nat.le_of_ble_eq_true rfl) ?_
  have e9 : aI (gd 120 (fun i => sgB (g0 i))) = aI (gd 120 (fun _ => 0)) := rfl
  have hP9 : va_P D vwCl (wTp cB (fun i => [a, q1].getD i 0) 0 g0 g0) H := hP
  have hD9 : va_D A (wTp cB (fun i => [a, q1].getD i 0) 0 g0 g0) := hD
  exact W.vret hx hb hr (fun t ht hW => ⟨⟨(fun i => [a, q1].getD i 0), rfl, rfl, by rw [ht]; exact hP9, va_K.moved hW.alike hK, hD9⟩, hS.F ht⟩) hS.2.2 dX3_init_12
set_option maxRecDepth 20000 in
theorem iN_X4_init_X1 : ∀ w ∈ u_ws RX1 TX1 3, w ∈ wsX4_init := by decide +kernel
set_option maxRecDepth 20000 in
theorem iN_X4_init_X2 : ∀ w ∈ u_ws RX2 TX2 12, w ∈ wsX4_init := by decide +kernel
set_option maxRecDepth 20000 in
theorem iN_X4_init_X3 : ∀ w ∈ u_ws RX3 TX3 6, w ∈ wsX4_init := by decide +kernel
set_option maxRecDepth 20000 in
theorem iN_X4_init_X4 : ∀ w ∈ u_ws RX4 TX4 7, w ∈ wsX4_init := by decide +kernel
theorem ynSX4_init : yX4_init.cls ≠ "java/lang/invoke/MethodHandle" ∧ yX4_init.cls ≠ "java/lang/invoke/VarHandle" ∧ (parseMethodDescriptor yX4_init.desc).map (fun d => d.parameters.length) = some 0 := by decide +kernel
set_option maxHeartbeats 4000000 in
set_option maxRecDepth 100000 in
theorem kX4_init {l : Launch} {D : va_G} {cI cB : ClassId} (a sz : Nat) : Met l yX4_init wsX4_init { frames := 2, cells := 31, slots := 628, locals := 33 } (va_Pc [.ref a] (xN D [(cI, .int), (cB, .byte)] sz [(a, .inr (3, [.null, .null, .null, .null, .null, .null, .int (iI 0)]))] nW)) (va_Qv (fun _ : Nat × (Nat → Nat) × (Nat → Nat) × (Nat → Nat) × (Nat → Nat) × (Nat → Nat) => True) (xNp D [(cI, .int), (cB, .byte)] (va_A [(a, .inr (3, [.null, .null, .null, .null, .null, .null, .int (iI 0)]))] sz) (fun u => wC cI cB a u.1 u.2.1 u.2.2.1 u.2.2.2.1 u.2.2.2.2.1 u.2.2.2.2.2 (tZ, tZ, 0, g0, g0, g0, 0, g0, g0) tZ g0)) (va_A [(a, .inr (3, [.null, .null, .null, .null, .null, .null, .int (iI 0)]))] sz)) 31 628 (va_A [(a, .inr (3, [.null, .null, .null, .null, .null, .null, .int (iI 0)]))] sz) := by
  refine Met.ofW (cc := cX4_init) (maxL := 1) (ret := none) (by decide +kernel) rfl ?_
  intro p e s m args below meth c s₁ B hml hv
  obtain ⟨rfl, hsz, hP, hK, hD0, hN⟩ := hv
  have hx := B.exec
  have hb := B.bytes
  have hr := B.returns
  have hts := atoms_spec (ws := wsX4_init) B.pre
  have hown : s.vm.findClass RX4 = some m.cls := findClass_of_methodNamed B.named
  have hlocks := B.notSynchronized
  have hin : meth.name = "<init>" := (name_of_methodNamed B.named B.method).1
  subst hsz
  have hD := hD0.self (sz := s.heap.size)
  generalize hAe : va_A [(a, .inr (3, [.null, .null, .null, .null, .null, .null, .int (iI 0)]))] s.heap.size = A at hD ⊢
  have hA : ∀ q : Nat, s.heap.size ≤ q → A q := fun q h => by rw [← hAe]; exact Or.inr h
  have hS : va_S A s.heap s.heap [] := va_S.rf
  have hP : va_P D vwCl [(a, .inr (3, [.null, .null, .null, .null, .null, .null, .int (iI 0)]))] s.heap := hP
  have hl := lv_entry ([.ref a]) (n := 1) (Nat.le_of_ble_eq_true rfl)
  rw [lg_entry_eq]
  generalize (lg_sl ([.ref a]) ++ List.replicate (1 - (lg_sl ([.ref a])).length) Slot.unset).toArray = ls at hl ⊢
  have hl : lv_has ls 1 [(0, .ref a)] := hl
  refine lv_aload_n hx hb dX4_init_0 rfl (lv_at hl 0 rfl) ?_
  refine W.objInit hx hb hown (hts (.methodLink RX4 1 objectInit) (by decide +kernel)) (hts (.instanceMethod objectInit) (by decide +kernel)) (hts (.code objectInit ⟨#[0xb1]⟩ 1 none) (by decide +kernel)) rfl (by rw [hml]; exact hl.1) rfl dX4_init_1 (Nat.le_of_ble_eq_true rfl) (Nat.le_of_ble_eq_true rfl) ?_
  refine W.eq (g2 := F0 m 4 ls []) rfl ?_
  refine lv_aload_n hx hb dX4_init_4 rfl (lv_at hl 0 rfl) ?_
  refine va_new (ci := 1) (fs := [.int (iI 0), .int (iI 0), .int (iI 0), .int (iI 0), .int (iI 0), .null, .null, .null, .null, .null, .null, .null]) (C := RX2) (T := TX2) (N := 12) hx hb hts (iN_X4_init_X2) tyX2 tyX2_ok hown (hts (.classLink RX4 7 RX2) (by decide +kernel)) (hts (.instantiable RX2 12) (by decide +kernel)) (hts (.initialized RX2) (by decide +kernel)) hK hP hD hS hA rfl (fun j hj => by rcases (show j = 0 ∨ j = 1 ∨ j = 2 ∨ j = 3 ∨ j = 4 ∨ j = 5 ∨ j = 6 ∨ j = 7 ∨ j = 8 ∨ j = 9 ∨ j = 10 ∨ j = 11 by omega) with rfl | rfl | rfl | rfl | rfl | rfl | rfl | rfl | rfl | rfl | rfl | rfl <;> rfl) (Nat.le_of_ble_eq_true rfl) (Nat.le_of_ble_eq_true rfl) dX4_init_5 (fun q1 H hP hD hS => ?_)
  have hP : va_P D vwCl (([(a, .inr (3, [.null, .null, .null, .null, .null, .null, .int (iI 0)])), (q1, .inr (1, [.int (iI 0), .int (iI 0), .int (iI 0), .int (iI 0), .int (iI 0), .null, .null, .null, .null, .null, .null, .null]))] : va_W)) H := hP
  have hD : va_D A (([(a, .inr (3, [.null, .null, .null, .null, .null, .null, .int (iI 0)])), (q1, .inr (1, [.int (iI 0), .int (iI 0), .int (iI 0), .int (iI 0), .int (iI 0), .null, .null, .null, .null, .null, .null, .null]))] : va_W)) := hD
  refine W.widen (k := 1) (n := 12) (Nat.le_of_ble_eq_true rfl) (Nat.le_of_ble_eq_true rfl) ?_
  refine lv_dup hx hb dX4_init_8 rfl ?_
  have hPc := hP.sub (ws' := [(q1, .inr (1, [.int (iI 0), .int (iI 0), .int (iI 0), .int (iI 0), .int (iI 0), .null, .null, .null, .null, .null, .null, .null]))]) [1] rfl
  have hDc := hD.sub (ws' := [(q1, .inr (1, [.int (iI 0), .int (iI 0), .int (iI 0), .int (iI 0), .int (iI 0), .null, .null, .null, .null, .null, .null, .null]))]) [1] (by decide) rfl
  have hFc := va_free (wc := [(q1, .inr (1, [.int (iI 0), .int (iI 0), .int (iI 0), .int (iI 0), .int (iI 0), .null, .null, .null, .null, .null, .null, .null]))]) hD hS hA [1] rfl
  refine va_callv (va_runI (As := []) (rest := [.ref q1, .ref a]) ⟨hx, hb, hml, hown, hts⟩ (kX2_init q1 H.size) (cwI 0 hts gX4_init_X2_init rfl rfl rfl (hts (.initialized RX2) (by decide +kernel)) (hts (.methodLink RX4 9 yX2_init) (by decide +kernel)) (hts (.instanceMethod yX2_init) (by decide +kernel)) rfl ynSX2_init ⟨Nat.le_of_ble_eq_true rfl, Nat.le_of_ble_eq_true rfl⟩) ⟨fun a U g mk q => ⟨q.1, q.2.1, q.2.2.1, va_K.moved (u := U) (U := U.calling g mk a) (Vm.Alike.refl U.vm) q.2.2.2.1, q.2.2.2.2.1, trivial⟩, fun U hU hW => ⟨rfl, by rw [hU], by rw [hU]; exact hPc, va_K.moved hW.alike hK, hDc.weaken (fun _ _ _ _ => trivial), trivial⟩⟩ rfl rfl hl.1 rfl (lv_room (Nat.le_of_ble_eq_true rfl)) dX4_init_9 ⟨Nat.le_of_ble_eq_true rfl, Nat.le_of_ble_eq_true rfl⟩) hS (fun q _ h => hFc q h) hFc (fun u1 t H1 locs ht hvm hw hB hz1 hk1 hS => ?_)
  have hw : u1 0 = q1 := hw
  subst hw
  obtain ⟨hP1, hK1, hD1⟩ := hB
  rw [ht] at hP1
  obtain ⟨hP, hD⟩ := va_join (wr := ([(a, .inr (3, [.null, .null, .null, .null, .null, .null, .int (iI 0)]))] : va_W)) (w1 := wTab cI u1 tZ 0) hP hD [1] [0] rfl rfl (by decide) (by decide) hk1 hFc hP1 hD1
  generalize H1 = H at hP hS ⊢
  have hP : va_P D vwCl (([(a, .inr (3, [.null, .null, .null, .null, .null, .null, .int (iI 0)]))] : va_W) ++ ((wTab cI u1 tZ 0 : va_W))) H := hP
  have hD : va_D A (([(a, .inr (3, [.null, .null, .null, .null, .null, .null, .int (iI 0)]))] : va_W) ++ ((wTab cI u1 tZ 0 : va_W))) := hD
  refine W.widen (k := 8) (n := 108) (Nat.le_of_ble_eq_true rfl) (Nat.le_of_ble_eq_true rfl) ?_
  refine W.eq (g2 := F0 m 12 ls [.ref (u1 0), .ref a]) rfl ?_
  refine va_putF (D := D) (ci := 3) (v := .ref (u1 0)) (ty := .object "WordSupper$Table") (C := RX4) (T := TX4) (N := 7) hx hb hts (iN_X4_init_X4) tyX4 tyX4_ok nmX4 hown hK hP hD hS 0 rfl rfl 0 (by decide) (hts (.fieldLink RX4 10 "WordSupper" "table" "LWordSupper$Table;") (by decide +kernel)) (fun _ h9 => h9) rfl hin rfl (by decide +kernel) rfl rfl (Nat.le_of_ble_eq_true rfl) dX4_init_12 (fun H locs hP hD hS => ?_)
  have hP : va_P D vwCl (([(a, .inr (3, [.ref (u1 0), .null, .null, .null, .null, .null, .int (iI 0)]))] : va_W) ++ ((wTab cI u1 tZ 0 : va_W))) H := hP
  have hD : va_D A (([(a, .inr (3, [.ref (u1 0), .null, .null, .null, .null, .null, .int (iI 0)]))] : va_W) ++ ((wTab cI u1 tZ 0 : va_W))) := hD
  refine lv_aload_n hx hb dX4_init_15 rfl (lv_at hl 0 rfl) ?_
  refine va_new (ci := 1) (fs := [.int (iI 0), .int (iI 0), .int (iI 0), .int (iI 0), .int (iI 0), .null, .null, .null, .null, .null, .null, .null]) (C := RX2) (T := TX2) (N := 12) hx hb hts (iN_X4_init_X2) tyX2 tyX2_ok hown (hts (.classLink RX4 7 RX2) (by decide +kernel)) (hts (.instantiable RX2 12) (by decide +kernel)) (hts (.initialized RX2) (by decide +kernel)) hK hP hD hS hA rfl (fun j hj => by rcases (show j = 0 ∨ j = 1 ∨ j = 2 ∨ j = 3 ∨ j = 4 ∨ j = 5 ∨ j = 6 ∨ j = 7 ∨ j = 8 ∨ j = 9 ∨ j = 10 ∨ j = 11 by omega) with rfl | rfl | rfl | rfl | rfl | rfl | rfl | rfl | rfl | rfl | rfl | rfl <;> rfl) (Nat.le_of_ble_eq_true rfl) (Nat.le_of_ble_eq_true rfl) dX4_init_16 (fun q2 H hP hD hS => ?_)
  have hP : va_P D vwCl (([(a, .inr (3, [.ref (u1 0), .null, .null, .null, .null, .null, .int (iI 0)]))] : va_W) ++ ((wTab cI u1 tZ 0 : va_W) ++ (([(q2, .inr (1, [.int (iI 0), .int (iI 0), .int (iI 0), .int (iI 0), .int (iI 0), .null, .null, .null, .null, .null, .null, .null]))] : va_W)))) H := hP
  have hD : va_D A (([(a, .inr (3, [.ref (u1 0), .null, .null, .null, .null, .null, .int (iI 0)]))] : va_W) ++ ((wTab cI u1 tZ 0 : va_W) ++ (([(q2, .inr (1, [.int (iI 0), .int (iI 0), .int (iI 0), .int (iI 0), .int (iI 0), .null, .null, .null, .null, .null, .null, .null]))] : va_W)))) := hD
  refine W.widen (k := 9) (n := 120) (Nat.le_of_ble_eq_true rfl) (Nat.le_of_ble_eq_true rfl) ?_
  refine lv_dup hx hb dX4_init_19 rfl ?_
  have hPc := hP.sub (ws' := [(q2, .inr (1, [.int (iI 0), .int (iI 0), .int (iI 0), .int (iI 0), .int (iI 0), .null, .null, .null, .null, .null, .null, .null]))]) [9] rfl
  have hDc := hD.sub (ws' := [(q2, .inr (1, [.int (iI 0), .int (iI 0), .int (iI 0), .int (iI 0), .int (iI 0), .null, .null, .null, .null, .null, .null, .null]))]) [9] (by decide) rfl
  have hFc := va_free (wc := [(q2, .inr (1, [.int (iI 0), .int (iI 0), .int (iI 0), .int (iI 0), .int (iI 0), .null, .null, .null, .null, .null, .null, .null]))]) hD hS hA [9] rfl
  refine va_callv (va_runI (As := []) (rest := [.ref q2, .ref a]) ⟨hx, hb, hml, hown, hts⟩ (kX2_init q2 H.size) (cwI 0 hts gX4_init_X2_init rfl rfl rfl (hts (.initialized RX2) (by decide +kernel)) (hts (.methodLink RX4 9 yX2_init) (by decide +kernel)) (hts (.instanceMethod yX2_init) (by decide +kernel)) rfl ynSX2_init ⟨Nat.le_of_ble_eq_true rfl, Nat.le_of_ble_eq_true rfl⟩) ⟨fun a U g mk q => ⟨q.1, q.2.1, q.2.2.1, va_K.moved (u := U) (U := U.calling g mk a) (Vm.Alike.refl U.vm) q.2.2.2.1, q.2.2.2.2.1, trivial⟩, fun U hU hW => ⟨rfl, by rw [hU], by rw [hU]; exact hPc, va_K.moved hW.alike hK, hDc.weaken (fun _ _ _ _ => trivial), trivial⟩⟩ rfl rfl hl.1 rfl (lv_room (Nat.le_of_ble_eq_true rfl)) dX4_init_20 ⟨Nat.le_of_ble_eq_true rfl, Nat.le_of_ble_eq_true rfl⟩) hS (fun q _ h => hFc q h) hFc (fun u2 t H1 locs ht hvm hw hB hz1 hk1 hS => ?_)
  have hw : u2 0 = q2 := hw
  subst hw
  obtain ⟨hP1, hK1, hD1⟩ := hB
  rw [ht] at hP1
  obtain ⟨hP, hD⟩ := va_join (wr := ([(a, .inr (3, [.ref (u1 0), .null, .null, .null, .null, .null, .int (iI 0)]))] : va_W) ++ ((wTab cI u1 tZ 0 : va_W))) (w1 := wTab cI u2 tZ 0) hP hD [9] [0, 1, 2, 3, 4, 5, 6, 7, 8] rfl rfl (by decide) (by decide) hk1 hFc hP1 hD1
  generalize H1 = H at hP hS ⊢
  have hP : va_P D vwCl (([(a, .inr (3, [.ref (u1 0), .null, .null, .null, .null, .null, .int (iI 0)]))] : va_W) ++ ((wTab cI u1 tZ 0 : va_W) ++ ((wTab cI u2 tZ 0 : va_W)))) H := hP
  have hD : va_D A (([(a, .inr (3, [.ref (u1 0), .null, .null, .null, .null, .null, .int (iI 0)]))] : va_W) ++ ((wTab cI u1 tZ 0 : va_W) ++ ((wTab cI u2 tZ 0 : va_W)))) := hD
  refine W.widen (k := 16) (n := 216) (Nat.le_of_ble_eq_true rfl) (Nat.le_of_ble_eq_true rfl) ?_
  refine W.eq (g2 := F0 m 23 ls [.ref (u2 0), .ref a]) rfl ?_
  refine va_putF (D := D) (ci := 3) (v := .ref (u2 0)) (ty := .object "WordSupper$Table") (C := RX4) (T := TX4) (N := 7) hx hb hts (iN_X4_init_X4) tyX4 tyX4_ok nmX4 hown hK hP hD hS 0 rfl rfl 1 (by decide) (hts (.fieldLink RX4 16 "WordSupper" "kept" "LWordSupper$Table;") (by decide +kernel)) (fun _ h9 => h9) rfl hin rfl (by decide +kernel) rfl rfl (Nat.le_of_ble_eq_true rfl) dX4_init_23 (fun H locs hP hD hS => ?_)
  have hP : va_P D vwCl (([(a, .inr (3, [.ref (u1 0), .ref (u2 0), .null, .null, .null, .null, .int (iI 0)]))] : va_W) ++ ((wTab cI u1 tZ 0 : va_W) ++ ((wTab cI u2 tZ 0 : va_W)))) H := hP
  have hD : va_D A (([(a, .inr (3, [.ref (u1 0), .ref (u2 0), .null, .null, .null, .null, .int (iI 0)]))] : va_W) ++ ((wTab cI u1 tZ 0 : va_W) ++ ((wTab cI u2 tZ 0 : va_W)))) := hD
  refine lv_aload_n hx hb dX4_init_26 rfl (lv_at hl 0 rfl) ?_
  refine va_new (ci := 1) (fs := [.int (iI 0), .int (iI 0), .int (iI 0), .int (iI 0), .int (iI 0), .null, .null, .null, .null, .null, .null, .null]) (C := RX2) (T := TX2) (N := 12) hx hb hts (iN_X4_init_X2) tyX2 tyX2_ok hown (hts (.classLink RX4 7 RX2) (by decide +kernel)) (hts (.instantiable RX2 12) (by decide +kernel)) (hts (.initialized RX2) (by decide +kernel)) hK hP hD hS hA rfl (fun j hj => by rcases (show j = 0 ∨ j = 1 ∨ j = 2 ∨ j = 3 ∨ j = 4 ∨ j = 5 ∨ j = 6 ∨ j = 7 ∨ j = 8 ∨ j = 9 ∨ j = 10 ∨ j = 11 by omega) with rfl | rfl | rfl | rfl | rfl | rfl | rfl | rfl | rfl | rfl | rfl | rfl <;> rfl) (Nat.le_of_ble_eq_true rfl) (Nat.le_of_ble_eq_true rfl) dX4_init_27 (fun q3 H hP hD hS => ?_)
  have hP : va_P D vwCl (([(a, .inr (3, [.ref (u1 0), .ref (u2 0), .null, .null, .null, .null, .int (iI 0)]))] : va_W) ++ ((wTab cI u1 tZ 0 : va_W) ++ ((wTab cI u2 tZ 0 : va_W) ++ (([(q3, .inr (1, [.int (iI 0), .int (iI 0), .int (iI 0), .int (iI 0), .int (iI 0), .null, .null, .null, .null, .null, .null, .null]))] : va_W))))) H := hP
  have hD : va_D A (([(a, .inr (3, [.ref (u1 0), .ref (u2 0), .null, .null, .null, .null, .int (iI 0)]))] : va_W) ++ ((wTab cI u1 tZ 0 : va_W) ++ ((wTab cI u2 tZ 0 : va_W) ++ (([(q3, .inr (1, [.int (iI 0), .int (iI 0), .int (iI 0), .int (iI 0), .int (iI 0), .null, .null, .null, .null, .null, .null, .null]))] : va_W))))) := hD
  refine W.widen (k := 17) (n := 228) (Nat.le_of_ble_eq_true rfl) (Nat.le_of_ble_eq_true rfl) ?_
  refine lv_dup hx hb dX4_init_30 rfl ?_
  have hPc := hP.sub (ws' := [(q3, .inr (1, [.int (iI 0), .int (iI 0), .int (iI 0), .int (iI 0), .int (iI 0), .null, .null, .null, .null, .null, .null, .null]))]) [17] rfl
  have hDc := hD.sub (ws' := [(q3, .inr (1, [.int (iI 0), .int (iI 0), .int (iI 0), .int (iI 0), .int (iI 0), .null, .null, .null, .null, .null, .null, .null]))]) [17] (by decide) rfl
  have hFc := va_free (wc := [(q3, .inr (1, [.int (iI 0), .int (iI 0), .int (iI 0), .int (iI 0), .int (iI 0), .null, .null, .null, .null, .null, .null, .null]))]) hD hS hA [17] rfl
  refine va_callv (va_runI (As := []) (rest := [.ref q3, .ref a]) ⟨hx, hb, hml, hown, hts⟩ (kX2_init q3 H.size) (cwI 0 hts gX4_init_X2_init rfl rfl rfl (hts (.initialized RX2) (by decide +kernel)) (hts (.methodLink RX4 9 yX2_init) (by decide +kernel)) (hts (.instanceMethod yX2_init) (by decide +kernel)) rfl ynSX2_init ⟨Nat.le_of_ble_eq_true rfl, Nat.le_of_ble_eq_true rfl⟩) ⟨fun a U g mk q => ⟨q.1, q.2.1, q.2.2.1, va_K.moved (u := U) (U := U.calling g mk a) (Vm.Alike.refl U.vm) q.2.2.2.1, q.2.2.2.2.1, trivial⟩, fun U hU hW => ⟨rfl, by rw [hU], by rw [hU]; exact hPc, va_K.moved hW.alike hK, hDc.weaken (fun _ _ _ _ => trivial), trivial⟩⟩ rfl rfl hl.1 rfl (lv_room (Nat.le_of_ble_eq_true rfl)) dX4_init_31 ⟨Nat.le_of_ble_eq_true rfl, Nat.le_of_ble_eq_true rfl⟩) hS (fun q _ h => hFc q h) hFc (fun u3 t H1 locs ht hvm hw hB hz1 hk1 hS => ?_)
  have hw : u3 0 = q3 := hw
  subst hw
  obtain ⟨hP1, hK1, hD1⟩ := hB
  rw [ht] at hP1
  obtain ⟨hP, hD⟩ := va_join (wr := ([(a, .inr (3, [.ref (u1 0), .ref (u2 0), .null, .null, .null, .null, .int (iI 0)]))] : va_W) ++ ((wTab cI u1 tZ 0 : va_W) ++ ((wTab cI u2 tZ 0 : va_W)))) (w1 := wTab cI u3 tZ 0) hP hD [17] [0, 1, 2, 3, 4, 5, 6, 7, 8, 9, 10, 11, 12, 13, 14, 15, 16] rfl rfl (by decide) (by decide) hk1 hFc hP1 hD1
  generalize H1 = H at hP hS ⊢
  have hP : va_P D vwCl (([(a, .inr (3, [.ref (u1 0), .ref (u2 0), .null, .null, .null, .null, .int (iI 0)]))] : va_W) ++ ((wTab cI u1 tZ 0 : va_W) ++ ((wTab cI u2 tZ 0 : va_W) ++ ((wTab cI u3 tZ 0 : va_W))))) H := hP
  have hD : va_D A (([(a, .inr (3, [.ref (u1 0), .ref (u2 0), .null, .null, .null, .null, .int (iI 0)]))] : va_W) ++ ((wTab cI u1 tZ 0 : va_W) ++ ((wTab cI u2 tZ 0 : va_W) ++ ((wTab cI u3 tZ 0 : va_W))))) := hD
  refine W.widen (k := 24) (n := 324) (Nat.le_of_ble_eq_true rfl) (Nat.le_of_ble_eq_true rfl) ?_
  refine W.eq (g2 := F0 m 34 ls [.ref (u3 0), .ref a]) rfl ?_
  refine va_putF (D := D) (ci := 3) (v := .ref (u3 0)) (ty := .object "WordSupper$Table") (C := RX4) (T := TX4) (N := 7) hx hb hts (iN_X4_init_X4) tyX4 tyX4_ok nmX4 hown hK hP hD hS 0 rfl rfl 2 (by decide) (hts (.fieldLink RX4 19 "WordSupper" "spare" "LWordSupper$Table;") (by decide +kernel)) (fun _ h9 => h9) rfl hin rfl (by decide +kernel) rfl rfl (Nat.le_of_ble_eq_true rfl) dX4_init_34 (fun H locs hP hD hS => ?_)
  have hP : va_P D vwCl (([(a, .inr (3, [.ref (u1 0), .ref (u2 0), .ref (u3 0), .null, .null, .null, .int (iI 0)]))] : va_W) ++ ((wTab cI u1 tZ 0 : va_W) ++ ((wTab cI u2 tZ 0 : va_W) ++ ((wTab cI u3 tZ 0 : va_W))))) H := hP
  have hD : va_D A (([(a, .inr (3, [.ref (u1 0), .ref (u2 0), .ref (u3 0), .null, .null, .null, .int (iI 0)]))] : va_W) ++ ((wTab cI u1 tZ 0 : va_W) ++ ((wTab cI u2 tZ 0 : va_W) ++ ((wTab cI u3 tZ 0 : va_W))))) := hD
  refine lv_aload_n hx hb dX4_init_37 rfl (lv_at hl 0 rfl) ?_
  refine va_new (ci := 0) (fs := [.null, .null, .null]) (C := RX1) (T := TX1) (N := 3) hx hb hts (iN_X4_init_X1) tyX1 tyX1_ok hown (hts (.classLink RX4 22 RX1) (by decide +kernel)) (hts (.instantiable RX1 3) (by decide +kernel)) (hts (.initialized RX1) (by decide +kernel)) hK hP hD hS hA rfl (fun j hj => by rcases (show j = 0 ∨ j = 1 ∨ j = 2 by omega) with rfl | rfl | rfl <;> rfl) (Nat.le_of_ble_eq_true rfl) (Nat.le_of_ble_eq_true rfl) dX4_init_38 (fun q4 H hP hD hS => ?_)
  have hP : va_P D vwCl (([(a, .inr (3, [.ref (u1 0), .ref (u2 0), .ref (u3 0), .null, .null, .null, .int (iI 0)]))] : va_W) ++ ((wTab cI u1 tZ 0 : va_W) ++ ((wTab cI u2 tZ 0 : va_W) ++ ((wTab cI u3 tZ 0 : va_W) ++ (([(q4, .inr (0, [.null, .null, .null]))] : va_W)))))) H := hP
  have hD : va_D A (([(a, .inr (3, [.ref (u1 0), .ref (u2 0), .ref (u3 0), .null, .null, .null, .int (iI 0)]))] : va_W) ++ ((wTab cI u1 tZ 0 : va_W) ++ ((wTab cI u2 tZ 0 : va_W) ++ ((wTab cI u3 tZ 0 : va_W) ++ (([(q4, .inr (0, [.null, .null, .null]))] : va_W)))))) := hD
  refine W.widen (k := 25) (n := 327) (Nat.le_of_ble_eq_true rfl) (Nat.le_of_ble_eq_true rfl) ?_
  refine lv_dup hx hb dX4_init_41 rfl ?_
  have hPc := hP.sub (ws' := [(q4, .inr (0, [.null, .null, .null]))]) [25] rfl
  have hDc := hD.sub (ws' := [(q4, .inr (0, [.null, .null, .null]))]) [25] (by decide) rfl
  have hFc := va_free (wc := [(q4, .inr (0, [.null, .null, .null]))]) hD hS hA [25] rfl
  refine va_callv (va_runIN (As := []) (rest := [.ref q4, .ref a]) ⟨hx, hb, hml, hown, hts⟩ (kX1_init q4 H.size) ⟨va_cnB (host := "WordSupper") 0 hts gX4_init_X1_init_n24 rfl rfl rfl hN.1 (hts (.initialized RX1) (by decide +kernel)) ynSX1_init ⟨Nat.le_of_ble_eq_true rfl, Nat.le_of_ble_eq_true rfl⟩, rfl, hts (.instanceMethod yX1_init) (by decide +kernel)⟩ ⟨fun a U g mk q => ⟨q.1, q.2.1, q.2.2.1, va_K.moved (u := U) (U := U.calling g mk a) (Vm.Alike.refl U.vm) q.2.2.2.1, q.2.2.2.2.1, trivial⟩, fun U hU hW => ⟨rfl, by rw [hU], by rw [hU]; exact hPc, va_K.moved hW.alike hK, hDc.weaken (fun _ _ _ _ => trivial), trivial⟩⟩ rfl rfl hl.1 rfl (lv_room (Nat.le_of_ble_eq_true rfl)) dX4_init_42 ⟨Nat.le_of_ble_eq_true rfl, Nat.le_of_ble_eq_true rfl⟩) hS (fun q _ h => hFc q h) hFc (fun u4 t H1 locs ht hvm hw hB hz1 hk1 hS => ?_)
  have hw : u4 0 = q4 := hw
  subst hw
  obtain ⟨hP1, hK1, hD1⟩ := hB
  rw [ht] at hP1
  obtain ⟨hP, hD⟩ := va_join (wr := ([(a, .inr (3, [.ref (u1 0), .ref (u2 0), .ref (u3 0), .null, .null, .null, .int (iI 0)]))] : va_W) ++ ((wTab cI u1 tZ 0 : va_W) ++ ((wTab cI u2 tZ 0 : va_W) ++ ((wTab cI u3 tZ 0 : va_W))))) (w1 := wSh cI u4 g0 g0 g0) hP hD [25] [0, 1, 2, 3, 4, 5, 6, 7, 8, 9, 10, 11, 12, 13, 14, 15, 16, 17, 18, 19, 20, 21, 22, 23, 24] rfl rfl (by decide) (by decide) hk1 hFc hP1 hD1
  generalize H1 = H at hP hS ⊢
  have hP : va_P D vwCl (([(a, .inr (3, [.ref (u1 0), .ref (u2 0), .ref (u3 0), .null, .null, .null, .int (iI 0)]))] : va_W) ++ ((wTab cI u1 tZ 0 : va_W) ++ ((wTab cI u2 tZ 0 : va_W) ++ ((wTab cI u3 tZ 0 : va_W) ++ ((wSh cI u4 g0 g0 g0 : va_W)))))) H := hP
  have hD : va_D A (([(a, .inr (3, [.ref (u1 0), .ref (u2 0), .ref (u3 0), .null, .null, .null, .int (iI 0)]))] : va_W) ++ ((wTab cI u1 tZ 0 : va_W) ++ ((wTab cI u2 tZ 0 : va_W) ++ ((wTab cI u3 tZ 0 : va_W) ++ ((wSh cI u4 g0 g0 g0 : va_W)))))) := hD
  refine W.widen (k := 28) (n := 495) (Nat.le_of_ble_eq_true rfl) (Nat.le_of_ble_eq_true rfl) ?_
  refine W.eq (g2 := F0 m 45 ls [.ref (u4 0), .ref a]) rfl ?_
  refine va_putF (D := D) (ci := 3) (v := .ref (u4 0)) (ty := .object "WordSupper$Sheets") (C := RX4) (T := TX4) (N := 7) hx hb hts (iN_X4_init_X4) tyX4 tyX4_ok nmX4 hown hK hP hD hS 0 rfl rfl 3 (by decide) (hts (.fieldLink RX4 25 "WordSupper" "sheets" "LWordSupper$Sheets;") (by decide +kernel)) (fun _ h9 => h9) rfl hin rfl (by decide +kernel) rfl rfl (Nat.le_of_ble_eq_true rfl) dX4_init_45 (fun H locs hP hD hS => ?_)
  have hP : va_P D vwCl (([(a, .inr (3, [.ref (u1 0), .ref (u2 0), .ref (u3 0), .ref (u4 0), .null, .null, .int (iI 0)]))] : va_W) ++ ((wTab cI u1 tZ 0 : va_W) ++ ((wTab cI u2 tZ 0 : va_W) ++ ((wTab cI u3 tZ 0 : va_W) ++ ((wSh cI u4 g0 g0 g0 : va_W)))))) H := hP
  have hD : va_D A (([(a, .inr (3, [.ref (u1 0), .ref (u2 0), .ref (u3 0), .ref (u4 0), .null, .null, .int (iI 0)]))] : va_W) ++ ((wTab cI u1 tZ 0 : va_W) ++ ((wTab cI u2 tZ 0 : va_W) ++ ((wTab cI u3 tZ 0 : va_W) ++ ((wSh cI u4 g0 g0 g0 : va_W)))))) := hD
  refine lv_aload_n hx hb dX4_init_48 rfl (lv_at hl 0 rfl) ?_
  refine va_new (ci := 2) (fs := [.int (iI 0), .null, .int (iI 0), .int (iI 0), .int (iI 0), .int (iI 0)]) (C := RX3) (T := TX3) (N := 6) hx hb hts (iN_X4_init_X3) tyX3 tyX3_ok hown (hts (.classLink RX4 29 RX3) (by decide +kernel)) (hts (.instantiable RX3 6) (by decide +kernel)) (hts (.initialized RX3) (by decide +kernel)) hK hP hD hS hA rfl (fun j hj => by rcases (show j = 0 ∨ j = 1 ∨ j = 2 ∨ j = 3 ∨ j = 4 ∨ j = 5 by omega) with rfl | rfl | rfl | rfl | rfl | rfl <;> rfl) (Nat.le_of_ble_eq_true rfl) (Nat.le_of_ble_eq_true rfl) dX4_init_49 (fun q5 H hP hD hS => ?_)
  have hP : va_P D vwCl (([(a, .inr (3, [.ref (u1 0), .ref (u2 0), .ref (u3 0), .ref (u4 0), .null, .null, .int (iI 0)]))] : va_W) ++ ((wTab cI u1 tZ 0 : va_W) ++ ((wTab cI u2 tZ 0 : va_W) ++ ((wTab cI u3 tZ 0 : va_W) ++ ((wSh cI u4 g0 g0 g0 : va_W) ++ (([(q5, .inr (2, [.int (iI 0), .null, .int (iI 0), .int (iI 0), .int (iI 0), .int (iI 0)]))] : va_W))))))) H := hP
  have hD : va_D A (([(a, .inr (3, [.ref (u1 0), .ref (u2 0), .ref (u3 0), .ref (u4 0), .null, .null, .int (iI 0)]))] : va_W) ++ ((wTab cI u1 tZ 0 : va_W) ++ ((wTab cI u2 tZ 0 : va_W) ++ ((wTab cI u3 tZ 0 : va_W) ++ ((wSh cI u4 g0 g0 g0 : va_W) ++ (([(q5, .inr (2, [.int (iI 0), .null, .int (iI 0), .int (iI 0), .int (iI 0), .int (iI 0)]))] : va_W))))))) := hD
  refine W.widen (k := 29) (n := 501) (Nat.le_of_ble_eq_true rfl) (Nat.le_of_ble_eq_true rfl) ?_
  refine lv_dup hx hb dX4_init_52 rfl ?_
  have hPc := hP.sub (ws' := [(q5, .inr (2, [.int (iI 0), .null, .int (iI 0), .int (iI 0), .int (iI 0), .int (iI 0)]))]) [29] rfl
  have hDc := hD.sub (ws' := [(q5, .inr (2, [.int (iI 0), .null, .int (iI 0), .int (iI 0), .int (iI 0), .int (iI 0)]))]) [29] (by decide) rfl
  have hFc := va_free (wc := [(q5, .inr (2, [.int (iI 0), .null, .int (iI 0), .int (iI 0), .int (iI 0), .int (iI 0)]))]) hD hS hA [29] rfl
  refine va_callv (va_runIN (As := []) (rest := [.ref q5, .ref a]) ⟨hx, hb, hml, hown, hts⟩ (kX3_init q5 H.size) ⟨va_cnB (host := "WordSupper") 0 hts gX4_init_X3_init_n31 rfl rfl rfl hN.2 (hts (.initialized RX3) (by decide +kernel)) ynSX3_init ⟨Nat.le_of_ble_eq_true rfl, Nat.le_of_ble_eq_true rfl⟩, rfl, hts (.instanceMethod yX3_init) (by decide +kernel)⟩ ⟨fun a U g mk q => ⟨q.1, q.2.1, q.2.2.1, va_K.moved (u := U) (U := U.calling g mk a) (Vm.Alike.refl U.vm) q.2.2.2.1, q.2.2.2.2.1, trivial⟩, fun U hU hW => ⟨rfl, by rw [hU], by rw [hU]; exact hPc, va_K.moved hW.alike hK, hDc.weaken (fun _ _ _ _ => trivial), trivial⟩⟩ rfl rfl hl.1 rfl (lv_room (Nat.le_of_ble_eq_true rfl)) dX4_init_53 ⟨Nat.le_of_ble_eq_true rfl, Nat.le_of_ble_eq_true rfl⟩) hS (fun q _ h => hFc q h) hFc (fun u5 t H1 locs ht hvm hw hB hz1 hk1 hS => ?_)
  have hw : u5 0 = q5 := hw
  subst hw
  obtain ⟨hP1, hK1, hD1⟩ := hB
  rw [ht] at hP1
  obtain ⟨hP, hD⟩ := va_join (wr := ([(a, .inr (3, [.ref (u1 0), .ref (u2 0), .ref (u3 0), .ref (u4 0), .null, .null, .int (iI 0)]))] : va_W) ++ ((wTab cI u1 tZ 0 : va_W) ++ ((wTab cI u2 tZ 0 : va_W) ++ ((wTab cI u3 tZ 0 : va_W) ++ ((wSh cI u4 g0 g0 g0 : va_W)))))) (w1 := wTp cB u5 0 g0 g0) hP hD [29] [0, 1, 2, 3, 4, 5, 6, 7, 8, 9, 10, 11, 12, 13, 14, 15, 16, 17, 18, 19, 20, 21, 22, 23, 24, 25, 26, 27, 28] rfl rfl (by decide) (by decide) hk1 hFc hP1 hD1
  generalize H1 = H at hP hS ⊢
  have hP : va_P D vwCl (([(a, .inr (3, [.ref (u1 0), .ref (u2 0), .ref (u3 0), .ref (u4 0), .null, .null, .int (iI 0)]))] : va_W) ++ ((wTab cI u1 tZ 0 : va_W) ++ ((wTab cI u2 tZ 0 : va_W) ++ ((wTab cI u3 tZ 0 : va_W) ++ ((wSh cI u4 g0 g0 g0 : va_W) ++ ((wTp cB u5 0 g0 g0 : va_W))))))) H := hP
  have hD : va_D A (([(a, .inr (3, [.ref (u1 0), .ref (u2 0), .ref (u3 0), .ref (u4 0), .null, .null, .int (iI 0)]))] : va_W) ++ ((wTab cI u1 tZ 0 : va_W) ++ ((wTab cI u2 tZ 0 : va_W) ++ ((wTab cI u3 tZ 0 : va_W) ++ ((wSh cI u4 g0 g0 g0 : va_W) ++ ((wTp cB u5 0 g0 g0 : va_W))))))) := hD
  refine W.widen (k := 30) (n := 621) (Nat.le_of_ble_eq_true rfl) (Nat.le_of_ble_eq_true rfl) ?_
  refine W.eq (g2 := F0 m 56 ls [.ref (u5 0), .ref a]) rfl ?_
  refine va_putF (D := D) (ci := 3) (v := .ref (u5 0)) (ty := .object "WordSupper$Tape") (C := RX4) (T := TX4) (N := 7) hx hb hts (iN_X4_init_X4) tyX4 tyX4_ok nmX4 hown hK hP hD hS 0 rfl rfl 4 (by decide) (hts (.fieldLink RX4 32 "WordSupper" "tape" "LWordSupper$Tape;") (by decide +kernel)) (fun _ h9 => h9) rfl hin rfl (by decide +kernel) rfl rfl (Nat.le_of_ble_eq_true rfl) dX4_init_56 (fun H locs hP hD hS => ?_)
  have hP : va_P D vwCl (([(a, .inr (3, [.ref (u1 0), .ref (u2 0), .ref (u3 0), .ref (u4 0), .ref (u5 0), .null, .int (iI 0)]))] : va_W) ++ ((wTab cI u1 tZ 0 : va_W) ++ ((wTab cI u2 tZ 0 : va_W) ++ ((wTab cI u3 tZ 0 : va_W) ++ ((wSh cI u4 g0 g0 g0 : va_W) ++ ((wTp cB u5 0 g0 g0 : va_W))))))) H := hP
  have hD : va_D A (([(a, .inr (3, [.ref (u1 0), .ref (u2 0), .ref (u3 0), .ref (u4 0), .ref (u5 0), .null, .int (iI 0)]))] : va_W) ++ ((wTab cI u1 tZ 0 : va_W) ++ ((wTab cI u2 tZ 0 : va_W) ++ ((wTab cI u3 tZ 0 : va_W) ++ ((wSh cI u4 g0 g0 g0 : va_W) ++ ((wTp cB u5 0 g0 g0 : va_W))))))) := hD
  refine lv_aload_n hx hb dX4_init_59 rfl (lv_at hl 0 rfl) ?_
  refine x_bipush hx hb dX4_init_60 (by decide) ?_
  refine x_newI hx hb (hts (.arrayClass .int) (by decide +kernel)) hK hP hD hS hA 7 rfl (by decide) (Nat.le_of_ble_eq_true rfl) (Nat.le_of_ble_eq_true rfl) dX4_init_62 (fun q6 H hP hD hS => ?_)
  have hP : va_P D vwCl (([(a, .inr (3, [.ref (u1 0), .ref (u2 0), .ref (u3 0), .ref (u4 0), .ref (u5 0), .null, .int (iI 0)]))] : va_W) ++ ((wTab cI u1 tZ 0 : va_W) ++ ((wTab cI u2 tZ 0 : va_W) ++ ((wTab cI u3 tZ 0 : va_W) ++ ((wSh cI u4 g0 g0 g0 : va_W) ++ ((wTp cB u5 0 g0 g0 : va_W) ++ (([(q6, .inl (cI, 7, .inl (aI (gd 7 (fun _ => 0)))))] : va_W)))))))) H := hP
  have hD : va_D A (([(a, .inr (3, [.ref (u1 0), .ref (u2 0), .ref (u3 0), .ref (u4 0), .ref (u5 0), .null, .int (iI 0)]))] : va_W) ++ ((wTab cI u1 tZ 0 : va_W) ++ ((wTab cI u2 tZ 0 : va_W) ++ ((wTab cI u3 tZ 0 : va_W) ++ ((wSh cI u4 g0 g0 g0 : va_W) ++ ((wTp cB u5 0 g0 g0 : va_W) ++ (([(q6, .inl (cI, 7, .inl (aI (gd 7 (fun _ => 0)))))] : va_W)))))))) := hD
  refine W.widen (k := 31) (n := 628) (Nat.le_of_ble_eq_true rfl) (Nat.le_of_ble_eq_true rfl) ?_
  refine va_putF (D := D) (ci := 3) (v := .ref q6) (ty := .array .int) (C := RX4) (T := TX4) (N := 7) hx hb hts (iN_X4_init_X4) tyX4 tyX4_ok nmX4 hown hK hP hD hS 0 rfl rfl 5 (by decide) (hts (.fieldLink RX4 36 "WordSupper" "findings" "[I") (by decide +kernel)) (fun _ h9 => h9) rfl hin rfl (by decide +kernel) rfl rfl (Nat.le_of_ble_eq_true rfl) dX4_init_64 (fun H locs hP hD hS => ?_)
  have hP : va_P D vwCl (([(a, .inr (3, [.ref (u1 0), .ref (u2 0), .ref (u3 0), .ref (u4 0), .ref (u5 0), .ref q6, .int (iI 0)]))] : va_W) ++ ((wTab cI u1 tZ 0 : va_W) ++ ((wTab cI u2 tZ 0 : va_W) ++ ((wTab cI u3 tZ 0 : va_W) ++ ((wSh cI u4 g0 g0 g0 : va_W) ++ ((wTp cB u5 0 g0 g0 : va_W) ++ (([(q6, .inl (cI, 7, .inl (aI (gd 7 (fun _ => 0)))))] : va_W)))))))) H := hP
  have hD : va_D A (([(a, .inr (3, [.ref (u1 0), .ref (u2 0), .ref (u3 0), .ref (u4 0), .ref (u5 0), .ref q6, .int (iI 0)]))] : va_W) ++ ((wTab cI u1 tZ 0 : va_W) ++ ((wTab cI u2 tZ 0 : va_W) ++ ((wTab cI u3 tZ 0 : va_W) ++ ((wSh cI u4 g0 g0 g0 : va_W) ++ ((wTp cB u5 0 g0 g0 : va_W) ++ (([(q6, .inl (cI, 7, .inl (aI (gd 7 (fun _ => 0)))))] : va_W)))))))) := hD
  refine W.widen (k := 31) (n := 628) (Nat.le_of_ble_eq_true rfl) (Nat.le_of_ble_eq_true rfl) ?_
  have hP9 : va_P D vwCl (wC cI cB a q6 u1 u2 u3 u4 u5 (tZ, tZ, 0, g0, g0, g0, 0, g0, g0) tZ g0) H := hP
  have hD9 : va_D A (wC cI cB a q6 u1 u2 u3 u4 u5 (tZ, tZ, 0, g0, g0, g0, 0, g0, g0) tZ g0) := hD
  exact W.vret hx hb hr (fun t ht hW => ⟨⟨(q6, u1, u2, u3, u4, u5), rfl, trivial, by rw [ht]; exact hP9, va_K.moved hW.alike hK, hD9⟩, hS.F ht⟩) hS.2.2 dX4_init_67
set_option maxRecDepth 20000 in
theorem iN_X5_init_X5 : ∀ w ∈ u_ws RX5 TX5 18, w ∈ wsX5_init := by decide +kernel
theorem ynSX5_init : yX5_init.cls ≠ "java/lang/invoke/MethodHandle" ∧ yX5_init.cls ≠ "java/lang/invoke/VarHandle" ∧ (parseMethodDescriptor yX5_init.desc).map (fun d => d.parameters.length) = some 0 := by decide +kernel
set_option maxHeartbeats 4000000 in
set_option maxRecDepth 100000 in
theorem kX5_init {l : Launch} {D : va_G} {cI cB : ClassId} (a sz : Nat) : Met l yX5_init wsX5_init { frames := 1, cells := 9, slots := 696, locals := 12 } (va_Pc [.ref a] (xN D [(cI, .int), (cB, .byte)] sz [(a, .inr (4, [.null, .null, .null, .null, .int (iI 0), .null, .null, .int (iI 0), .null, .null, .null, .int (iI 0), .int (iI 0), .int (iI 0), .int (iI 0), .int (iI 0), .int (iI 0), .int (iI 0)]))] nT)) (va_Qv (fun u : Nat → Nat => u 0 = a) (xNp D [(cI, .int), (cB, .byte)] (va_A [(a, .inr (4, [.null, .null, .null, .null, .int (iI 0), .null, .null, .int (iI 0), .null, .null, .null, .int (iI 0), .int (iI 0), .int (iI 0), .int (iI 0), .int (iI 0), .int (iI 0), .int (iI 0)]))] sz) (fun u => wM cI u (tZ, g0, 0, g0, g0, g0, 0, g0, g0) g0 g0 g0)) (va_A [(a, .inr (4, [.null, .null, .null, .null, .int (iI 0), .null, .null, .int (iI 0), .null, .null, .null, .int (iI 0), .int (iI 0), .int (iI 0), .int (iI 0), .int (iI 0), .int (iI 0), .int (iI 0)]))] sz)) 9 696 (va_A [(a, .inr (4, [.null, .null, .null, .null, .int (iI 0), .null, .null, .int (iI 0), .null, .null, .null, .int (iI 0), .int (iI 0), .int (iI 0), .int (iI 0), .int (iI 0), .int (iI 0), .int (iI 0)]))] sz) := by
  refine Met.ofW (cc := cX5_init) (maxL := 2) (ret := none) (by decide +kernel) rfl ?_
  intro p e s m args below meth c s₁ B hml hv
  obtain ⟨rfl, hsz, hP, hK, hD0, hN⟩ := hv
  have hx := B.exec
  have hb := B.bytes
  have hr := B.returns
  have hts := atoms_spec (ws := wsX5_init) B.pre
  have hown : s.vm.findClass RX5 = some m.cls := findClass_of_methodNamed B.named
  have hlocks := B.notSynchronized
  have hin : meth.name = "<init>" := (name_of_methodNamed B.named B.method).1
  subst hsz
  have hD := hD0.self (sz := s.heap.size)
  generalize hAe : va_A [(a, .inr (4, [.null, .null, .null, .null, .int (iI 0), .null, .null, .int (iI 0), .null, .null, .null, .int (iI 0), .int (iI 0), .int (iI 0), .int (iI 0), .int (iI 0), .int (iI 0), .int (iI 0)]))] s.heap.size = A at hD ⊢
  have hA : ∀ q : Nat, s.heap.size ≤ q → A q := fun q h => by rw [← hAe]; exact Or.inr h
  have hS : va_S A s.heap s.heap [] := va_S.rf
  have hP : va_P D vwCl [(a, .inr (4, [.null, .null, .null, .null, .int (iI 0), .null, .null, .int (iI 0), .null, .null, .null, .int (iI 0), .int (iI 0), .int (iI 0), .int (iI 0), .int (iI 0), .int (iI 0), .int (iI 0)]))] s.heap := hP
  have hl := lv_entry ([.ref a]) (n := 2) (Nat.le_of_ble_eq_true rfl)
  rw [lg_entry_eq]
  generalize (lg_sl ([.ref a]) ++ List.replicate (2 - (lg_sl ([.ref a])).length) Slot.unset).toArray = ls at hl ⊢
  have hl : lv_has ls 2 [(0, .ref a)] := hl
  refine lv_aload_n hx hb dX5_init_0 rfl (lv_at hl 0 rfl) ?_
  refine W.objInit hx hb hown (hts (.methodLink RX5 1 objectInit) (by decide +kernel)) (hts (.instanceMethod objectInit) (by decide +kernel)) (hts (.code objectInit ⟨#[0xb1]⟩ 1 none) (by decide +kernel)) rfl (by rw [hml]; exact hl.1) rfl dX5_init_1 (Nat.le_of_ble_eq_true rfl) (Nat.le_of_ble_eq_true rfl) ?_
  refine W.eq (g2 := F0 m 4 ls []) rfl ?_
  refine lv_aload_n hx hb dX5_init_4 rfl (lv_at hl 0 rfl) ?_
  refine x_bipush hx hb dX5_init_5 (by decide) ?_
  refine x_newI hx hb (hts (.arrayClass .int) (by decide +kernel)) hK hP hD hS hA 100 rfl (by decide) (Nat.le_of_ble_eq_true rfl) (Nat.le_of_ble_eq_true rfl) dX5_init_7 (fun q1 H hP hD hS => ?_)
  have hP : va_P D vwCl (([(a, .inr (4, [.null, .null, .null, .null, .int (iI 0), .null, .null, .int (iI 0), .null, .null, .null, .int (iI 0), .int (iI 0), .int (iI 0), .int (iI 0), .int (iI 0), .int (iI 0), .int (iI 0)])), (q1, .inl (cI, 100, .inl (aI (gd 100 (fun _ => 0)))))] : va_W)) H := hP
  have hD : va_D A (([(a, .inr (4, [.null, .null, .null, .null, .int (iI 0), .null, .null, .int (iI 0), .null, .null, .null, .int (iI 0), .int (iI 0), .int (iI 0), .int (iI 0), .int (iI 0), .int (iI 0), .int (iI 0)])), (q1, .inl (cI, 100, .inl (aI (gd 100 (fun _ => 0)))))] : va_W)) := hD
  refine W.widen (k := 1) (n := 100) (Nat.le_of_ble_eq_true rfl) (Nat.le_of_ble_eq_true rfl) ?_
  refine va_putF (D := D) (ci := 4) (v := .ref q1) (ty := .array .int) (C := RX5) (T := TX5) (N := 18) hx hb hts (iN_X5_init_X5) tyX5 tyX5_ok nmX5 hown hK hP hD hS 0 rfl rfl 0 (by decide) (hts (.fieldLink RX5 7 "WordSupperModel" "s" "[I") (by decide +kernel)) (fun _ h9 => h9) rfl hin rfl (by decide +kernel) rfl rfl (Nat.le_of_ble_eq_true rfl) dX5_init_9 (fun H locs hP hD hS => ?_)
  have hP : va_P D vwCl (([(a, .inr (4, [.ref q1, .null, .null, .null, .int (iI 0), .null, .null, .int (iI 0), .null, .null, .null, .int (iI 0), .int (iI 0), .int (iI 0), .int (iI 0), .int (iI 0), .int (iI 0), .int (iI 0)])), (q1, .inl (cI, 100, .inl (aI (gd 100 (fun _ => 0)))))] : va_W)) H := hP
  have hD : va_D A (([(a, .inr (4, [.ref q1, .null, .null, .null, .int (iI 0), .null, .null, .int (iI 0), .null, .null, .null, .int (iI 0), .int (iI 0), .int (iI 0), .int (iI 0), .int (iI 0), .int (iI 0), .int (iI 0)])), (q1, .inl (cI, 100, .inl (aI (gd 100 (fun _ => 0)))))] : va_W)) := hD
  refine lv_aload_n hx hb dX5_init_12 rfl (lv_at hl 0 rfl) ?_
  refine x_bipush hx hb dX5_init_13 (by decide) ?_
  refine x_newI hx hb (hts (.arrayClass .int) (by decide +kernel)) hK hP hD hS hA 100 rfl (by decide) (Nat.le_of_ble_eq_true rfl) (Nat.le_of_ble_eq_true rfl) dX5_init_15 (fun q2 H hP hD hS => ?_)
  have hP : va_P D vwCl (([(a, .inr (4, [.ref q1, .null, .null, .null, .int (iI 0), .null, .null, .int (iI 0), .null, .null, .null, .int (iI 0), .int (iI 0), .int (iI 0), .int (iI 0), .int (iI 0), .int (iI 0), .int (iI 0)])), (q1, .inl (cI, 100, .inl (aI (gd 100 (fun _ => 0))))), (q2, .inl (cI, 100, .inl (aI (gd 100 (fun _ => 0)))))] : va_W)) H := hP
  have hD : va_D A (([(a, .inr (4, [.ref q1, .null, .null, .null, .int (iI 0), .null, .null, .int (iI 0), .null, .null, .null, .int (iI 0), .int (iI 0), .int (iI 0), .int (iI 0), .int (iI 0), .int (iI 0), .int (iI 0)])), (q1, .inl (cI, 100, .inl (aI (gd 100 (fun _ => 0))))), (q2, .inl (cI, 100, .inl (aI (gd 100 (fun _ => 0)))))] : va_W)) := hD
  refine W.widen (k := 2) (n := 200) (Nat.le_of_ble_eq_true rfl) (Nat.le_of_ble_eq_true rfl) ?_
  refine va_putF (D := D) (ci := 4) (v := .ref q2) (ty := .array .int) (C := RX5) (T := TX5) (N := 18) hx hb hts (iN_X5_init_X5) tyX5 tyX5_ok nmX5 hown hK hP hD hS 0 rfl rfl 1 (by decide) (hts (.fieldLink RX5 13 "WordSupperModel" "kept" "[I") (by decide +kernel)) (fun _ h9 => h9) rfl hin rfl (by decide +kernel) rfl rfl (Nat.le_of_ble_eq_true rfl) dX5_init_17 (fun H locs hP hD hS => ?_)
  have hP : va_P D vwCl (([(a, .inr (4, [.ref q1, .ref q2, .null, .null, .int (iI 0), .null, .null, .int (iI 0), .null, .null, .null, .int (iI 0), .int (iI 0), .int (iI 0), .int (iI 0), .int (iI 0), .int (iI 0), .int (iI 0)])), (q1, .inl (cI, 100, .inl (aI (gd 100 (fun _ => 0))))), (q2, .inl (cI, 100, .inl (aI (gd 100 (fun _ => 0)))))] : va_W)) H := hP
  have hD : va_D A (([(a, .inr (4, [.ref q1, .ref q2, .null, .null, .int (iI 0), .null, .null, .int (iI 0), .null, .null, .null, .int (iI 0), .int (iI 0), .int (iI 0), .int (iI 0), .int (iI 0), .int (iI 0), .int (iI 0)])), (q1, .inl (cI, 100, .inl (aI (gd 100 (fun _ => 0))))), (q2, .inl (cI, 100, .inl (aI (gd 100 (fun _ => 0)))))] : va_W)) := hD
  refine lv_aload_n hx hb dX5_init_20 rfl (lv_at hl 0 rfl) ?_
  refine x_bipush hx hb dX5_init_21 (by decide) ?_
  refine x_newI hx hb (hts (.arrayClass .int) (by decide +kernel)) hK hP hD hS hA 100 rfl (by decide) (Nat.le_of_ble_eq_true rfl) (Nat.le_of_ble_eq_true rfl) dX5_init_23 (fun q3 H hP hD hS => ?_)
  have hP : va_P D vwCl (([(a, .inr (4, [.ref q1, .ref q2, .null, .null, .int (iI 0), .null, .null, .int (iI 0), .null, .null, .null, .int (iI 0), .int (iI 0), .int (iI 0), .int (iI 0), .int (iI 0), .int (iI 0), .int (iI 0)])), (q1, .inl (cI, 100, .inl (aI (gd 100 (fun _ => 0))))), (q2, .inl (cI, 100, .inl (aI (gd 100 (fun _ => 0))))), (q3, .inl (cI, 100, .inl (aI (gd 100 (fun _ => 0)))))] : va_W)) H := hP
  have hD : va_D A (([(a, .inr (4, [.ref q1, .ref q2, .null, .null, .int (iI 0), .null, .null, .int (iI 0), .null, .null, .null, .int (iI 0), .int (iI 0), .int (iI 0), .int (iI 0), .int (iI 0), .int (iI 0), .int (iI 0)])), (q1, .inl (cI, 100, .inl (aI (gd 100 (fun _ => 0))))), (q2, .inl (cI, 100, .inl (aI (gd 100 (fun _ => 0))))), (q3, .inl (cI, 100, .inl (aI (gd 100 (fun _ => 0)))))] : va_W)) := hD
  refine W.widen (k := 3) (n := 300) (Nat.le_of_ble_eq_true rfl) (Nat.le_of_ble_eq_true rfl) ?_
  refine va_putF (D := D) (ci := 4) (v := .ref q3) (ty := .array .int) (C := RX5) (T := TX5) (N := 18) hx hb hts (iN_X5_init_X5) tyX5 tyX5_ok nmX5 hown hK hP hD hS 0 rfl rfl 2 (by decide) (hts (.fieldLink RX5 16 "WordSupperModel" "before" "[I") (by decide +kernel)) (fun _ h9 => h9) rfl hin rfl (by decide +kernel) rfl rfl (Nat.le_of_ble_eq_true rfl) dX5_init_25 (fun H locs hP hD hS => ?_)
  have hP : va_P D vwCl (([(a, .inr (4, [.ref q1, .ref q2, .ref q3, .null, .int (iI 0), .null, .null, .int (iI 0), .null, .null, .null, .int (iI 0), .int (iI 0), .int (iI 0), .int (iI 0), .int (iI 0), .int (iI 0), .int (iI 0)])), (q1, .inl (cI, 100, .inl (aI (gd 100 (fun _ => 0))))), (q2, .inl (cI, 100, .inl (aI (gd 100 (fun _ => 0))))), (q3, .inl (cI, 100, .inl (aI (gd 100 (fun _ => 0)))))] : va_W)) H := hP
  have hD : va_D A (([(a, .inr (4, [.ref q1, .ref q2, .ref q3, .null, .int (iI 0), .null, .null, .int (iI 0), .null, .null, .null, .int (iI 0), .int (iI 0), .int (iI 0), .int (iI 0), .int (iI 0), .int (iI 0), .int (iI 0)])), (q1, .inl (cI, 100, .inl (aI (gd 100 (fun _ => 0))))), (q2, .inl (cI, 100, .inl (aI (gd 100 (fun _ => 0))))), (q3, .inl (cI, 100, .inl (aI (gd 100 (fun _ => 0)))))] : va_W)) := hD
  refine lv_aload_n hx hb dX5_init_28 rfl (lv_at hl 0 rfl) ?_
  refine x_bipush hx hb dX5_init_29 (by decide) ?_
  refine x_newI hx hb (hts (.arrayClass .int) (by decide +kernel)) hK hP hD hS hA 100 rfl (by decide) (Nat.le_of_ble_eq_true rfl) (Nat.le_of_ble_eq_true rfl) dX5_init_31 (fun q4 H hP hD hS => ?_)
  have hP : va_P D vwCl (([(a, .inr (4, [.ref q1, .ref q2, .ref q3, .null, .int (iI 0), .null, .null, .int (iI 0), .null, .null, .null, .int (iI 0), .int (iI 0), .int (iI 0), .int (iI 0), .int (iI 0), .int (iI 0), .int (iI 0)])), (q1, .inl (cI, 100, .inl (aI (gd 100 (fun _ => 0))))), (q2, .inl (cI, 100, .inl (aI (gd 100 (fun _ => 0))))), (q3, .inl (cI, 100, .inl (aI (gd 100 (fun _ => 0))))), (q4, .inl (cI, 100, .inl (aI (gd 100 (fun _ => 0)))))] : va_W)) H := hP
  have hD : va_D A (([(a, .inr (4, [.ref q1, .ref q2, .ref q3, .null, .int (iI 0), .null, .null, .int (iI 0), .null, .null, .null, .int (iI 0), .int (iI 0), .int (iI 0), .int (iI 0), .int (iI 0), .int (iI 0), .int (iI 0)])), (q1, .inl (cI, 100, .inl (aI (gd 100 (fun _ => 0))))), (q2, .inl (cI, 100, .inl (aI (gd 100 (fun _ => 0))))), (q3, .inl (cI, 100, .inl (aI (gd 100 (fun _ => 0))))), (q4, .inl (cI, 100, .inl (aI (gd 100 (fun _ => 0)))))] : va_W)) := hD
  refine W.widen (k := 4) (n := 400) (Nat.le_of_ble_eq_true rfl) (Nat.le_of_ble_eq_true rfl) ?_
  refine va_putF (D := D) (ci := 4) (v := .ref q4) (ty := .array .int) (C := RX5) (T := TX5) (N := 18) hx hb hts (iN_X5_init_X5) tyX5 tyX5_ok nmX5 hown hK hP hD hS 0 rfl rfl 3 (by decide) (hts (.fieldLink RX5 19 "WordSupperModel" "aside" "[I") (by decide +kernel)) (fun _ h9 => h9) rfl hin rfl (by decide +kernel) rfl rfl (Nat.le_of_ble_eq_true rfl) dX5_init_33 (fun H locs hP hD hS => ?_)
  have hP : va_P D vwCl (([(a, .inr (4, [.ref q1, .ref q2, .ref q3, .ref q4, .int (iI 0), .null, .null, .int (iI 0), .null, .null, .null, .int (iI 0), .int (iI 0), .int (iI 0), .int (iI 0), .int (iI 0), .int (iI 0), .int (iI 0)])), (q1, .inl (cI, 100, .inl (aI (gd 100 (fun _ => 0))))), (q2, .inl (cI, 100, .inl (aI (gd 100 (fun _ => 0))))), (q3, .inl (cI, 100, .inl (aI (gd 100 (fun _ => 0))))), (q4, .inl (cI, 100, .inl (aI (gd 100 (fun _ => 0)))))] : va_W)) H := hP
  have hD : va_D A (([(a, .inr (4, [.ref q1, .ref q2, .ref q3, .ref q4, .int (iI 0), .null, .null, .int (iI 0), .null, .null, .null, .int (iI 0), .int (iI 0), .int (iI 0), .int (iI 0), .int (iI 0), .int (iI 0), .int (iI 0)])), (q1, .inl (cI, 100, .inl (aI (gd 100 (fun _ => 0))))), (q2, .inl (cI, 100, .inl (aI (gd 100 (fun _ => 0))))), (q3, .inl (cI, 100, .inl (aI (gd 100 (fun _ => 0))))), (q4, .inl (cI, 100, .inl (aI (gd 100 (fun _ => 0)))))] : va_W)) := hD
  refine lv_aload_n hx hb dX5_init_36 rfl (lv_at hl 0 rfl) ?_
  refine x_bipush hx hb dX5_init_37 (by decide) ?_
  refine x_newI hx hb (hts (.arrayClass .int) (by decide +kernel)) hK hP hD hS hA 8 rfl (by decide) (Nat.le_of_ble_eq_true rfl) (Nat.le_of_ble_eq_true rfl) dX5_init_39 (fun q5 H hP hD hS => ?_)
  have hP : va_P D vwCl (([(a, .inr (4, [.ref q1, .ref q2, .ref q3, .ref q4, .int (iI 0), .null, .null, .int (iI 0), .null, .null, .null, .int (iI 0), .int (iI 0), .int (iI 0), .int (iI 0), .int (iI 0), .int (iI 0), .int (iI 0)])), (q1, .inl (cI, 100, .inl (aI (gd 100 (fun _ => 0))))), (q2, .inl (cI, 100, .inl (aI (gd 100 (fun _ => 0))))), (q3, .inl (cI, 100, .inl (aI (gd 100 (fun _ => 0))))), (q4, .inl (cI, 100, .inl (aI (gd 100 (fun _ => 0))))), (q5, .inl (cI, 8, .inl (aI (gd 8 (fun _ => 0)))))] : va_W)) H := hP
  have hD : va_D A (([(a, .inr (4, [.ref q1, .ref q2, .ref q3, .ref q4, .int (iI 0), .null, .null, .int (iI 0), .null, .null, .null, .int (iI 0), .int (iI 0), .int (iI 0), .int (iI 0), .int (iI 0), .int (iI 0), .int (iI 0)])), (q1, .inl (cI, 100, .inl (aI (gd 100 (fun _ => 0))))), (q2, .inl (cI, 100, .inl (aI (gd 100 (fun _ => 0))))), (q3, .inl (cI, 100, .inl (aI (gd 100 (fun _ => 0))))), (q4, .inl (cI, 100, .inl (aI (gd 100 (fun _ => 0))))), (q5, .inl (cI, 8, .inl (aI (gd 8 (fun _ => 0)))))] : va_W)) := hD
  refine W.widen (k := 5) (n := 408) (Nat.le_of_ble_eq_true rfl) (Nat.le_of_ble_eq_true rfl) ?_
  refine va_putF (D := D) (ci := 4) (v := .ref q5) (ty := .array .int) (C := RX5) (T := TX5) (N := 18) hx hb hts (iN_X5_init_X5) tyX5 tyX5_ok nmX5 hown hK hP hD hS 0 rfl rfl 5 (by decide) (hts (.fieldLink RX5 22 "WordSupperModel" "findings" "[I") (by decide +kernel)) (fun _ h9 => h9) rfl hin rfl (by decide +kernel) rfl rfl (Nat.le_of_ble_eq_true rfl) dX5_init_41 (fun H locs hP hD hS => ?_)
  have hP : va_P D vwCl (([(a, .inr (4, [.ref q1, .ref q2, .ref q3, .ref q4, .int (iI 0), .ref q5, .null, .int (iI 0), .null, .null, .null, .int (iI 0), .int (iI 0), .int (iI 0), .int (iI 0), .int (iI 0), .int (iI 0), .int (iI 0)])), (q1, .inl (cI, 100, .inl (aI (gd 100 (fun _ => 0))))), (q2, .inl (cI, 100, .inl (aI (gd 100 (fun _ => 0))))), (q3, .inl (cI, 100, .inl (aI (gd 100 (fun _ => 0))))), (q4, .inl (cI, 100, .inl (aI (gd 100 (fun _ => 0))))), (q5, .inl (cI, 8, .inl (aI (gd 8 (fun _ => 0)))))] : va_W)) H := hP
  have hD : va_D A (([(a, .inr (4, [.ref q1, .ref q2, .ref q3, .ref q4, .int (iI 0), .ref q5, .null, .int (iI 0), .null, .null, .null, .int (iI 0), .int (iI 0), .int (iI 0), .int (iI 0), .int (iI 0), .int (iI 0), .int (iI 0)])), (q1, .inl (cI, 100, .inl (aI (gd 100 (fun _ => 0))))), (q2, .inl (cI, 100, .inl (aI (gd 100 (fun _ => 0))))), (q3, .inl (cI, 100, .inl (aI (gd 100 (fun _ => 0))))), (q4, .inl (cI, 100, .inl (aI (gd 100 (fun _ => 0))))), (q5, .inl (cI, 8, .inl (aI (gd 8 (fun _ => 0)))))] : va_W)) := hD
  refine lv_aload_n hx hb dX5_init_44 rfl (lv_at hl 0 rfl) ?_
  refine x_bipush hx hb dX5_init_45 (by decide) ?_
  refine x_newI hx hb (hts (.arrayClass .int) (by decide +kernel)) hK hP hD hS hA 120 rfl (by decide) (Nat.le_of_ble_eq_true rfl) (Nat.le_of_ble_eq_true rfl) dX5_init_47 (fun q6 H hP hD hS => ?_)
  have hP : va_P D vwCl (([(a, .inr (4, [.ref q1, .ref q2, .ref q3, .ref q4, .int (iI 0), .ref q5, .null, .int (iI 0), .null, .null, .null, .int (iI 0), .int (iI 0), .int (iI 0), .int (iI 0), .int (iI 0), .int (iI 0), .int (iI 0)])), (q1, .inl (cI, 100, .inl (aI (gd 100 (fun _ => 0))))), (q2, .inl (cI, 100, .inl (aI (gd 100 (fun _ => 0))))), (q3, .inl (cI, 100, .inl (aI (gd 100 (fun _ => 0))))), (q4, .inl (cI, 100, .inl (aI (gd 100 (fun _ => 0))))), (q5, .inl (cI, 8, .inl (aI (gd 8 (fun _ => 0))))), (q6, .inl (cI, 120, .inl (aI (gd 120 (fun _ => 0)))))] : va_W)) H := hP
  have hD : va_D A (([(a, .inr (4, [.ref q1, .ref q2, .ref q3, .ref q4, .int (iI 0), .ref q5, .null, .int (iI 0), .null, .null, .null, .int (iI 0), .int (iI 0), .int (iI 0), .int (iI 0), .int (iI 0), .int (iI 0), .int (iI 0)])), (q1, .inl (cI, 100, .inl (aI (gd 100 (fun _ => 0))))), (q2, .inl (cI, 100, .inl (aI (gd 100 (fun _ => 0))))), (q3, .inl (cI, 100, .inl (aI (gd 100 (fun _ => 0))))), (q4, .inl (cI, 100, .inl (aI (gd 100 (fun _ => 0))))), (q5, .inl (cI, 8, .inl (aI (gd 8 (fun _ => 0))))), (q6, .inl (cI, 120, .inl (aI (gd 120 (fun _ => 0)))))] : va_W)) := hD
  refine W.widen (k := 6) (n := 528) (Nat.le_of_ble_eq_true rfl) (Nat.le_of_ble_eq_true rfl) ?_
  refine va_putF (D := D) (ci := 4) (v := .ref q6) (ty := .array .int) (C := RX5) (T := TX5) (N := 18) hx hb hts (iN_X5_init_X5) tyX5 tyX5_ok nmX5 hown hK hP hD hS 0 rfl rfl 6 (by decide) (hts (.fieldLink RX5 25 "WordSupperModel" "tape" "[I") (by decide +kernel)) (fun _ h9 => h9) rfl hin rfl (by decide +kernel) rfl rfl (Nat.le_of_ble_eq_true rfl) dX5_init_49 (fun H locs hP hD hS => ?_)
  have hP : va_P D vwCl (([(a, .inr (4, [.ref q1, .ref q2, .ref q3, .ref q4, .int (iI 0), .ref q5, .ref q6, .int (iI 0), .null, .null, .null, .int (iI 0), .int (iI 0), .int (iI 0), .int (iI 0), .int (iI 0), .int (iI 0), .int (iI 0)])), (q1, .inl (cI, 100, .inl (aI (gd 100 (fun _ => 0))))), (q2, .inl (cI, 100, .inl (aI (gd 100 (fun _ => 0))))), (q3, .inl (cI, 100, .inl (aI (gd 100 (fun _ => 0))))), (q4, .inl (cI, 100, .inl (aI (gd 100 (fun _ => 0))))), (q5, .inl (cI, 8, .inl (aI (gd 8 (fun _ => 0))))), (q6, .inl (cI, 120, .inl (aI (gd 120 (fun _ => 0)))))] : va_W)) H := hP
  have hD : va_D A (([(a, .inr (4, [.ref q1, .ref q2, .ref q3, .ref q4, .int (iI 0), .ref q5, .ref q6, .int (iI 0), .null, .null, .null, .int (iI 0), .int (iI 0), .int (iI 0), .int (iI 0), .int (iI 0), .int (iI 0), .int (iI 0)])), (q1, .inl (cI, 100, .inl (aI (gd 100 (fun _ => 0))))), (q2, .inl (cI, 100, .inl (aI (gd 100 (fun _ => 0))))), (q3, .inl (cI, 100, .inl (aI (gd 100 (fun _ => 0))))), (q4, .inl (cI, 100, .inl (aI (gd 100 (fun _ => 0))))), (q5, .inl (cI, 8, .inl (aI (gd 8 (fun _ => 0))))), (q6, .inl (cI, 120, .inl (aI (gd 120 (fun _ => 0)))))] : va_W)) := hD
  refine lv_aload_n hx hb dX5_init_52 rfl (lv_at hl 0 rfl) ?_
  refine x_iconst hx hb dX5_init_53 ?_
  refine x_newI hx hb (hts (.arrayClass .int) (by decide +kernel)) hK hP hD hS hA 4 rfl (by decide) (Nat.le_of_ble_eq_true rfl) (Nat.le_of_ble_eq_true rfl) dX5_init_54 (fun q7 H hP hD hS => ?_)
  have hP : va_P D vwCl (([(a, .inr (4, [.ref q1, .ref q2, .ref q3, .ref q4, .int (iI 0), .ref q5, .ref q6, .int (iI 0), .null, .null, .null, .int (iI 0), .int (iI 0), .int (iI 0), .int (iI 0), .int (iI 0), .int (iI 0), .int (iI 0)])), (q1, .inl (cI, 100, .inl (aI (gd 100 (fun _ => 0))))), (q2, .inl (cI, 100, .inl (aI (gd 100 (fun _ => 0))))), (q3, .inl (cI, 100, .inl (aI (gd 100 (fun _ => 0))))), (q4, .inl (cI, 100, .inl (aI (gd 100 (fun _ => 0))))), (q5, .inl (cI, 8, .inl (aI (gd 8 (fun _ => 0))))), (q6, .inl (cI, 120, .inl (aI (gd 120 (fun _ => 0))))), (q7, .inl (cI, 4, .inl (aI (gd 4 (fun _ => 0)))))] : va_W)) H := hP
  have hD : va_D A (([(a, .inr (4, [.ref q1, .ref q2, .ref q3, .ref q4, .int (iI 0), .ref q5, .ref q6, .int (iI 0), .null, .null, .null, .int (iI 0), .int (iI 0), .int (iI 0), .int (iI 0), .int (iI 0), .int (iI 0), .int (iI 0)])), (q1, .inl (cI, 100, .inl (aI (gd 100 (fun _ => 0))))), (q2, .inl (cI, 100, .inl (aI (gd 100 (fun _ => 0))))), (q3, .inl (cI, 100, .inl (aI (gd 100 (fun _ => 0))))), (q4, .inl (cI, 100, .inl (aI (gd 100 (fun _ => 0))))), (q5, .inl (cI, 8, .inl (aI (gd 8 (fun _ => 0))))), (q6, .inl (cI, 120, .inl (aI (gd 120 (fun _ => 0))))), (q7, .inl (cI, 4, .inl (aI (gd 4 (fun _ => 0)))))] : va_W)) := hD
  refine W.widen (k := 7) (n := 532) (Nat.le_of_ble_eq_true rfl) (Nat.le_of_ble_eq_true rfl) ?_
  refine lv_dup hx hb dX5_init_56 rfl ?_
  refine x_iconst hx hb dX5_init_57 ?_
  refine x_iconst hx hb dX5_init_58 ?_
  refine x_iast hx hb hK hP hD hS 7 0 rfl rfl 0 rfl (by decide) (by decide) (([(a, .inr (4, [.ref q1, .ref q2, .ref q3, .ref q4, .int (iI 0), .ref q5, .ref q6, .int (iI 0), .null, .null, .null, .int (iI 0), .int (iI 0), .int (iI 0), .int (iI 0), .int (iI 0), .int (iI 0), .int (iI 0)])), (q1, .inl (cI, 100, .inl (aI (gd 100 (fun _ => 0))))), (q2, .inl (cI, 100, .inl (aI (gd 100 (fun _ => 0))))), (q3, .inl (cI, 100, .inl (aI (gd 100 (fun _ => 0))))), (q4, .inl (cI, 100, .inl (aI (gd 100 (fun _ => 0))))), (q5, .inl (cI, 8, .inl (aI (gd 8 (fun _ => 0))))), (q6, .inl (cI, 120, .inl (aI (gd 120 (fun _ => 0))))), (q7, .inl (cI, 4, .inl (aI (va_up (gd 4 (fun _ => 0)) 0 (-1)))))] : va_W)) rfl dX5_init_59 (fun H locs hP hD hS => ?_)
  refine lv_dup hx hb dX5_init_60 rfl ?_
  refine x_iconst hx hb dX5_init_61 ?_
  refine x_iconst hx hb dX5_init_62 ?_
  refine x_iast hx hb hK hP hD hS 7 0 rfl rfl 1 rfl (by decide) (by decide) (([(a, .inr (4, [.ref q1, .ref q2, .ref q3, .ref q4, .int (iI 0), .ref q5, .ref q6, .int (iI 0), .null, .null, .null, .int (iI 0), .int (iI 0), .int (iI 0), .int (iI 0), .int (iI 0), .int (iI 0), .int (iI 0)])), (q1, .inl (cI, 100, .inl (aI (gd 100 (fun _ => 0))))), (q2, .inl (cI, 100, .inl (aI (gd 100 (fun _ => 0))))), (q3, .inl (cI, 100, .inl (aI (gd 100 (fun _ => 0))))), (q4, .inl (cI, 100, .inl (aI (gd 100 (fun _ => 0))))), (q5, .inl (cI, 8, .inl (aI (gd 8 (fun _ => 0))))), (q6, .inl (cI, 120, .inl (aI (gd 120 (fun _ => 0))))), (q7, .inl (cI, 4, .inl (aI (va_up (va_up (gd 4 (fun _ => 0)) 0 (-1)) 1 (-1)))))] : va_W)) rfl dX5_init_63 (fun H locs hP hD hS => ?_)
  refine lv_dup hx hb dX5_init_64 rfl ?_
  refine x_iconst hx hb dX5_init_65 ?_
  refine x_iconst hx hb dX5_init_66 ?_
  refine x_iast hx hb hK hP hD hS 7 0 rfl rfl 2 rfl (by decide) (by decide) (([(a, .inr (4, [.ref q1, .ref q2, .ref q3, .ref q4, .int (iI 0), .ref q5, .ref q6, .int (iI 0), .null, .null, .null, .int (iI 0), .int (iI 0), .int (iI 0), .int (iI 0), .int (iI 0), .int (iI 0), .int (iI 0)])), (q1, .inl (cI, 100, .inl (aI (gd 100 (fun _ => 0))))), (q2, .inl (cI, 100, .inl (aI (gd 100 (fun _ => 0))))), (q3, .inl (cI, 100, .inl (aI (gd 100 (fun _ => 0))))), (q4, .inl (cI, 100, .inl (aI (gd 100 (fun _ => 0))))), (q5, .inl (cI, 8, .inl (aI (gd 8 (fun _ => 0))))), (q6, .inl (cI, 120, .inl (aI (gd 120 (fun _ => 0))))), (q7, .inl (cI, 4, .inl (aI (va_up (va_up (va_up (gd 4 (fun _ => 0)) 0 (-1)) 1 (-1)) 2 (-1)))))] : va_W)) rfl dX5_init_67 (fun H locs hP hD hS => ?_)
  refine lv_dup hx hb dX5_init_68 rfl ?_
  refine x_iconst hx hb dX5_init_69 ?_
  refine x_iconst hx hb dX5_init_70 ?_
  refine x_iast hx hb hK hP hD hS 7 0 rfl rfl 3 rfl (by decide) (by decide) (([(a, .inr (4, [.ref q1, .ref q2, .ref q3, .ref q4, .int (iI 0), .ref q5, .ref q6, .int (iI 0), .null, .null, .null, .int (iI 0), .int (iI 0), .int (iI 0), .int (iI 0), .int (iI 0), .int (iI 0), .int (iI 0)])), (q1, .inl (cI, 100, .inl (aI (gd 100 (fun _ => 0))))), (q2, .inl (cI, 100, .inl (aI (gd 100 (fun _ => 0))))), (q3, .inl (cI, 100, .inl (aI (gd 100 (fun _ => 0))))), (q4, .inl (cI, 100, .inl (aI (gd 100 (fun _ => 0))))), (q5, .inl (cI, 8, .inl (aI (gd 8 (fun _ => 0))))), (q6, .inl (cI, 120, .inl (aI (gd 120 (fun _ => 0))))), (q7, .inl (cI, 4, .inl (aI (va_up (va_up (va_up (va_up (gd 4 (fun _ => 0)) 0 (-1)) 1 (-1)) 2 (-1)) 3 (-1)))))] : va_W)) rfl dX5_init_71 (fun H locs hP hD hS => ?_)
  refine va_putF (D := D) (ci := 4) (v := .ref q7) (ty := .array .int) (C := RX5) (T := TX5) (N := 18) hx hb hts (iN_X5_init_X5) tyX5 tyX5_ok nmX5 hown hK hP hD hS 0 rfl rfl 8 (by decide) (hts (.fieldLink RX5 28 "WordSupperModel" "bitsOf" "[I") (by decide +kernel)) (fun _ h9 => h9) rfl hin rfl (by decide +kernel) rfl rfl (Nat.le_of_ble_eq_true rfl) dX5_init_72 (fun H locs hP hD hS => ?_)
  have hP : va_P D vwCl (([(a, .inr (4, [.ref q1, .ref q2, .ref q3, .ref q4, .int (iI 0), .ref q5, .ref q6, .int (iI 0), .ref q7, .null, .null, .int (iI 0), .int (iI 0), .int (iI 0), .int (iI 0), .int (iI 0), .int (iI 0), .int (iI 0)])), (q1, .inl (cI, 100, .inl (aI (gd 100 (fun _ => 0))))), (q2, .inl (cI, 100, .inl (aI (gd 100 (fun _ => 0))))), (q3, .inl (cI, 100, .inl (aI (gd 100 (fun _ => 0))))), (q4, .inl (cI, 100, .inl (aI (gd 100 (fun _ => 0))))), (q5, .inl (cI, 8, .inl (aI (gd 8 (fun _ => 0))))), (q6, .inl (cI, 120, .inl (aI (gd 120 (fun _ => 0))))), (q7, .inl (cI, 4, .inl (aI (va_up (va_up (va_up (va_up (gd 4 (fun _ => 0)) 0 (-1)) 1 (-1)) 2 (-1)) 3 (-1)))))] : va_W)) H := hP
  have hD : va_D A (([(a, .inr (4, [.ref q1, .ref q2, .ref q3, .ref q4, .int (iI 0), .ref q5, .ref q6, .int (iI 0), .ref q7, .null, .null, .int (iI 0), .int (iI 0), .int (iI 0), .int (iI 0), .int (iI 0), .int (iI 0), .int (iI 0)])), (q1, .inl (cI, 100, .inl (aI (gd 100 (fun _ => 0))))), (q2, .inl (cI, 100, .inl (aI (gd 100 (fun _ => 0))))), (q3, .inl (cI, 100, .inl (aI (gd 100 (fun _ => 0))))), (q4, .inl (cI, 100, .inl (aI (gd 100 (fun _ => 0))))), (q5, .inl (cI, 8, .inl (aI (gd 8 (fun _ => 0))))), (q6, .inl (cI, 120, .inl (aI (gd 120 (fun _ => 0))))), (q7, .inl (cI, 4, .inl (aI (va_up (va_up (va_up (va_up (gd 4 (fun _ => 0)) 0 (-1)) 1 (-1)) 2 (-1)) 3 (-1)))))] : va_W)) := hD
  refine lv_aload_n hx hb dX5_init_75 rfl (lv_at hl 0 rfl) ?_
  refine x_iconst hx hb dX5_init_76 ?_
  refine x_newI hx hb (hts (.arrayClass .int) (by decide +kernel)) hK hP hD hS hA 4 rfl (by decide) (Nat.le_of_ble_eq_true rfl) (Nat.le_of_ble_eq_true rfl) dX5_init_77 (fun q8 H hP hD hS => ?_)
  have hP : va_P D vwCl (([(a, .inr (4, [.ref q1, .ref q2, .ref q3, .ref q4, .int (iI 0), .ref q5, .ref q6, .int (iI 0), .ref q7, .null, .null, .int (iI 0), .int (iI 0), .int (iI 0), .int (iI 0), .int (iI 0), .int (iI 0), .int (iI 0)])), (q1, .inl (cI, 100, .inl (aI (gd 100 (fun _ => 0))))), (q2, .inl (cI, 100, .inl (aI (gd 100 (fun _ => 0))))), (q3, .inl (cI, 100, .inl (aI (gd 100 (fun _ => 0))))), (q4, .inl (cI, 100, .inl (aI (gd 100 (fun _ => 0))))), (q5, .inl (cI, 8, .inl (aI (gd 8 (fun _ => 0))))), (q6, .inl (cI, 120, .inl (aI (gd 120 (fun _ => 0))))), (q7, .inl (cI, 4, .inl (aI (va_up (va_up (va_up (va_up (gd 4 (fun _ => 0)) 0 (-1)) 1 (-1)) 2 (-1)) 3 (-1))))), (q8, .inl (cI, 4, .inl (aI (gd 4 (fun _ => 0)))))] : va_W)) H := hP
  have hD : va_D A (([(a, .inr (4, [.ref q1, .ref q2, .ref q3, .ref q4, .int (iI 0), .ref q5, .ref q6, .int (iI 0), .ref q7, .null, .null, .int (iI 0), .int (iI 0), .int (iI 0), .int (iI 0), .int (iI 0), .int (iI 0), .int (iI 0)])), (q1, .inl (cI, 100, .inl (aI (gd 100 (fun _ => 0))))), (q2, .inl (cI, 100, .inl (aI (gd 100 (fun _ => 0))))), (q3, .inl (cI, 100, .inl (aI (gd 100 (fun _ => 0))))), (q4, .inl (cI, 100, .inl (aI (gd 100 (fun _ => 0))))), (q5, .inl (cI, 8, .inl (aI (gd 8 (fun _ => 0))))), (q6, .inl (cI, 120, .inl (aI (gd 120 (fun _ => 0))))), (q7, .inl (cI, 4, .inl (aI (va_up (va_up (va_up (va_up (gd 4 (fun _ => 0)) 0 (-1)) 1 (-1)) 2 (-1)) 3 (-1))))), (q8, .inl (cI, 4, .inl (aI (gd 4 (fun _ => 0)))))] : va_W)) := hD
  refine W.widen (k := 8) (n := 536) (Nat.le_of_ble_eq_true rfl) (Nat.le_of_ble_eq_true rfl) ?_
  refine va_putF (D := D) (ci := 4) (v := .ref q8) (ty := .array .int) (C := RX5) (T := TX5) (N := 18) hx hb hts (iN_X5_init_X5) tyX5 tyX5_ok nmX5 hown hK hP hD hS 0 rfl rfl 9 (by decide) (hts (.fieldLink RX5 31 "WordSupperModel" "sizes" "[I") (by decide +kernel)) (fun _ h9 => h9) rfl hin rfl (by decide +kernel) rfl rfl (Nat.le_of_ble_eq_true rfl) dX5_init_79 (fun H locs hP hD hS => ?_)
  have hP : va_P D vwCl (([(a, .inr (4, [.ref q1, .ref q2, .ref q3, .ref q4, .int (iI 0), .ref q5, .ref q6, .int (iI 0), .ref q7, .ref q8, .null, .int (iI 0), .int (iI 0), .int (iI 0), .int (iI 0), .int (iI 0), .int (iI 0), .int (iI 0)])), (q1, .inl (cI, 100, .inl (aI (gd 100 (fun _ => 0))))), (q2, .inl (cI, 100, .inl (aI (gd 100 (fun _ => 0))))), (q3, .inl (cI, 100, .inl (aI (gd 100 (fun _ => 0))))), (q4, .inl (cI, 100, .inl (aI (gd 100 (fun _ => 0))))), (q5, .inl (cI, 8, .inl (aI (gd 8 (fun _ => 0))))), (q6, .inl (cI, 120, .inl (aI (gd 120 (fun _ => 0))))), (q7, .inl (cI, 4, .inl (aI (va_up (va_up (va_up (va_up (gd 4 (fun _ => 0)) 0 (-1)) 1 (-1)) 2 (-1)) 3 (-1))))), (q8, .inl (cI, 4, .inl (aI (gd 4 (fun _ => 0)))))] : va_W)) H := hP
  have hD : va_D A (([(a, .inr (4, [.ref q1, .ref q2, .ref q3, .ref q4, .int (iI 0), .ref q5, .ref q6, .int (iI 0), .ref q7, .ref q8, .null, .int (iI 0), .int (iI 0), .int (iI 0), .int (iI 0), .int (iI 0), .int (iI 0), .int (iI 0)])), (q1, .inl (cI, 100, .inl (aI (gd 100 (fun _ => 0))))), (q2, .inl (cI, 100, .inl (aI (gd 100 (fun _ => 0))))), (q3, .inl (cI, 100, .inl (aI (gd 100 (fun _ => 0))))), (q4, .inl (cI, 100, .inl (aI (gd 100 (fun _ => 0))))), (q5, .inl (cI, 8, .inl (aI (gd 8 (fun _ => 0))))), (q6, .inl (cI, 120, .inl (aI (gd 120 (fun _ => 0))))), (q7, .inl (cI, 4, .inl (aI (va_up (va_up (va_up (va_up (gd 4 (fun _ => 0)) 0 (-1)) 1 (-1)) 2 (-1)) 3 (-1))))), (q8, .inl (cI, 4, .inl (aI (gd 4 (fun _ => 0)))))] : va_W)) := hD
  refine lv_aload_n hx hb dX5_init_82 rfl (lv_at hl 0 rfl) ?_
  refine x_sipush hx hb dX5_init_83 (by decide) ?_
  refine x_newI hx hb (hts (.arrayClass .int) (by decide +kernel)) hK hP hD hS hA 160 rfl (by decide) (Nat.le_of_ble_eq_true rfl) (Nat.le_of_ble_eq_true rfl) dX5_init_86 (fun q9 H hP hD hS => ?_)
  have hP : va_P D vwCl (([(a, .inr (4, [.ref q1, .ref q2, .ref q3, .ref q4, .int (iI 0), .ref q5, .ref q6, .int (iI 0), .ref q7, .ref q8, .null, .int (iI 0), .int (iI 0), .int (iI 0), .int (iI 0), .int (iI 0), .int (iI 0), .int (iI 0)])), (q1, .inl (cI, 100, .inl (aI (gd 100 (fun _ => 0))))), (q2, .inl (cI, 100, .inl (aI (gd 100 (fun _ => 0))))), (q3, .inl (cI, 100, .inl (aI (gd 100 (fun _ => 0))))), (q4, .inl (cI, 100, .inl (aI (gd 100 (fun _ => 0))))), (q5, .inl (cI, 8, .inl (aI (gd 8 (fun _ => 0))))), (q6, .inl (cI, 120, .inl (aI (gd 120 (fun _ => 0))))), (q7, .inl (cI, 4, .inl (aI (va_up (va_up (va_up (va_up (gd 4 (fun _ => 0)) 0 (-1)) 1 (-1)) 2 (-1)) 3 (-1))))), (q8, .inl (cI, 4, .inl (aI (gd 4 (fun _ => 0))))), (q9, .inl (cI, 160, .inl (aI (gd 160 (fun _ => 0)))))] : va_W)) H := hP
  have hD : va_D A (([(a, .inr (4, [.ref q1, .ref q2, .ref q3, .ref q4, .int (iI 0), .ref q5, .ref q6, .int (iI 0), .ref q7, .ref q8, .null, .int (iI 0), .int (iI 0), .int (iI 0), .int (iI 0), .int (iI 0), .int (iI 0), .int (iI 0)])), (q1, .inl (cI, 100, .inl (aI (gd 100 (fun _ => 0))))), (q2, .inl (cI, 100, .inl (aI (gd 100 (fun _ => 0))))), (q3, .inl (cI, 100, .inl (aI (gd 100 (fun _ => 0))))), (q4, .inl (cI, 100, .inl (aI (gd 100 (fun _ => 0))))), (q5, .inl (cI, 8, .inl (aI (gd 8 (fun _ => 0))))), (q6, .inl (cI, 120, .inl (aI (gd 120 (fun _ => 0))))), (q7, .inl (cI, 4, .inl (aI (va_up (va_up (va_up (va_up (gd 4 (fun _ => 0)) 0 (-1)) 1 (-1)) 2 (-1)) 3 (-1))))), (q8, .inl (cI, 4, .inl (aI (gd 4 (fun _ => 0))))), (q9, .inl (cI, 160, .inl (aI (gd 160 (fun _ => 0)))))] : va_W)) := hD
  refine W.widen (k := 9) (n := 696) (Nat.le_of_ble_eq_true rfl) (Nat.le_of_ble_eq_true rfl) ?_
  refine va_putF (D := D) (ci := 4) (v := .ref q9) (ty := .array .int) (C := RX5) (T := TX5) (N := 18) hx hb hts (iN_X5_init_X5) tyX5 tyX5_ok nmX5 hown hK hP hD hS 0 rfl rfl 10 (by decide) (hts (.fieldLink RX5 34 "WordSupperModel" "numbers" "[I") (by decide +kernel)) (fun _ h9 => h9) rfl hin rfl (by decide +kernel) rfl rfl (Nat.le_of_ble_eq_true rfl) dX5_init_88 (fun H locs hP hD hS => ?_)
  have hP : va_P D vwCl (([(a, .inr (4, [.ref q1, .ref q2, .ref q3, .ref q4, .int (iI 0), .ref q5, .ref q6, .int (iI 0), .ref q7, .ref q8, .ref q9, .int (iI 0), .int (iI 0), .int (iI 0), .int (iI 0), .int (iI 0), .int (iI 0), .int (iI 0)])), (q1, .inl (cI, 100, .inl (aI (gd 100 (fun _ => 0))))), (q2, .inl (cI, 100, .inl (aI (gd 100 (fun _ => 0))))), (q3, .inl (cI, 100, .inl (aI (gd 100 (fun _ => 0))))), (q4, .inl (cI, 100, .inl (aI (gd 100 (fun _ => 0))))), (q5, .inl (cI, 8, .inl (aI (gd 8 (fun _ => 0))))), (q6, .inl (cI, 120, .inl (aI (gd 120 (fun _ => 0))))), (q7, .inl (cI, 4, .inl (aI (va_up (va_up (va_up (va_up (gd 4 (fun _ => 0)) 0 (-1)) 1 (-1)) 2 (-1)) 3 (-1))))), (q8, .inl (cI, 4, .inl (aI (gd 4 (fun _ => 0))))), (q9, .inl (cI, 160, .inl (aI (gd 160 (fun _ => 0)))))] : va_W)) H := hP
  have hD : va_D A (([(a, .inr (4, [.ref q1, .ref q2, .ref q3, .ref q4, .int (iI 0), .ref q5, .ref q6, .int (iI 0), .ref q7, .ref q8, .ref q9, .int (iI 0), .int (iI 0), .int (iI 0), .int (iI 0), .int (iI 0), .int (iI 0), .int (iI 0)])), (q1, .inl (cI, 100, .inl (aI (gd 100 (fun _ => 0))))), (q2, .inl (cI, 100, .inl (aI (gd 100 (fun _ => 0))))), (q3, .inl (cI, 100, .inl (aI (gd 100 (fun _ => 0))))), (q4, .inl (cI, 100, .inl (aI (gd 100 (fun _ => 0))))), (q5, .inl (cI, 8, .inl (aI (gd 8 (fun _ => 0))))), (q6, .inl (cI, 120, .inl (aI (gd 120 (fun _ => 0))))), (q7, .inl (cI, 4, .inl (aI (va_up (va_up (va_up (va_up (gd 4 (fun _ => 0)) 0 (-1)) 1 (-1)) 2 (-1)) 3 (-1))))), (q8, .inl (cI, 4, .inl (aI (gd 4 (fun _ => 0))))), (q9, .inl (cI, 160, .inl (aI (gd 160 (fun _ => 0)))))] : va_W)) := hD
  refine lv_aload_n hx hb dX5_init_91 rfl (lv_at hl 0 rfl) ?_
  refine va_get (D := D) (ci := 4) (v := .ref q1) (C := RX5) (T := TX5) (N := 18) hx hb hts (iN_X5_init_X5) hown hK hP 0 rfl rfl 0 (by decide) (hts (.fieldLink RX5 7 "WordSupperModel" "s" "[I") (by decide +kernel)) (fun _ h9 => h9) rfl dX5_init_92 ?_
  refine x_iconst hx hb dX5_init_95 ?_
  refine x_iconst hx hb dX5_init_96 ?_
  refine x_iast hx hb hK hP hD hS 1 0 rfl rfl 2 rfl (by decide) (by decide) (([(a, .inr (4, [.ref q1, .ref q2, .ref q3, .ref q4, .int (iI 0), .ref q5, .ref q6, .int (iI 0), .ref q7, .ref q8, .ref q9, .int (iI 0), .int (iI 0), .int (iI 0), .int (iI 0), .int (iI 0), .int (iI 0), .int (iI 0)])), (q1, .inl (cI, 100, .inl (aI (va_up (gd 100 (fun _ => 0)) 2 1)))), (q2, .inl (cI, 100, .inl (aI (gd 100 (fun _ => 0))))), (q3, .inl (cI, 100, .inl (aI (gd 100 (fun _ => 0))))), (q4, .inl (cI, 100, .inl (aI (gd 100 (fun _ => 0))))), (q5, .inl (cI, 8, .inl (aI (gd 8 (fun _ => 0))))), (q6, .inl (cI, 120, .inl (aI (gd 120 (fun _ => 0))))), (q7, .inl (cI, 4, .inl (aI (va_up (va_up (va_up (va_up (gd 4 (fun _ => 0)) 0 (-1)) 1 (-1)) 2 (-1)) 3 (-1))))), (q8, .inl (cI, 4, .inl (aI (gd 4 (fun _ => 0))))), (q9, .inl (cI, 160, .inl (aI (gd 160 (fun _ => 0)))))] : va_W)) rfl dX5_init_97 (fun H locs hP hD hS => ?_)
  refine lv_aload_n hx hb dX5_init_98 rfl (lv_at hl 0 rfl) ?_
  refine va_get (D := D) (ci := 4) (v := .ref q1) (C := RX5) (T := TX5) (N := 18) hx hb hts (iN_X5_init_X5) hown hK hP 0 rfl rfl 0 (by decide) (hts (.fieldLink RX5 7 "WordSupperModel" "s" "[I") (by decide +kernel)) (fun _ h9 => h9) rfl dX5_init_99 ?_
  refine x_iconst hx hb dX5_init_102 ?_
  refine x_iconst hx hb dX5_init_103 ?_
  refine x_iast hx hb hK hP hD hS 1 0 rfl rfl 3 rfl (by decide) (by decide) (([(a, .inr (4, [.ref q1, .ref q2, .ref q3, .ref q4, .int (iI 0), .ref q5, .ref q6, .int (iI 0), .ref q7, .ref q8, .ref q9, .int (iI 0), .int (iI 0), .int (iI 0), .int (iI 0), .int (iI 0), .int (iI 0), .int (iI 0)])), (q1, .inl (cI, 100, .inl (aI (va_up (va_up (gd 100 (fun _ => 0)) 2 1) 3 1)))), (q2, .inl (cI, 100, .inl (aI (gd 100 (fun _ => 0))))), (q3, .inl (cI, 100, .inl (aI (gd 100 (fun _ => 0))))), (q4, .inl (cI, 100, .inl (aI (gd 100 (fun _ => 0))))), (q5, .inl (cI, 8, .inl (aI (gd 8 (fun _ => 0))))), (q6, .inl (cI, 120, .inl (aI (gd 120 (fun _ => 0))))), (q7, .inl (cI, 4, .inl (aI (va_up (va_up (va_up (va_up (gd 4 (fun _ => 0)) 0 (-1)) 1 (-1)) 2 (-1)) 3 (-1))))), (q8, .inl (cI, 4, .inl (aI (gd 4 (fun _ => 0))))), (q9, .inl (cI, 160, .inl (aI (gd 160 (fun _ => 0)))))] : va_W)) rfl dX5_init_104 (fun H locs hP hD hS => ?_)
  refine x_iconst hx hb dX5_init_105 ?_
  refine lv_istore_n (lv' := [(1, .int (iI 0)), (0, .ref a)]) hx hb dX5_init_106 rfl hl (by decide) rfl (fun ls hl => ?_)
  refine lv_iload_n hx hb dX5_init_107 rfl (lv_at hl 0 rfl) ?_
  refine x_bipush hx hb dX5_init_108 (by decide) ?_
  refine x_icmp_ge (tgt := 129) hx hb (by decide) (by decide) dX5_init_110 (by decide) (fun c9 => ?_) (fun c9 => ?_)
  · exact absurd c9 (by decide)
  refine lv_aload_n hx hb dX5_init_113 rfl (lv_at hl 1 rfl) ?_
  refine va_get (D := D) (ci := 4) (v := .ref q1) (C := RX5) (T := TX5) (N := 18) hx hb hts (iN_X5_init_X5) hown hK hP 0 rfl rfl 0 (by decide) (hts (.fieldLink RX5 7 "WordSupperModel" "s" "[I") (by decide +kernel)) (fun _ h9 => h9) rfl dX5_init_114 ?_
  refine x_bipush hx hb dX5_init_117 (by decide) ?_
  refine lv_iload_n hx hb dX5_init_119 rfl (lv_at hl 0 rfl) ?_
  refine x_iadd hx hb dX5_init_120 ?_
  refine x_topi 90 (by decide) ?_
  refine x_iconst hx hb dX5_init_121 ?_
  refine x_iast hx hb hK hP hD hS 1 0 rfl rfl 90 rfl (by decide) (by decide) (([(a, .inr (4, [.ref q1, .ref q2, .ref q3, .ref q4, .int (iI 0), .ref q5, .ref q6, .int (iI 0), .ref q7, .ref q8, .ref q9, .int (iI 0), .int (iI 0), .int (iI 0), .int (iI 0), .int (iI 0), .int (iI 0), .int (iI 0)])), (q1, .inl (cI, 100, .inl (aI (va_up (va_up (va_up (gd 100 (fun _ => 0)) 2 1) 3 1) 90 (-1))))), (q2, .inl (cI, 100, .inl (aI (gd 100 (fun _ => 0))))), (q3, .inl (cI, 100, .inl (aI (gd 100 (fun _ => 0))))), (q4, .inl (cI, 100, .inl (aI (gd 100 (fun _ => 0))))), (q5, .inl (cI, 8, .inl (aI (gd 8 (fun _ => 0))))), (q6, .inl (cI, 120, .inl (aI (gd 120 (fun _ => 0))))), (q7, .inl (cI, 4, .inl (aI (va_up (va_up (va_up (va_up (gd 4 (fun _ => 0)) 0 (-1)) 1 (-1)) 2 (-1)) 3 (-1))))), (q8, .inl (cI, 4, .inl (aI (gd 4 (fun _ => 0))))), (q9, .inl (cI, 160, .inl (aI (gd 160 (fun _ => 0)))))] : va_W)) rfl dX5_init_122 (fun H locs hP hD hS => ?_)
  refine x_iinc hx hb 0 1 (by decide) [(1, .int (iI 1)), (0, .ref a)] dX5_init_123 hl rfl (by decide) rfl (fun ls hl => ?_)
  refine lv_goto (tgt := 107) hx hb dX5_init_126 (by decide) ?_
  refine lv_iload_n hx hb dX5_init_107 rfl (lv_at hl 0 rfl) ?_
  refine x_bipush hx hb dX5_init_108 (by decide) ?_
  refine x_icmp_ge (tgt := 129) hx hb (by decide) (by decide) dX5_init_110 (by decide) (fun c9 => ?_) (fun c9 => ?_)
  · exact absurd c9 (by decide)
  refine lv_aload_n hx hb dX5_init_113 rfl (lv_at hl 1 rfl) ?_
  refine va_get (D := D) (ci := 4) (v := .ref q1) (C := RX5) (T := TX5) (N := 18) hx hb hts (iN_X5_init_X5) hown hK hP 0 rfl rfl 0 (by decide) (hts (.fieldLink RX5 7 "WordSupperModel" "s" "[I") (by decide +kernel)) (fun _ h9 => h9) rfl dX5_init_114 ?_
  refine x_bipush hx hb dX5_init_117 (by decide) ?_
  refine lv_iload_n hx hb dX5_init_119 rfl (lv_at hl 0 rfl) ?_
  refine x_iadd hx hb dX5_init_120 ?_
  refine x_topi 91 (by decide) ?_
  refine x_iconst hx hb dX5_init_121 ?_
  refine x_iast hx hb hK hP hD hS 1 0 rfl rfl 91 rfl (by decide) (by decide) (([(a, .inr (4, [.ref q1, .ref q2, .ref q3, .ref q4, .int (iI 0), .ref q5, .ref q6, .int (iI 0), .ref q7, .ref q8, .ref q9, .int (iI 0), .int (iI 0), .int (iI 0), .int (iI 0), .int (iI 0), .int (iI 0), .int (iI 0)])), (q1, .inl (cI, 100, .inl (aI (va_up (va_up (va_up (va_up (gd 100 (fun _ => 0)) 2 1) 3 1) 90 (-1)) 91 (-1))))), (q2, .inl (cI, 100, .inl (aI (gd 100 (fun _ => 0))))), (q3, .inl (cI, 100, .inl (aI (gd 100 (fun _ => 0))))), (q4, .inl (cI, 100, .inl (aI (gd 100 (fun _ => 0))))), (q5, .inl (cI, 8, .inl (aI (gd 8 (fun _ => 0))))), (q6, .inl (cI, 120, .inl (aI (gd 120 (fun _ => 0))))), (q7, .inl (cI, 4, .inl (aI (va_up (va_up (va_up (va_up (gd 4 (fun _ => 0)) 0 (-1)) 1 (-1)) 2 (-1)) 3 (-1))))), (q8, .inl (cI, 4, .inl (aI (gd 4 (fun _ => 0))))), (q9, .inl (cI, 160, .inl (aI (gd 160 (fun _ => 0)))))] : va_W)) rfl dX5_init_122 (fun H locs hP hD hS => ?_)
  refine x_iinc hx hb 0 2 (by decide) [(1, .int (iI 2)), (0, .ref a)] dX5_init_123 hl rfl (by decide) rfl (fun ls hl => ?_)
  refine lv_goto (tgt := 107) hx hb dX5_init_126 (by decide) ?_
  refine lv_iload_n hx hb dX5_init_107 rfl (lv_at hl 0 rfl) ?_
  refine x_bipush hx hb dX5_init_108 (by decide) ?_
  refine x_icmp_ge (tgt := 129) hx hb (by decide) (by decide) dX5_init_110 (by decide) (fun c9 => ?_) (fun c9 => ?_)
  · exact absurd c9 (by decide)
  refine lv_aload_n hx hb dX5_init_113 rfl (lv_at hl 1 rfl) ?_
  refine va_get (D := D) (ci := 4) (v := .ref q1) (C := RX5) (T := TX5) (N := 18) hx hb hts (iN_X5_init_X5) hown hK hP 0 rfl rfl 0 (by decide) (hts (.fieldLink RX5 7 "WordSupperModel" "s" "[I") (by decide +kernel)) (fun _ h9 => h9) rfl dX5_init_114 ?_
  refine x_bipush hx hb dX5_init_117 (by decide) ?_
  refine lv_iload_n hx hb dX5_init_119 rfl (lv_at hl 0 rfl) ?_
  refine x_iadd hx hb dX5_init_120 ?_
  refine x_topi 92 (by decide) ?_
  refine x_iconst hx hb dX5_init_121 ?_
  refine x_iast hx hb hK hP hD hS 1 0 rfl rfl 92 rfl (by decide) (by decide) (([(a, .inr (4, [.ref q1, .ref q2, .ref q3, .ref q4, .int (iI 0), .ref q5, .ref q6, .int (iI 0), .ref q7, .ref q8, .ref q9, .int (iI 0), .int (iI 0), .int (iI 0), .int (iI 0), .int (iI 0), .int (iI 0), .int (iI 0)])), (q1, .inl (cI, 100, .inl (aI (va_up (va_up (va_up (va_up (va_up (gd 100 (fun _ => 0)) 2 1) 3 1) 90 (-1)) 91 (-1)) 92 (-1))))), (q2, .inl (cI, 100, .inl (aI (gd 100 (fun _ => 0))))), (q3, .inl (cI, 100, .inl (aI (gd 100 (fun _ => 0))))), (q4, .inl (cI, 100, .inl (aI (gd 100 (fun _ => 0))))), (q5, .inl (cI, 8, .inl (aI (gd 8 (fun _ => 0))))), (q6, .inl (cI, 120, .inl (aI (gd 120 (fun _ => 0))))), (q7, .inl (cI, 4, .inl (aI (va_up (va_up (va_up (va_up (gd 4 (fun _ => 0)) 0 (-1)) 1 (-1)) 2 (-1)) 3 (-1))))), (q8, .inl (cI, 4, .inl (aI (gd 4 (fun _ => 0))))), (q9, .inl (cI, 160, .inl (aI (gd 160 (fun _ => 0)))))] : va_W)) rfl dX5_init_122 (fun H locs hP hD hS => ?_)
  refine x_iinc hx hb 0 3 (by decide) [(1, .int (iI 3)), (0, .ref a)] dX5_init_123 hl rfl (by decide) rfl (fun ls hl => ?_)
  refine lv_goto (tgt := 107) hx hb dX5_init_126 (by decide) ?_
  refine lv_iload_n hx hb dX5_init_107 rfl (lv_at hl 0 rfl) ?_
  refine x_bipush hx hb dX5_init_108 (by decide) ?_
  refine x_icmp_ge (tgt := 129) hx hb (by decide) (by decide) dX5_init_110 (by decide) (fun c9 => ?_) (fun c9 => ?_)
  · exact absurd c9 (by decide)
  refine lv_aload_n hx hb dX5_init_113 rfl (lv_at hl 1 rfl) ?_
  refine va_get (D := D) (ci := 4) (v := .ref q1) (C := RX5) (T := TX5) (N := 18) hx hb hts (iN_X5_init_X5) hown hK hP 0 rfl rfl 0 (by decide) (hts (.fieldLink RX5 7 "WordSupperModel" "s" "[I") (by decide +kernel)) (fun _ h9 => h9) rfl dX5_init_114 ?_
  refine x_bipush hx hb dX5_init_117 (by decide) ?_
  refine lv_iload_n hx hb dX5_init_119 rfl (lv_at hl 0 rfl) ?_
  refine x_iadd hx hb dX5_init_120 ?_
  refine x_topi 93 (by decide) ?_
  refine x_iconst hx hb dX5_init_121 ?_
  refine x_iast hx hb hK hP hD hS 1 0 rfl rfl 93 rfl (by decide) (by decide) (([(a, .inr (4, [.ref q1, .ref q2, .ref q3, .ref q4, .int (iI 0), .ref q5, .ref q6, .int (iI 0), .ref q7, .ref q8, .ref q9, .int (iI 0), .int (iI 0), .int (iI 0), .int (iI 0), .int (iI 0), .int (iI 0), .int (iI 0)])), (q1, .inl (cI, 100, .inl (aI (va_up (va_up (va_up (va_up (va_up (va_up (gd 100 (fun _ => 0)) 2 1) 3 1) 90 (-1)) 91 (-1)) 92 (-1)) 93 (-1))))), (q2, .inl (cI, 100, .inl (aI (gd 100 (fun _ => 0))))), (q3, .inl (cI, 100, .inl (aI (gd 100 (fun _ => 0))))), (q4, .inl (cI, 100, .inl (aI (gd 100 (fun _ => 0))))), (q5, .inl (cI, 8, .inl (aI (gd 8 (fun _ => 0))))), (q6, .inl (cI, 120, .inl (aI (gd 120 (fun _ => 0))))), (q7, .inl (cI, 4, .inl (aI (va_up (va_up (va_up (va_up (gd 4 (fun _ => 0)) 0 (-1)) 1 (-1)) 2 (-1)) 3 (-1))))), (q8, .inl (cI, 4, .inl (aI (gd 4 (fun _ => 0))))), (q9, .inl (cI, 160, .inl (aI (gd 160 (fun _ => 0)))))] : va_W)) rfl dX5_init_122 (fun H locs hP hD hS => ?_)
  refine x_iinc hx hb 0 4 (by decide) [(1, .int (iI 4)), (0, .ref a)] dX5_init_123 hl rfl (by decide) rfl (fun ls hl => ?_)
  refine lv_goto (tgt := 107) hx hb dX5_init_126 (by decide) ?_
  refine lv_iload_n hx hb dX5_init_107 rfl (lv_at hl 0 rfl) ?_
  refine x_bipush hx hb dX5_init_108 (by decide) ?_
  refine x_icmp_ge (tgt := 129) hx hb (by decide) (by decide) dX5_init_110 (by decide) (fun c9 => ?_) (fun c9 => ?_)
  · exact absurd c9 (by decide)
  refine lv_aload_n hx hb dX5_init_113 rfl (lv_at hl 1 rfl) ?_
  refine va_get (D := D) (ci := 4) (v := .ref q1) (C := RX5) (T := TX5) (N := 18) hx hb hts (iN_X5_init_X5) hown hK hP 0 rfl rfl 0 (by decide) (hts (.fieldLink RX5 7 "WordSupperModel" "s" "[I") (by decide +kernel)) (fun _ h9 => h9) rfl dX5_init_114 ?_
  refine x_bipush hx hb dX5_init_117 (by decide) ?_
  refine lv_iload_n hx hb dX5_init_119 rfl (lv_at hl 0 rfl) ?_
  refine x_iadd hx hb dX5_init_120 ?_
  refine x_topi 94 (by decide) ?_
  refine x_iconst hx hb dX5_init_121 ?_
  refine x_iast hx hb hK hP hD hS 1 0 rfl rfl 94 rfl (by decide) (by decide) (([(a, .inr (4, [.ref q1, .ref q2, .ref q3, .ref q4, .int (iI 0), .ref q5, .ref q6, .int (iI 0), .ref q7, .ref q8, .ref q9, .int (iI 0), .int (iI 0), .int (iI 0), .int (iI 0), .int (iI 0), .int (iI 0), .int (iI 0)])), (q1, .inl (cI, 100, .inl (aI (va_up (va_up (va_up (va_up (va_up (va_up (va_up (gd 100 (fun _ => 0)) 2 1) 3 1) 90 (-1)) 91 (-1)) 92 (-1)) 93 (-1)) 94 (-1))))), (q2, .inl (cI, 100, .inl (aI (gd 100 (fun _ => 0))))), (q3, .inl (cI, 100, .inl (aI (gd 100 (fun _ => 0))))), (q4, .inl (cI, 100, .inl (aI (gd 100 (fun _ => 0))))), (q5, .inl (cI, 8, .inl (aI (gd 8 (fun _ => 0))))), (q6, .inl (cI, 120, .inl (aI (gd 120 (fun _ => 0))))), (q7, .inl (cI, 4, .inl (aI (va_up (va_up (va_up (va_up (gd 4 (fun _ => 0)) 0 (-1)) 1 (-1)) 2 (-1)) 3 (-1))))), (q8, .inl (cI, 4, .inl (aI (gd 4 (fun _ => 0))))), (q9, .inl (cI, 160, .inl (aI (gd 160 (fun _ => 0)))))] : va_W)) rfl dX5_init_122 (fun H locs hP hD hS => ?_)
  refine x_iinc hx hb 0 5 (by decide) [(1, .int (iI 5)), (0, .ref a)] dX5_init_123 hl rfl (by decide) rfl (fun ls hl => ?_)
  refine lv_goto (tgt := 107) hx hb dX5_init_126 (by decide) ?_
  refine lv_iload_n hx hb dX5_init_107 rfl (lv_at hl 0 rfl) ?_
  refine x_bipush hx hb dX5_init_108 (by decide) ?_
  refine x_icmp_ge (tgt := 129) hx hb (by decide) (by decide) dX5_init_110 (by decide) (fun c9 => ?_) (fun c9 => ?_)
  · exact absurd c9 (by decide)
  refine lv_aload_n hx hb dX5_init_113 rfl (lv_at hl 1 rfl) ?_
  refine va_get (D := D) (ci := 4) (v := .ref q1) (C := RX5) (T := TX5) (N := 18) hx hb hts (iN_X5_init_X5) hown hK hP 0 rfl rfl 0 (by decide) (hts (.fieldLink RX5 7 "WordSupperModel" "s" "[I") (by decide +kernel)) (fun _ h9 => h9) rfl dX5_init_114 ?_
  refine x_bipush hx hb dX5_init_117 (by decide) ?_
  refine lv_iload_n hx hb dX5_init_119 rfl (lv_at hl 0 rfl) ?_
  refine x_iadd hx hb dX5_init_120 ?_
  refine x_topi 95 (by decide) ?_
  refine x_iconst hx hb dX5_init_121 ?_
  refine x_iast hx hb hK hP hD hS 1 0 rfl rfl 95 rfl (by decide) (by decide) (([(a, .inr (4, [.ref q1, .ref q2, .ref q3, .ref q4, .int (iI 0), .ref q5, .ref q6, .int (iI 0), .ref q7, .ref q8, .ref q9, .int (iI 0), .int (iI 0), .int (iI 0), .int (iI 0), .int (iI 0), .int (iI 0), .int (iI 0)])), (q1, .inl (cI, 100, .inl (aI (va_up (va_up (va_up (va_up (va_up (va_up (va_up (va_up (gd 100 (fun _ => 0)) 2 1) 3 1) 90 (-1)) 91 (-1)) 92 (-1)) 93 (-1)) 94 (-1)) 95 (-1))))), (q2, .inl (cI, 100, .inl (aI (gd 100 (fun _ => 0))))), (q3, .inl (cI, 100, .inl (aI (gd 100 (fun _ => 0))))), (q4, .inl (cI, 100, .inl (aI (gd 100 (fun _ => 0))))), (q5, .inl (cI, 8, .inl (aI (gd 8 (fun _ => 0))))), (q6, .inl (cI, 120, .inl (aI (gd 120 (fun _ => 0))))), (q7, .inl (cI, 4, .inl (aI (va_up (va_up (va_up (va_up (gd 4 (fun _ => 0)) 0 (-1)) 1 (-1)) 2 (-1)) 3 (-1))))), (q8, .inl (cI, 4, .inl (aI (gd 4 (fun _ => 0))))), (q9, .inl (cI, 160, .inl (aI (gd 160 (fun _ => 0)))))] : va_W)) rfl dX5_init_122 (fun H locs hP hD hS => ?_)
  refine x_iinc hx hb 0 6 (by decide) [(1, .int (iI 6)), (0, .ref a)] dX5_init_123 hl rfl (by decide) rfl (fun ls hl => ?_)
  refine lv_goto (tgt := 107) hx hb dX5_init_126 (by decide) ?_
  refine lv_iload_n hx hb dX5_init_107 rfl (lv_at hl 0 rfl) ?_
  refine x_bipush hx hb dX5_init_108 (by decide) ?_
  refine x_icmp_ge (tgt := 129) hx hb (by decide) (by decide) dX5_init_110 (by decide) (fun c9 => ?_) (fun c9 => ?_)
  · exact absurd c9 (by decide)
  refine lv_aload_n hx hb dX5_init_113 rfl (lv_at hl 1 rfl) ?_
  refine va_get (D := D) (ci := 4) (v := .ref q1) (C := RX5) (T := TX5) (N := 18) hx hb hts (iN_X5_init_X5) hown hK hP 0 rfl rfl 0 (by decide) (hts (.fieldLink RX5 7 "WordSupperModel" "s" "[I") (by decide +kernel)) (fun _ h9 => h9) rfl dX5_init_114 ?_
  refine x_bipush hx hb dX5_init_117 (by decide) ?_
  refine lv_iload_n hx hb dX5_init_119 rfl (lv_at hl 0 rfl) ?_
  refine x_iadd hx hb dX5_init_120 ?_
  refine x_topi 96 (by decide) ?_
  refine x_iconst hx hb dX5_init_121 ?_
  refine x_iast hx hb hK hP hD hS 1 0 rfl rfl 96 rfl (by decide) (by decide) (([(a, .inr (4, [.ref q1, .ref q2, .ref q3, .ref q4, .int (iI 0), .ref q5, .ref q6, .int (iI 0), .ref q7, .ref q8, .ref q9, .int (iI 0), .int (iI 0), .int (iI 0), .int (iI 0), .int (iI 0), .int (iI 0), .int (iI 0)])), (q1, .inl (cI, 100, .inl (aI (va_up (va_up (va_up (va_up (va_up (va_up (va_up (va_up (va_up (gd 100 (fun _ => 0)) 2 1) 3 1) 90 (-1)) 91 (-1)) 92 (-1)) 93 (-1)) 94 (-1)) 95 (-1)) 96 (-1))))), (q2, .inl (cI, 100, .inl (aI (gd 100 (fun _ => 0))))), (q3, .inl (cI, 100, .inl (aI (gd 100 (fun _ => 0))))), (q4, .inl (cI, 100, .inl (aI (gd 100 (fun _ => 0))))), (q5, .inl (cI, 8, .inl (aI (gd 8 (fun _ => 0))))), (q6, .inl (cI, 120, .inl (aI (gd 120 (fun _ => 0))))), (q7, .inl (cI, 4, .inl (aI (va_up (va_up (va_up (va_up (gd 4 (fun _ => 0)) 0 (-1)) 1 (-1)) 2 (-1)) 3 (-1))))), (q8, .inl (cI, 4, .inl (aI (gd 4 (fun _ => 0))))), (q9, .inl (cI, 160, .inl (aI (gd 160 (fun _ => 0)))))] : va_W)) rfl dX5_init_122 (fun H locs hP hD hS => ?_)
  refine x_iinc hx hb 0 7 (by decide) [(1, .int (iI 7)), (0, .ref a)] dX5_init_123 hl rfl (by decide) rfl (fun ls hl => ?_)
  refine lv_goto (tgt := 107) hx hb dX5_init_126 (by decide) ?_
  refine lv_iload_n hx hb dX5_init_107 rfl (lv_at hl 0 rfl) ?_
  refine x_bipush hx hb dX5_init_108 (by decide) ?_
  refine x_icmp_ge (tgt := 129) hx hb (by decide) (by decide) dX5_init_110 (by decide) (fun c9 => ?_) (fun c9 => ?_)
  · exact absurd c9 (by decide)
  refine lv_aload_n hx hb dX5_init_113 rfl (lv_at hl 1 rfl) ?_
  refine va_get (D := D) (ci := 4) (v := .ref q1) (C := RX5) (T := TX5) (N := 18) hx hb hts (iN_X5_init_X5) hown hK hP 0 rfl rfl 0 (by decide) (hts (.fieldLink RX5 7 "WordSupperModel" "s" "[I") (by decide +kernel)) (fun _ h9 => h9) rfl dX5_init_114 ?_
  refine x_bipush hx hb dX5_init_117 (by decide) ?_
  refine lv_iload_n hx hb dX5_init_119 rfl (lv_at hl 0 rfl) ?_
  refine x_iadd hx hb dX5_init_120 ?_
  refine x_topi 97 (by decide) ?_
  refine x_iconst hx hb dX5_init_121 ?_
  refine x_iast hx hb hK hP hD hS 1 0 rfl rfl 97 rfl (by decide) (by decide) (([(a, .inr (4, [.ref q1, .ref q2, .ref q3, .ref q4, .int (iI 0), .ref q5, .ref q6, .int (iI 0), .ref q7, .ref q8, .ref q9, .int (iI 0), .int (iI 0), .int (iI 0), .int (iI 0), .int (iI 0), .int (iI 0), .int (iI 0)])), (q1, .inl (cI, 100, .inl (aI (va_up (va_up (va_up (va_up (va_up (va_up (va_up (va_up (va_up (va_up (gd 100 (fun _ => 0)) 2 1) 3 1) 90 (-1)) 91 (-1)) 92 (-1)) 93 (-1)) 94 (-1)) 95 (-1)) 96 (-1)) 97 (-1))))), (q2, .inl (cI, 100, .inl (aI (gd 100 (fun _ => 0))))), (q3, .inl (cI, 100, .inl (aI (gd 100 (fun _ => 0))))), (q4, .inl (cI, 100, .inl (aI (gd 100 (fun _ => 0))))), (q5, .inl (cI, 8, .inl (aI (gd 8 (fun _ => 0))))), (q6, .inl (cI, 120, .inl (aI (gd 120 (fun _ => 0))))), (q7, .inl (cI, 4, .inl (aI (va_up (va_up (va_up (va_up (gd 4 (fun _ => 0)) 0 (-1)) 1 (-1)) 2 (-1)) 3 (-1))))), (q8, .inl (cI, 4, .inl (aI (gd 4 (fun _ => 0))))), (q9, .inl (cI, 160, .inl (aI (gd 160 (fun _ => 0)))))] : va_W)) rfl dX5_init_122 (fun H locs hP hD hS => ?_)
  refine x_iinc hx hb 0 8 (by decide) [(1, .int (iI 8)), (0, .ref a)] dX5_init_123 hl rfl (by decide) rfl (fun ls hl => ?_)
  refine lv_goto (tgt := 107) hx hb dX5_init_126 (by decide) ?_
  refine lv_iload_n hx hb dX5_init_107 rfl (lv_at hl 0 rfl) ?_
  refine x_bipush hx hb dX5_init_108 (by decide) ?_
  refine x_icmp_ge (tgt := 129) hx hb (by decide) (by decide) dX5_init_110 (by decide) (fun c9 => ?_) (fun c9 => ?_)
  · exact absurd c9 (by decide)
  refine lv_aload_n hx hb dX5_init_113 rfl (lv_at hl 1 rfl) ?_
  refine va_get (D := D) (ci := 4) (v := .ref q1) (C := RX5) (T := TX5) (N := 18) hx hb hts (iN_X5_init_X5) hown hK hP 0 rfl rfl 0 (by decide) (hts (.fieldLink RX5 7 "WordSupperModel" "s" "[I") (by decide +kernel)) (fun _ h9 => h9) rfl dX5_init_114 ?_
  refine x_bipush hx hb dX5_init_117 (by decide) ?_
  refine lv_iload_n hx hb dX5_init_119 rfl (lv_at hl 0 rfl) ?_
  refine x_iadd hx hb dX5_init_120 ?_
  refine x_topi 98 (by decide) ?_
  refine x_iconst hx hb dX5_init_121 ?_
  refine x_iast hx hb hK hP hD hS 1 0 rfl rfl 98 rfl (by decide) (by decide) (([(a, .inr (4, [.ref q1, .ref q2, .ref q3, .ref q4, .int (iI 0), .ref q5, .ref q6, .int (iI 0), .ref q7, .ref q8, .ref q9, .int (iI 0), .int (iI 0), .int (iI 0), .int (iI 0), .int (iI 0), .int (iI 0), .int (iI 0)])), (q1, .inl (cI, 100, .inl (aI (va_up (va_up (va_up (va_up (va_up (va_up (va_up (va_up (va_up (va_up (va_up (gd 100 (fun _ => 0)) 2 1) 3 1) 90 (-1)) 91 (-1)) 92 (-1)) 93 (-1)) 94 (-1)) 95 (-1)) 96 (-1)) 97 (-1)) 98 (-1))))), (q2, .inl (cI, 100, .inl (aI (gd 100 (fun _ => 0))))), (q3, .inl (cI, 100, .inl (aI (gd 100 (fun _ => 0))))), (q4, .inl (cI, 100, .inl (aI (gd 100 (fun _ => 0))))), (q5, .inl (cI, 8, .inl (aI (gd 8 (fun _ => 0))))), (q6, .inl (cI, 120, .inl (aI (gd 120 (fun _ => 0))))), (q7, .inl (cI, 4, .inl (aI (va_up (va_up (va_up (va_up (gd 4 (fun _ => 0)) 0 (-1)) 1 (-1)) 2 (-1)) 3 (-1))))), (q8, .inl (cI, 4, .inl (aI (gd 4 (fun _ => 0))))), (q9, .inl (cI, 160, .inl (aI (gd 160 (fun _ => 0)))))] : va_W)) rfl dX5_init_122 (fun H locs hP hD hS => ?_)
  refine x_iinc hx hb 0 9 (by decide) [(1, .int (iI 9)), (0, .ref a)] dX5_init_123 hl rfl (by decide) rfl (fun ls hl => ?_)
  refine lv_goto (tgt := 107) hx hb dX5_init_126 (by decide) ?_
  refine lv_iload_n hx hb dX5_init_107 rfl (lv_at hl 0 rfl) ?_
  refine x_bipush hx hb dX5_init_108 (by decide) ?_
  refine x_icmp_ge (tgt := 129) hx hb (by decide) (by decide) dX5_init_110 (by decide) (fun c9 => ?_) (fun c9 => ?_)
  · exact absurd c9 (by decide)
  refine lv_aload_n hx hb dX5_init_113 rfl (lv_at hl 1 rfl) ?_
  refine va_get (D := D) (ci := 4) (v := .ref q1) (C := RX5) (T := TX5) (N := 18) hx hb hts (iN_X5_init_X5) hown hK hP 0 rfl rfl 0 (by decide) (hts (.fieldLink RX5 7 "WordSupperModel" "s" "[I") (by decide +kernel)) (fun _ h9 => h9) rfl dX5_init_114 ?_
  refine x_bipush hx hb dX5_init_117 (by decide) ?_
  refine lv_iload_n hx hb dX5_init_119 rfl (lv_at hl 0 rfl) ?_
  refine x_iadd hx hb dX5_init_120 ?_
  refine x_topi 99 (by decide) ?_
  refine x_iconst hx hb dX5_init_121 ?_
  refine x_iast hx hb hK hP hD hS 1 0 rfl rfl 99 rfl (by decide) (by decide) (([(a, .inr (4, [.ref q1, .ref q2, .ref q3, .ref q4, .int (iI 0), .ref q5, .ref q6, .int (iI 0), .ref q7, .ref q8, .ref q9, .int (iI 0), .int (iI 0), .int (iI 0), .int (iI 0), .int (iI 0), .int (iI 0), .int (iI 0)])), (q1, .inl (cI, 100, .inl (aI (va_up (va_up (va_up (va_up (va_up (va_up (va_up (va_up (va_up (va_up (va_up (va_up (gd 100 (fun _ => 0)) 2 1) 3 1) 90 (-1)) 91 (-1)) 92 (-1)) 93 (-1)) 94 (-1)) 95 (-1)) 96 (-1)) 97 (-1)) 98 (-1)) 99 (-1))))), (q2, .inl (cI, 100, .inl (aI (gd 100 (fun _ => 0))))), (q3, .inl (cI, 100, .inl (aI (gd 100 (fun _ => 0))))), (q4, .inl (cI, 100, .inl (aI (gd 100 (fun _ => 0))))), (q5, .inl (cI, 8, .inl (aI (gd 8 (fun _ => 0))))), (q6, .inl (cI, 120, .inl (aI (gd 120 (fun _ => 0))))), (q7, .inl (cI, 4, .inl (aI (va_up (va_up (va_up (va_up (gd 4 (fun _ => 0)) 0 (-1)) 1 (-1)) 2 (-1)) 3 (-1))))), (q8, .inl (cI, 4, .inl (aI (gd 4 (fun _ => 0))))), (q9, .inl (cI, 160, .inl (aI (gd 160 (fun _ => 0)))))] : va_W)) rfl dX5_init_122 (fun H locs hP hD hS => ?_)
  refine x_iinc hx hb 0 10 (by decide) [(1, .int (iI 10)), (0, .ref a)] dX5_init_123 hl rfl (by decide) rfl (fun ls hl => ?_)
  refine lv_goto (tgt := 107) hx hb dX5_init_126 (by decide) ?_
  refine lv_iload_n hx hb dX5_init_107 rfl (lv_at hl 0 rfl) ?_
  refine x_bipush hx hb dX5_init_108 (by decide) ?_
  refine x_icmp_ge (tgt := 129) hx hb (by decide) (by decide) dX5_init_110 (by decide) (fun c9 => ?_) (fun c9 => ?_)
  rotate_left
  · exact absurd c9 (by decide)
  refine W.widen (k := 9) (n := 696) (Nat.le_of_ble_eq_true rfl) (Nat.le_of_ble_eq_true rfl) ?_
  rw [tZ_r100, bR_0, ← fR_0] at hP hD
  have hP9 : va_P D vwCl (wM cI (fun i => [a, q1, q2, q3, q4, q5, q6, q7, q8, q9].getD i 0) (tZ, g0, 0, g0, g0, g0, 0, g0, g0) g0 g0 g0) H := hP
  have hD9 : va_D A (wM cI (fun i => [a, q1, q2, q3, q4, q5, q6, q7, q8, q9].getD i 0) (tZ, g0, 0, g0, g0, g0, 0, g0, g0) g0 g0 g0) := hD
  exact W.vret hx hb hr (fun t ht hW => ⟨⟨(fun i => [a, q1, q2, q3, q4, q5, q6, q7, q8, q9].getD i 0), rfl, rfl, by rw [ht]; exact hP9, va_K.moved hW.alike hK, hD9⟩, hS.F ht⟩) hS.2.2 dX5_init_129
