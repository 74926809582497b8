/-! the law: what holds all through its walk, and small rows -/
def xI (xs : Nat → Int32) (k : Nat) : Int := (xs k).toInt
theorem xI_i (xs : Nat → Int32) (k : Nat) : iI (xI xs k) = xs k := Int32.ofInt_toInt (xs k)
theorem xI_r (xs : Nat → Int32) (k : Nat) : rI (xI xs k) := by
  have h1 := (xs k).toInt_lt
  have h2 := (xs k).le_toInt
  exact ⟨by unfold xI; omega, by unfold xI; omega⟩
theorem nat_iI (n : Nat) : Int32.ofNat n = iI (n : Int) := rfl
def lC (p : Program) (s : State) (m : MethodId) (c : Code) (b L : Nat) (xs : Nat → Int32) (D : va_G) (cI cB : ClassId) (kS vS : Nat → Nat) : Prop :=
  p.tables.exec = Jvm.exec ∧ c.code = cL_law ∧ c.maxLocals = 4 ∧ s.vm.findClass RL = some m.cls ∧ (∀ w ∈ wsL_law, w.before #[Value.ref b] s = true) ∧ va_X b L xs s s.heap ∧ b < s.heap.size ∧ va_K D vwCl [(cI, .int), (cB, .byte)] s ∧ sX kS vS (fun q : Nat => s.heap.size ≤ q) s s.heap
/-- both sides stand for one supper, and what it holds is what can come to be after B days of each call -/
def lwI (D : va_G) (cI cB : ClassId) (x f : Nat) (q kq vq h g r : Nat → Nat) (s : State) (B : Int) (H : Heap) (locs : List Loc) : Prop :=
  ∃ (T K K2 : Tb) (ik : Int) (SB SS SN : Nat → Int) (tn : Int) (TB F : Nat → Int) (V : Tb) (jc : Nat → Int) (X Y : Tb) (j : Nat → Int), GI B T K ik SB SS SN tn TB F ∧ GI B T K2 ik SB SS SN tn TB F ∧ (ik = 0 ∨ K = K2) ∧ va_P D vwCl (wC cI cB x f q kq vq h g (T, K, ik, SB, SS, SN, tn, TB, F) V jc ++ wM cI r (T, K2, ik, SB, SS, SN, tn, TB, F) X Y j) H ∧ va_D (fun q : Nat => s.heap.size ≤ q) (wC cI cB x f q kq vq h g (T, K, ik, SB, SS, SN, tn, TB, F) V jc ++ wM cI r (T, K2, ik, SB, SS, SN, tn, TB, F) X Y j) ∧ va_S (fun q : Nat => s.heap.size ≤ q) s.heap H locs
theorem lwI_mono {D : va_G} {cI cB : ClassId} {x f : Nat} {q kq vq h g r : Nat → Nat} {s : State} {B C : Int} {H : Heap} {locs : List Loc} (hI : lwI D cI cB x f q kq vq h g r s B H locs) (hc : B ≤ C) : lwI D cI cB x f q kq vq h g r s C H locs := by
  obtain ⟨T, K, K2, ik, SB, SS, SN, tn, TB, F, V, jc, X, Y, j, h1, h2, h3⟩ := hI
  exact ⟨T, K, K2, ik, SB, SS, SN, tn, TB, F, V, jc, X, Y, j, GI_mono h1 hc, GI_mono h2 hc, h3⟩
theorem lwI_next {D : va_G} {cI cB : ClassId} {x f : Nat} {q kq vq h g r : Nat → Nat} {s : State} {B : Int} {H : Heap} {locs : List Loc} {z y : Int × Gs} {V : Tb} {jc : Nat → Int} {X Y : Tb} {j : Nat → Int} (hE : eqK z y) (h1 : GIp B z) (h2 : GIp B y)
    (hP : va_P D vwCl (wC cI cB x f q kq vq h g z.2 V jc ++ wM cI r y.2 X Y j) H) (hD : va_D (fun q : Nat => s.heap.size ≤ q) (wC cI cB x f q kq vq h g z.2 V jc ++ wM cI r y.2 X Y j)) (hS : va_S (fun q : Nat => s.heap.size ≤ q) s.heap H locs) : lwI D cI cB x f q kq vq h g r s B H locs := by
  obtain ⟨a, T, K, R⟩ := z
  obtain ⟨a', T', K', R'⟩ := y
  obtain ⟨e1, e2, e3, e4⟩ := hE
  replace e2 : T = T' := e2
  replace e3 : R = R' := e3
  subst e2
  subst e3
  obtain ⟨ik, SB, SS, SN, tn, TB, F⟩ := R
  exact ⟨T, K, K', ik, SB, SS, SN, tn, TB, F, V, jc, X, Y, j, h1, h2, e4, hP, hD, hS⟩
section LW1
variable {cI cB : ClassId} {x f : Nat} {q kq vq h g r : Nat → Nat} {G G' G2 G2' : Gs} {V V' X Y X' Y' : Tb} {j j' j2 j2' : Nat → Int}
theorem lw_c1 : [0, 1, 2, 3, 4, 5, 6, 7, 8, 9, 10, 11, 12, 13, 14, 15, 16, 17, 18, 19, 20, 21, 22, 23, 24, 25, 26, 27, 28, 29, 30, 31].map (fun i => (wC cI cB x f q kq vq h g G V j ++ wM cI r G2 X Y j2)[i]?) = (wC cI cB x f q kq vq h g G V j).map some := rfl
theorem lw_c2 : [32, 33, 34, 35, 36, 37, 38, 39, 40, 41].map (fun i => (wC cI cB x f q kq vq h g G V j ++ wM cI r G2 X Y j2)[i]?) = (wM cI r G2 X Y j2).map some := rfl
theorem lw_n1 : va_nd [0, 1, 2, 3, 4, 5, 6, 7, 8, 9, 10, 11, 12, 13, 14, 15, 16, 17, 18, 19, 20, 21, 22, 23, 24, 25, 26, 27, 28, 29, 30, 31] = true := by decide
theorem lw_n2 : va_nd [32, 33, 34, 35, 36, 37, 38, 39, 40, 41] = true := by decide
theorem lw_f1 : (wC cI cB x f q kq vq h g G' V' j').map Prod.fst = (wC cI cB x f q kq vq h g G V j).map Prod.fst := rfl
theorem lw_f2 : (wM cI r G2' X' Y' j2').map Prod.fst = (wM cI r G2 X Y j2).map Prod.fst := rfl
theorem lw_q1 : x_put 0 (wC cI cB x f q kq vq h g G V j ++ wM cI r G2 X Y j2) [0, 1, 2, 3, 4, 5, 6, 7, 8, 9, 10, 11, 12, 13, 14, 15, 16, 17, 18, 19, 20, 21, 22, 23, 24, 25, 26, 27, 28, 29, 30, 31] (wC cI cB x f q kq vq h g G' V' j') = wC cI cB x f q kq vq h g G' V' j' ++ wM cI r G2 X Y j2 := rfl
theorem lw_q2 : x_put 0 (wC cI cB x f q kq vq h g G V j ++ wM cI r G2 X Y j2) [32, 33, 34, 35, 36, 37, 38, 39, 40, 41] (wM cI r G2' X' Y' j2') = wC cI cB x f q kq vq h g G V j ++ wM cI r G2' X' Y' j2' := rfl
theorem lw_e1 : (wC cI cB x f q kq vq h g G V j ++ wM cI r G2 X Y j2)[0]? = some (x, .inr (3, [.ref (q 0), .ref (kq 0), .ref (vq 0), .ref (h 0), .ref (g 0), .ref f, .int (iI G.2.2.1)])) := rfl
theorem lw_e2 : (wC cI cB x f q kq vq h g G V j ++ wM cI r G2 X Y j2)[32]? = some (r 0, .inr (4, [.ref (r 1), .ref (r 2), .ref (r 3), .ref (r 4), .int (iI G2.2.2.1), .ref (r 5), .ref (r 6), .int (iI G2.2.2.2.2.2.2.1), .ref (r 7), .ref (r 8), .ref (r 9), .int (iI (j2 0)), .int (iI (j2 1)), .int (iI (j2 2)), .int (iI (j2 3)), .int (iI (j2 4)), .int (iI (j2 5)), .int (iI (j2 6))])) := rfl
end LW1
theorem lg_cmp_self (y : Int64) : lg_cmp y y = 0 := by
  unfold lg_cmp
  rw [if_neg (fun q : y > y => Int64.lt_irrefl q), if_pos rfl]
section LW2
variable {p : Program} {l : Launch} {e : Env} {R : Room} {s : State} {m : MethodId} {args : Array Value} {below : List Frame} {meth : Method} {c : Code} {H : Heap} {locs : List Loc} {cells slots : Nat} {Q : State → Prop}
variable {cc : ByteArray} {pc : Nat} {ls : Array Slot} {rest : List Value} {A : Nat → Prop} {H0 : Heap}
theorem x_sld (hexec : p.tables.exec = Jvm.exec) (hb : c.code = cc) {b L : Nat} {xs : Nat → Int32} (hX : va_X b L xs s H0) (hbl : b < H0.size) (hbA : ¬ A b) (hS : va_S A H0 H locs) (i : Nat) {z : Int} (hz : z = (i : Int)) (hi : i < L) (hL : L ≤ 3072) (hdg : decode cc pc = .ok (.iaload, 1))
    (kk : W p l e R s m args below meth c H locs cells slots Q (F0 m (pc + 1) ls (.int (iI (xI xs i)) :: rest))) : W p l e R s m args below meth c H locs cells slots Q (F0 m pc ls (.int (iI z) :: .ref b :: rest)) := by
  have h1 := iI_in i hz hi (show L < 2147483648 by omega)
  refine va_sld hexec hb hX hbl hbA hS h1.1 hdg ?_
  rw [h1.2, ← xI_i xs i]
  exact kk
theorem x_eqI (hexec : p.tables.exec = Jvm.exec) (hb : c.code = cc) {x y : Int} {off : Int} {tgt : Nat} (hxy : x = y) (hdg : decode cc pc = .ok (.if_icmp .eq off, 3)) (ht : (pc : Int) + off = (tgt : Int))
    (kt : W p l e R s m args below meth c H locs cells slots Q (F0 m tgt ls rest)) : W p l e R s m args below meth c H locs cells slots Q (F0 m pc ls (.int (iI y) :: .int (iI x) :: rest)) := by
  subst hxy
  exact lv_icmp_eq hexec hb hdg ht (fun _ => kt) (fun q => absurd rfl q)
theorem x_eqL (hexec : p.tables.exec = Jvm.exec) (hb : c.code = cc) {x y : Int} {off : Int} {tgt : Nat} (hxy : x = y) (hd0 : decode cc pc = .ok (.lcmp, 1)) (hdg : decode cc (pc + 1) = .ok (.ifCond .eq off, 3)) (ht : ((pc + 1 : Nat) : Int) + off = (tgt : Int))
    (kt : W p l e R s m args below meth c H locs cells slots Q (F0 m tgt ls rest)) : W p l e R s m args below meth c H locs cells slots Q (F0 m pc ls (.long (lI y) :: .long (lI x) :: rest)) := by
  subst hxy
  refine W.lcmp hexec hb hd0 ?_
  rw [lg_cmp_self]
  exact lv_if_eq hexec hb hdg ht (fun _ => kt) (fun q => absurd rfl q)
end LW2
-- the start
theorem tZ_I : Inv 0 tZ := by
  intro i hi
  have h0 : tZ 0 = 0 := by decide
  rw [h0]
  unfold ckd tZ
  (repeat' split) <;> (try trivial) <;> omega
theorem GI_0 (K : Tb) : GI 0 tZ K 0 g0 g0 g0 0 g0 g0 := by
  refine ⟨tZ_I, Or.inl rfl, Or.inl rfl, fun i _ => Or.inl rfl, fun i _ => ?_, fun i _ => ?_, by omega, fun i _ => ?_, fun i _ => ?_⟩
  · show (0 : Int) ≤ 0 ∧ (0 : Int) ≤ 40
    omega
  · show rI 0
    omega
  · show (0 : Int) ≤ 0 ∧ (0 : Int) ≤ 255
    omega
  · show (0 : Int) ≤ 0 ∧ (0 : Int) ≤ 0
    omega
theorem lw_arrI {args : Array Value} {s : State} (h : (Cond.arrayClass .int).before args s = true) : ∃ cA, ArrOfT s cA .int ∧ va_RA s cA .int := by
  obtain ⟨cA, kA, comp, h1, h2, h3⟩ := Cond.arrayClass_spec h
  exact ⟨cA, fun n z => ⟨fun k h => (by cases h), kA, h2, comp, h3⟩, h1⟩
theorem lw_arrB {args : Array Value} {s : State} (h : (Cond.arrayClass .byte).before args s = true) : ∃ cA, ArrOfT s cA .byte ∧ va_RA s cA .byte := by
  obtain ⟨cA, kA, comp, h1, h2, h3⟩ := Cond.arrayClass_spec h
  exact ⟨cA, fun n z => ⟨fun k h => (by cases h), kA, h2, comp, h3⟩, h1⟩

-- the String constants
def ixS : List Nat := [35, 44, 67, 71, 73, 75, 77, 79, 81, 83, 95, 99]
def tmS (i : Nat) : Term := Term.string RX3 (ixS.getD i 0)
abbrev lw_fl : List Cond := flatC (Jvm.Cond.and given_1 narrow_1)
theorem lw_s1 : ∀ i : Nat, i < 12 → Cond.exactly (tmS i) "java/lang/String" ∈ lw_fl := by decide +kernel
theorem lw_s2 : ∀ i : Nat, i < 12 → Cond.eq (.field (tmS i) "java/lang/String" "coder" "B") (.int 0) ∈ lw_fl := by decide +kernel
theorem lw_s3 : ∀ i : Nat, i < 12 → Cond.arrayOf (.field (tmS i) "java/lang/String" "value" "[B") .byte ∈ lw_fl := by decide +kernel
theorem lw_s4 : ∀ i : Nat, i < 12 → Cond.eq (.length (.field (tmS i) "java/lang/String" "value" "[B")) (.int (Int32.ofNat (lenS.getD i 0))) ∈ lw_fl := by decide +kernel
theorem lw_s5 : ∀ i : Nat, i < 12 → ∀ j : Nat, j < lenS.getD i 0 → Cond.eq (.elem (.field (tmS i) "java/lang/String" "value" "[B") (.int (Int32.ofNat j))) (.int ((bytS.getD i []).getD j 0)) ∈ lw_fl := by decide +kernel
theorem lw_s6 : ∀ i : Nat, i < 12 → ∀ j : Nat, j < 12 → i ≠ j → Cond.not (Cond.eq (tmS i) (tmS j)) ∈ lw_fl ∨ Cond.not (Cond.eq (tmS j) (tmS i)) ∈ lw_fl := by decide +kernel
theorem lw_s7 : Cond.eq (.static "java/lang/String" "COMPACT_STRINGS" "Z") (.int 1) ∈ lw_fl := by decide +kernel
theorem lw_s8 : Cond.isRef (.static "jdk/internal/util/Preconditions" "SIOOBE_FORMATTER" "Ljava/util/function/BiFunction;") ∈ lw_fl := by decide +kernel
theorem lw_s9 : Cond.laysStatic "java/lang/String" "COMPACT_STRINGS" "Z" ∈ lw_tbl ∧ Cond.initialized "java/lang/String" ∈ lw_tbl ∧ Cond.laysStatic "jdk/internal/util/Preconditions" "SIOOBE_FORMATTER" "Ljava/util/function/BiFunction;" ∈ lw_tbl ∧ Cond.initialized "jdk/internal/util/Preconditions" ∈ lw_tbl := by decide +kernel

theorem lw_t0 : Cond.stringRef RX3 35 "list" ∈ lw_tbl := by decide +kernel
theorem lw_t1 : Cond.stringRef RX3 44 "vinegar" ∈ lw_tbl := by decide +kernel
theorem lw_t2 : Cond.stringRef RX3 67 "speaker" ∈ lw_tbl := by decide +kernel
theorem lw_t3 : Cond.stringRef RX3 71 "lawyer" ∈ lw_tbl := by decide +kernel
theorem lw_t4 : Cond.stringRef RX3 73 "child" ∈ lw_tbl := by decide +kernel
theorem lw_t5 : Cond.stringRef RX3 75 "saint" ∈ lw_tbl := by decide +kernel
theorem lw_t6 : Cond.stringRef RX3 77 "reader" ∈ lw_tbl := by decide +kernel
theorem lw_t7 : Cond.stringRef RX3 79 "cook" ∈ lw_tbl := by decide +kernel
theorem lw_t8 : Cond.stringRef RX3 81 "liar" ∈ lw_tbl := by decide +kernel
theorem lw_t9 : Cond.stringRef RX3 83 "loves" ∈ lw_tbl := by decide +kernel
theorem lw_t10 : Cond.stringRef RX3 95 "fat" ∈ lw_tbl := by decide +kernel
theorem lw_t11 : Cond.stringRef RX3 99 "plate" ∈ lw_tbl := by decide +kernel
theorem lw_str {b : Nat} {s : State} (hts : ∀ w ∈ lw_tbl, w.before #[Value.ref b] s = true) (hg : (Jvm.Cond.and given_1 narrow_1).before #[Value.ref b] s = true) : ∃ kS vS : Nat → Nat, sX kS vS (fun q : Nat => s.heap.size ≤ q) s s.heap := by
  have hf : ∀ w ∈ lw_fl, w.before #[Value.ref b] s = true := flat_of_before _ hg
  have hA : ∀ a : Nat, a < s.heap.size → ¬ (fun q : Nat => s.heap.size ≤ q) a := fun a ha => Nat.not_le.mpr ha
  obtain ⟨kS, vS, h1, h2⟩ := vk_Sof (args := #[Value.ref b]) (s := s) (N := 12) (tm := tmS) (len := lenS) (byt := bytS) (A := (fun q : Nat => s.heap.size ≤ q)) (by decide) (fun i hi => hf _ (lw_s1 i hi)) (fun i hi => hf _ (lw_s2 i hi)) (fun i hi => hf _ (lw_s3 i hi)) (fun i hi => hf _ (lw_s4 i hi)) (fun i hi j hj => hf _ (lw_s5 i hi j hj)) (fun i j hi hj hij => (lw_s6 i hi j hj hij).imp (hf _) (hf _)) hA
  refine ⟨kS, vS, h1, ⟨vk_R.of (hts _ lw_t0) (h2 0 (by decide)), vk_R.of (hts _ lw_t1) (h2 1 (by decide)), vk_R.of (hts _ lw_t2) (h2 2 (by decide)), vk_R.of (hts _ lw_t3) (h2 3 (by decide)), vk_R.of (hts _ lw_t4) (h2 4 (by decide)), vk_R.of (hts _ lw_t5) (h2 5 (by decide)), vk_R.of (hts _ lw_t6) (h2 6 (by decide)), vk_R.of (hts _ lw_t7) (h2 7 (by decide)), vk_R.of (hts _ lw_t8) (h2 8 (by decide)), vk_R.of (hts _ lw_t9) (h2 9 (by decide)), vk_R.of (hts _ lw_t10) (h2 10 (by decide)), vk_R.of (hts _ lw_t11) (h2 11 (by decide))⟩, ?_, ?_⟩
  · exact va_Zof (hts _ lw_s9.1) (hts _ lw_s9.2.1) (va_eqi (hf _ lw_s7)) hA
  · exact va_Zqof (hts _ lw_s9.2.2.1) (hts _ lw_s9.2.2.2) (hf _ lw_s8) hA

theorem lw_cl {b : Nat} {s : State} (hts : ∀ w ∈ lw_tbl, w.before #[Value.ref b] s = true) : ∃ (D : va_G) (cI cB : ClassId), va_K D vwCl [(cI, .int), (cB, .byte)] s := by
  obtain ⟨c0, iS0, hKn0⟩ := u_known (C := RX1) (T := TX1) (N := 3) (n := 3) hts inX1 (hts (.instantiable RX1 3) (by decide +kernel))
  obtain ⟨c1, iS1, hKn1⟩ := u_known (C := RX2) (T := TX2) (N := 12) (n := 12) hts inX2 (hts (.instantiable RX2 12) (by decide +kernel))
  obtain ⟨c2, iS2, hKn2⟩ := u_known (C := RX3) (T := TX3) (N := 6) (n := 6) hts inX3 (hts (.instantiable RX3 6) (by decide +kernel))
  obtain ⟨c3, iS3, hKn3⟩ := u_known (C := RX4) (T := TX4) (N := 7) (n := 7) hts inX4 (hts (.instantiable RX4 7) (by decide +kernel))
  obtain ⟨c4, iS4, hKn4⟩ := u_known (C := RX5) (T := TX5) (N := 18) (n := 18) hts inX5 (hts (.instantiable RX5 18) (by decide +kernel))
  obtain ⟨cI, a1, a2⟩ := lw_arrI (hts (.arrayClass .int) (by decide +kernel))
  obtain ⟨cB, b1, b2⟩ := lw_arrB (hts (.arrayClass .byte) (by decide +kernel))
  refine ⟨(fun k => if k = 0 then c0 else if k = 1 then c1 else if k = 2 then c2 else if k = 3 then c3 else c4, fun k => if k = 0 then iS0 else if k = 1 then iS1 else if k = 2 then iS2 else if k = 3 then iS3 else iS4), cI, cB, ?_, ?_⟩
  · intro k q hq
    match k, hq with
    | 0, hq => cases hq; exact hKn0
    | 1, hq => cases hq; exact hKn1
    | 2, hq => cases hq; exact hKn2
    | 3, hq => cases hq; exact hKn3
    | 4, hq => cases hq; exact hKn4
    | k + 5, hq => simp [vwCl] at hq
  · intro k q hq
    match k, hq with
    | 0, hq => cases hq; exact ⟨a1, a2⟩
    | 1, hq => cases hq; exact ⟨b1, b2⟩
    | k + 2, hq => simp at hq

theorem nW_same {u U : State} (hv : U.vm = u.vm) (h : nW u) : nW U := ⟨va_Nw.same rfl hv.symm h.1, va_Nw.same rfl hv.symm h.2⟩
theorem nW_warm {s U : State} (hW : s.WarmedH U.vm) (h : nW s) : nW U := ⟨va_Nw.warmM hW h.1, va_Nw.warmM hW h.2⟩
theorem lw_nw {b : Nat} {s : State} (hts : ∀ w ∈ lw_tbl, w.before #[Value.ref b] s = true) : nW s := ⟨va_Nw.of rfl (hts _ (by decide +kernel)), va_Nw.of rfl (hts _ (by decide +kernel))⟩
