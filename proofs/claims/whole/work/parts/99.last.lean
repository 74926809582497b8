/-! THE CLAIM OUT OF ONE WALK OF THE LAW'S BODY. Your part is whole_start (and what it stands on); all else here is the same for every law, but numbers. -/
def R_law : String := "WordSupperLaw"
def lw_P (b : Addr) (xs : List Int32) (args : Array Value) (s : State) : Prop := args = #[.ref b] ∧ s.IntsAt b xs ∧ xs.length ≤ 3072 ∧ (Jvm.Cond.and given_1 narrow_1).before args s = true
def lw_Q (_ : Array Value) (s : State) (o : Outcome) (t : State) : Prop := o = .returned (some (.int 1)) ∧ Framed s o t [] 42 1349
def lw_Z (below : List Frame) (a : Array Value) (s : State) : State → Prop := fun t => ∃ o, t.status = .running ∧ Ended t below o ∧ lw_Q a s o t
/-- the law's own end, with 1 on the stack, nothing written that was there before, its room as the claim has it -/
theorem lw_ret {p : Program} {l : Launch} {e : Env} {s : State} {m : MethodId} {below : List Frame} {meth : Method} {c : Code} {b : Nat} (hx : p.tables.exec = Jvm.exec) (hb : c.code = code) (hr : meth.sig.returnType = ret) (hlocks : meth.locks = false) {pc : Nat} {H : Heap} {ls : Array Slot} (hdg : decode code pc = .ok (.ireturn, 1)) : W p l e room_1 s m #[Value.ref b] below meth c H [] 42 1349 (lw_Z below #[Value.ref b] s) (F0 m pc ls [.int 1]) := by
  intro T hT X
  obtain ⟨fs, hret, hrun, hended, hW, hframe⟩ := X.leave (v := some (.int 1)) (hlocks := hlocks) (fun h => by rw [hr] at h; cases h)
  have hmeth' : T.vm.method? m = some meth := X.method'
  refine ⟨T.setFrames fs, ?_, .returned (some (.int 1)), hrun, hended, rfl, ⟨_, rfl⟩, hW, hframe⟩
  jvm_step X.here [X.here.top, hx, hb, hdg, hmeth', hr, ret, narrow_b1]
  (try refine ⟨rfl, ?_⟩); (try refine ⟨rfl, ?_⟩)
  first | (intro acts; rw [hret _ acts rfl rfl rfl]) | rw [hret _ _ rfl rfl rfl]
  exact Steps.refl _
/-- what holds at the law's entry: the machine, the code, the tables' words (any of lw_tbl by 'hts w (by decide +kernel)'), the script of L ints xs at the cell b, what the Statement gives of the start (any of its parts by flat_of_before) -/
def lw_At (p : Program) (s : State) (m : MethodId) (meth : Method) (c : Code) (b L : Nat) (xs : Nat → Int32) : Prop :=
  p.tables.exec = Jvm.exec ∧ c.code = code ∧ meth.sig.returnType = ret ∧ c.maxLocals = 4 ∧ s.vm.findClass R_law = some m.cls ∧ (∀ w ∈ lw_tbl, w.before #[Value.ref b] s = true) ∧ va_X b L xs s s.heap ∧ b < s.heap.size ∧ meth.locks = false ∧ (Jvm.Cond.and given_1 narrow_1).before #[Value.ref b] s = true
set_option maxHeartbeats 4000000 in
set_option maxRecDepth 100000 in
/-- THE LAW'S LOOP: at its head, with 6 t ints read, both sides stand for one supper -/
theorem law_loop {p : Program} {l : Launch} {e : Env} {s : State} {m : MethodId} {below : List Frame} {meth : Method} {c : Code} {D : va_G} {cI cB : ClassId} {kS vS : Nat → Nat} {x f : Nat} {q kq vq h g r : Nat → Nat} {b L : Nat} {xs : Nat → Int32} (hL : L ≤ 3072) (hr : meth.sig.returnType = ret) (hlocks : meth.locks = false) (C0 : lC p s m c b L xs D cI cB kS vS) :
    ∀ (n t : Nat), 6 * t ≤ L + 5 → L + 6 ≤ 6 * t + 6 * n → ∀ (H : Heap) (locs : List Loc), lwI D cI cB x f q kq vq h g r s (61 * (t : Int)) H locs → ∀ ls : Array Slot, lv_has ls 4 [(0, .ref b), (1, .ref x), (2, .ref (r 0)), (3, .int (iI ((6 * t : Nat) : Int)))] → W p l e room_1 s m #[Value.ref b] below meth c H locs 42 1349 (lw_Z below #[Value.ref b] s) (F0 m 18 ls []) := by
  obtain ⟨hx, hb, hml, hown, hts, hX0, hbl, hK, hX⟩ := id C0
  have hbA : ¬ (fun q : Nat => s.heap.size ≤ q) b := Nat.not_le.mpr hbl
  intro n
  induction n with
  | zero =>
    intro t h1 h2
    exact absurd h2 (by omega)
  | succ n ih =>
    intro t h1 h2 H locs hI ls hl
    have hS : va_S (fun q : Nat => s.heap.size ≤ q) s.heap H locs := by
      obtain ⟨T, K, K2, ik, SB, SS, SN, tn, TB, F, V, jc, X, Y, j, -, -, -, -, -, hS⟩ := hI
      exact hS
    refine lv_iload_n hx hb dL_law_18 rfl (lv_at hl 3 rfl) ?_
    refine lv_aload_n hx hb dL_law_19 rfl (lv_at hl 0 rfl) ?_
    refine va_slen hx hb hX0 hbl hbA hS dL_law_20 ?_
    rw [nat_iI]
    refine x_bipush hx hb dL_law_21 (by decide) ?_
    refine x_isub hx hb dL_law_23 ?_
    refine x_icmp_gt (tgt := 1496) hx hb (by omega) (by omega) dL_law_24 (by decide) (fun c9 => ?_) (fun c9 => ?_)
    · refine lv_iconst (v := 1) hx hb dL_law_1496 (by decide) ?_
      refine va_forget (fun q hq => hS.2.2 q hq) ?_
      exact lw_ret hx hb hr hlocks dL_law_1497
    · have hi : 6 * t + 6 ≤ L := by omega
      have kk : ∀ (H : Heap) (locs : List Loc), lwI D cI cB x f q kq vq h g r s (61 * (t : Int) + 61) H locs → W p l e room_1 s m #[Value.ref b] below meth c H locs 42 1349 (lw_Z below #[Value.ref b] s) (F0 m 1490 ls []) := by
        intro H locs hI
        refine x_iinc hx hb 3 (((6 * (t + 1) : Nat) : Int)) (by omega) [(3, .int (iI ((6 * (t + 1) : Nat) : Int))), (0, .ref b), (1, .ref x), (2, .ref (r 0))] dL_law_1490 hl rfl (by decide) rfl (fun ls hl => ?_)
        refine lv_goto (tgt := 18) hx hb dL_law_1493 (by decide) ?_
        exact ih (t + 1) (by omega) (by omega) H locs (lwI_mono hI (by omega)) ls (lv_sub hl [1, 2, 3, 0] rfl)
      refine lv_aload_n hx hb dL_law_27 rfl (lv_at hl 0 rfl) ?_
      refine lv_iload_n hx hb dL_law_28 rfl (lv_at hl 3 rfl) ?_
      refine x_sld hx hb hX0 hbl hbA hS (6 * t) rfl (by omega) hL dL_law_29 ?_
      refine x_bipush hx hb dL_law_30 (by decide) ?_
      refine x_iand hx hb dL_law_32 ?_
      generalize iI (andI (xI xs (6 * t)) 63) = z
      by_cases h9 : z.toInt < 0 ∨ 42 < z.toInt
      · exact lv_tableOut (tgt := 1490) hx hb dL_law_33 h9 (by decide) (kk H locs (lwI_mono hI (by omega)))
      · rcases (show z.toInt = 0 ∨ z.toInt = 1 ∨ z.toInt = 2 ∨ z.toInt = 3 ∨ z.toInt = 4 ∨ z.toInt = 5 ∨ z.toInt = 6 ∨ z.toInt = 7 ∨ z.toInt = 8 ∨ z.toInt = 9 ∨ z.toInt = 10 ∨ z.toInt = 11 ∨ z.toInt = 12 ∨ z.toInt = 13 ∨ z.toInt = 14 ∨ z.toInt = 15 ∨ z.toInt = 16 ∨ z.toInt = 17 ∨ z.toInt = 18 ∨ z.toInt = 19 ∨ z.toInt = 20 ∨ z.toInt = 21 ∨ z.toInt = 22 ∨ z.toInt = 23 ∨ z.toInt = 24 ∨ z.toInt = 25 ∨ z.toInt = 26 ∨ z.toInt = 27 ∨ z.toInt = 28 ∨ z.toInt = 29 ∨ z.toInt = 30 ∨ z.toInt = 31 ∨ z.toInt = 32 ∨ z.toInt = 33 ∨ z.toInt = 34 ∨ z.toInt = 35 ∨ z.toInt = 36 ∨ z.toInt = 37 ∨ z.toInt = 38 ∨ z.toInt = 39 ∨ z.toInt = 40 ∨ z.toInt = 41 ∨ z.toInt = 42 by omega) with hk | hk | hk | hk | hk | hk | hk | hk | hk | hk | hk | hk | hk | hk | hk | hk | hk | hk | hk | hk | hk | hk | hk | hk | hk | hk | hk | hk | hk | hk | hk | hk | hk | hk | hk | hk | hk | hk | hk | hk | hk | hk | hk
        · exact lv_tableIn (off := 187) (tgt := 220) hx hb dL_law_33 (by omega) (by omega) (by rw [hk]; rfl) (by decide) (lc_0 C0 hi hL (by omega) hI hl kk)
        · exact lv_tableIn (off := 210) (tgt := 243) hx hb dL_law_33 (by omega) (by omega) (by rw [hk]; rfl) (by decide) (lc_1 C0 hi hL (by omega) hI hl kk)
        · exact lv_tableIn (off := 243) (tgt := 276) hx hb dL_law_33 (by omega) (by omega) (by rw [hk]; rfl) (by decide) (lc_2 C0 hi hL (by omega) hI hl kk)
        · exact lv_tableIn (off := 266) (tgt := 299) hx hb dL_law_33 (by omega) (by omega) (by rw [hk]; rfl) (by decide) (lc_3 C0 hi hL (by omega) hI hl kk)
        · exact lv_tableIn (off := 289) (tgt := 322) hx hb dL_law_33 (by omega) (by omega) (by rw [hk]; rfl) (by decide) (lc_4 C0 hi hL (by omega) hI hl kk)
        · exact lv_tableIn (off := 322) (tgt := 355) hx hb dL_law_33 (by omega) (by omega) (by rw [hk]; rfl) (by decide) (lc_5 C0 hi hL (by omega) hI hl kk)
        · exact lv_tableIn (off := 365) (tgt := 398) hx hb dL_law_33 (by omega) (by omega) (by rw [hk]; rfl) (by decide) (lc_6 C0 hi hL (by omega) hI hl kk)
        · exact lv_tableIn (off := 408) (tgt := 441) hx hb dL_law_33 (by omega) (by omega) (by rw [hk]; rfl) (by decide) (lc_7 C0 hi hL (by omega) hI hl kk)
        · exact lv_tableIn (off := 441) (tgt := 474) hx hb dL_law_33 (by omega) (by omega) (by rw [hk]; rfl) (by decide) (lc_8 C0 hi hL (by omega) hI hl kk)
        · exact lv_tableIn (off := 474) (tgt := 507) hx hb dL_law_33 (by omega) (by omega) (by rw [hk]; rfl) (by decide) (lc_9 C0 hi hL (by omega) hI hl kk)
        · exact lv_tableIn (off := 507) (tgt := 540) hx hb dL_law_33 (by omega) (by omega) (by rw [hk]; rfl) (by decide) (lc_10 C0 hi hL (by omega) hI hl kk)
        · exact lv_tableIn (off := 530) (tgt := 563) hx hb dL_law_33 (by omega) (by omega) (by rw [hk]; rfl) (by decide) (lc_11 C0 hi hL (by omega) hI hl kk)
        · exact lv_tableIn (off := 553) (tgt := 586) hx hb dL_law_33 (by omega) (by omega) (by rw [hk]; rfl) (by decide) (lc_12 C0 hi hL (by omega) hI hl kk)
        · exact lv_tableIn (off := 596) (tgt := 629) hx hb dL_law_33 (by omega) (by omega) (by rw [hk]; rfl) (by decide) (lc_13 C0 hi hL (by omega) hI hl kk)
        · exact lv_tableIn (off := 639) (tgt := 672) hx hb dL_law_33 (by omega) (by omega) (by rw [hk]; rfl) (by decide) (lc_14 C0 hi hL (by omega) hI hl kk)
        · exact lv_tableIn (off := 662) (tgt := 695) hx hb dL_law_33 (by omega) (by omega) (by rw [hk]; rfl) (by decide) (lc_15 C0 hi hL (by omega) hI hl kk)
        · exact lv_tableIn (off := 695) (tgt := 728) hx hb dL_law_33 (by omega) (by omega) (by rw [hk]; rfl) (by decide) (lc_16 C0 hi hL (by omega) hI hl kk)
        · exact lv_tableIn (off := 718) (tgt := 751) hx hb dL_law_33 (by omega) (by omega) (by rw [hk]; rfl) (by decide) (lc_17 C0 hi hL (by omega) hI hl kk)
        · exact lv_tableIn (off := 751) (tgt := 784) hx hb dL_law_33 (by omega) (by omega) (by rw [hk]; rfl) (by decide) (lc_18 C0 hi hL (by omega) hI hl kk)
        · exact lv_tableIn (off := 784) (tgt := 817) hx hb dL_law_33 (by omega) (by omega) (by rw [hk]; rfl) (by decide) (lc_19 C0 hi hL (by omega) hI hl kk)
        · exact lv_tableIn (off := 817) (tgt := 850) hx hb dL_law_33 (by omega) (by omega) (by rw [hk]; rfl) (by decide) (lc_20 C0 hi hL (by omega) hI hl kk)
        · exact lv_tableIn (off := 840) (tgt := 873) hx hb dL_law_33 (by omega) (by omega) (by rw [hk]; rfl) (by decide) (lc_21 C0 hi hL (by omega) hI hl kk)
        · exact lv_tableIn (off := 873) (tgt := 906) hx hb dL_law_33 (by omega) (by omega) (by rw [hk]; rfl) (by decide) (lc_22 C0 hi hL (by omega) hI hl kk)
        · exact lv_tableIn (off := 896) (tgt := 929) hx hb dL_law_33 (by omega) (by omega) (by rw [hk]; rfl) (by decide) (lc_23 C0 hi hL (by omega) hI hl kk)
        · exact lv_tableIn (off := 929) (tgt := 962) hx hb dL_law_33 (by omega) (by omega) (by rw [hk]; rfl) (by decide) (lc_24 C0 hi hL (by omega) hI hl kk)
        · exact lv_tableIn (off := 962) (tgt := 995) hx hb dL_law_33 (by omega) (by omega) (by rw [hk]; rfl) (by decide) (lc_25 C0 hi hL (by omega) hI hl kk)
        · exact lv_tableIn (off := 985) (tgt := 1018) hx hb dL_law_33 (by omega) (by omega) (by rw [hk]; rfl) (by decide) (lc_26 C0 hi hL (by omega) hI hl kk)
        · exact lv_tableIn (off := 1029) (tgt := 1062) hx hb dL_law_33 (by omega) (by omega) (by rw [hk]; rfl) (by decide) (lc_27 C0 hi hL (by omega) hI hl kk)
        · exact lv_tableIn (off := 1052) (tgt := 1085) hx hb dL_law_33 (by omega) (by omega) (by rw [hk]; rfl) (by decide) (lc_28 C0 hi hL (by omega) hI hl kk)
        · exact lv_tableIn (off := 1085) (tgt := 1118) hx hb dL_law_33 (by omega) (by omega) (by rw [hk]; rfl) (by decide) (lc_29 C0 hi hL (by omega) hI hl kk)
        · exact lv_tableIn (off := 1098) (tgt := 1131) hx hb dL_law_33 (by omega) (by omega) (by rw [hk]; rfl) (by decide) (lc_30 C0 hi hL (by omega) hI hl kk)
        · exact lv_tableIn (off := 1111) (tgt := 1144) hx hb dL_law_33 (by omega) (by omega) (by rw [hk]; rfl) (by decide) (lc_31 C0 hi hL (by omega) hI hl kk)
        · exact lv_tableIn (off := 1144) (tgt := 1177) hx hb dL_law_33 (by omega) (by omega) (by rw [hk]; rfl) (by decide) (lc_32 C0 hi hL (by omega) hI hl kk)
        · exact lv_tableIn (off := 1177) (tgt := 1210) hx hb dL_law_33 (by omega) (by omega) (by rw [hk]; rfl) (by decide) (lc_33 C0 hi hL (by omega) hI hl kk)
        · exact lv_tableIn (off := 1220) (tgt := 1253) hx hb dL_law_33 (by omega) (by omega) (by rw [hk]; rfl) (by decide) (lc_34 C0 hi hL (by omega) hI hl kk)
        · exact lv_tableIn (off := 1263) (tgt := 1296) hx hb dL_law_33 (by omega) (by omega) (by rw [hk]; rfl) (by decide) (lc_35 C0 hi hL (by omega) hI hl kk)
        · exact lv_tableIn (off := 1326) (tgt := 1359) hx hb dL_law_33 (by omega) (by omega) (by rw [hk]; rfl) (by decide) (lc_36 C0 hi hL (by omega) hI hl kk)
        · exact lv_tableIn (off := 1349) (tgt := 1382) hx hb dL_law_33 (by omega) (by omega) (by rw [hk]; rfl) (by decide) (lc_37 C0 hi hL (by omega) hI hl kk)
        · exact lv_tableIn (off := 1372) (tgt := 1405) hx hb dL_law_33 (by omega) (by omega) (by rw [hk]; rfl) (by decide) (lc_38 C0 hi hL (by omega) hI hl kk)
        · exact lv_tableIn (off := 1385) (tgt := 1418) hx hb dL_law_33 (by omega) (by omega) (by rw [hk]; rfl) (by decide) (lc_39 C0 hi hL (by omega) hI hl kk)
        · exact lv_tableIn (off := 1398) (tgt := 1431) hx hb dL_law_33 (by omega) (by omega) (by rw [hk]; rfl) (by decide) (lc_40 C0 hi hL (by omega) hI hl kk)
        · exact lv_tableIn (off := 1411) (tgt := 1444) hx hb dL_law_33 (by omega) (by omega) (by rw [hk]; rfl) (by decide) (lc_41 C0 hi hL (by omega) hI hl kk)
        · exact lv_tableIn (off := 1434) (tgt := 1467) hx hb dL_law_33 (by omega) (by omega) (by rw [hk]; rfl) (by decide) (lc_42 C0 hi hL (by omega) hI hl kk)
set_option maxHeartbeats 4000000 in
set_option maxRecDepth 100000 in
/-- THE LAW, from its entry -/
theorem whole_start {p : Program} {e : Env} {s : State} {m : MethodId} {below : List Frame} {meth : Method} {c : Code} (l : Launch) (hflags : l.flags = flags0) {b L : Nat} {xs : Nat → Int32} (hL : L ≤ 3072) (C0 : lw_At p s m meth c b L xs) : W p l e room_1 s m #[Value.ref b] below meth c s.heap [] 0 0 (lw_Z below #[Value.ref b] s) (entryFrame m ([Value.ref b] : List Value).toArray 4) := by
  obtain ⟨hx, hb, hr, hml, hown, hts0, hX0, hbl, hlocks, hgv⟩ := id C0
  have hts : ∀ w ∈ wsL_law, w.before #[Value.ref b] s = true := fun w h9 => hts0 w (wsL_law_in w h9)
  have hb : c.code = cL_law := hb
  have hown : s.vm.findClass RL = some m.cls := hown
  obtain ⟨D, cI, cB, hK⟩ := lw_cl hts0
  obtain ⟨kS, vS, hX⟩ := lw_str hts0 hgv
  have hN : nW s := lw_nw hts0
  have hA : ∀ q : Nat, s.heap.size ≤ q → (fun q : Nat => s.heap.size ≤ q) q := fun _ h => h
  have hbA : ¬ (fun q : Nat => s.heap.size ≤ q) b := Nat.not_le.mpr hbl
  have hS : va_S (fun q : Nat => s.heap.size ≤ q) s.heap s.heap [] := va_S.rf
  have hP : va_P D vwCl [] s.heap := fun k q h => by simp at h
  have hD : va_D (fun q : Nat => s.heap.size ≤ q) [] := ⟨fun i j p q h => by simp at h, fun k q h => by simp at h⟩
  have hl := lv_entry ([.ref b]) (n := 4) (Nat.le_of_ble_eq_true rfl)
  rw [lg_entry_eq]
  generalize (lg_sl ([.ref b]) ++ List.replicate (4 - (lg_sl ([.ref b])).length) Slot.unset).toArray = ls at hl ⊢
  have hl : lv_has ls 4 [(0, .ref b)] := hl
  refine va_new (ci := 3) (fs := [.null, .null, .null, .null, .null, .null, .int (iI 0)]) (C := RX4) (T := TX4) (N := 7) hx hb hts inlX4 tyX4 tyX4_ok hown (hts (.classLink RL 7 RX4) (by decide +kernel)) (hts (.instantiable RX4 7) (by decide +kernel)) (hts (.initialized RX4) (by decide +kernel)) hK hP hD hS hA rfl (fun j hj => by rcases (show j = 0 ∨ j = 1 ∨ j = 2 ∨ j = 3 ∨ j = 4 ∨ j = 5 ∨ j = 6 by omega) with rfl | rfl | rfl | rfl | rfl | rfl | rfl <;> rfl) (Nat.le_of_ble_eq_true rfl) (Nat.le_of_ble_eq_true rfl) dL_law_0 (fun x H hP hD hS => ?_)
  have hP : va_P D vwCl [(x, .inr (3, [.null, .null, .null, .null, .null, .null, .int (iI 0)]))] H := hP
  have hD : va_D (fun q : Nat => s.heap.size ≤ q) [(x, .inr (3, [.null, .null, .null, .null, .null, .null, .int (iI 0)]))] := hD
  refine W.widen (k := 1) (n := 7) (Nat.le_of_ble_eq_true rfl) (Nat.le_of_ble_eq_true rfl) ?_
  refine lv_dup hx hb dL_law_3 rfl ?_
  have hFc := va_free (wc := [(x, .inr (3, [.null, .null, .null, .null, .null, .null, .int (iI 0)]))]) hD hS hA [0] rfl
  refine va_callv (va_runI (As := []) (rest := [.ref x]) ⟨hx, hb, hml, hown, hts⟩ (kX4_init x H.size) (cwI 0 hts gL_law_X4_init rfl rfl rfl (hts (.initialized RX4) (by decide +kernel)) (hts (.methodLink RL 9 yX4_init) (by decide +kernel)) (hts (.instanceMethod yX4_init) (by decide +kernel)) rfl ynSX4_init ⟨Nat.le_of_ble_eq_true rfl, Nat.le_of_ble_eq_true rfl⟩) ⟨fun a U g mk q => ⟨q.1, q.2.1, q.2.2.1, va_K.moved (u := U) (U := U.calling g mk a) (Vm.Alike.refl U.vm) q.2.2.2.1, q.2.2.2.2.1, nW_same (u := U) (U := U.calling g mk a) rfl q.2.2.2.2.2⟩, fun U hU hW => ⟨rfl, by rw [hU], by rw [hU]; exact hP, va_K.moved hW.alike hK, hD.weaken (fun _ _ _ _ => trivial), nW_warm hW hN⟩⟩ rfl rfl hl.1 rfl (lv_room (Nat.le_of_ble_eq_true rfl)) dL_law_4 ⟨Nat.le_of_ble_eq_true rfl, Nat.le_of_ble_eq_true rfl⟩) hS (fun q _ h => hFc q h) hFc (fun u t H1 locs ht hvm hw hB hz1 hk1 hS => ?_)
  obtain ⟨hP1, hK1, hD1⟩ := hB
  rw [ht] at hP1
  obtain ⟨hP, hD⟩ := va_join (wr := []) (w1 := wC cI cB x u.1 u.2.1 u.2.2.1 u.2.2.2.1 u.2.2.2.2.1 u.2.2.2.2.2 (tZ, tZ, 0, g0, g0, g0, 0, g0, g0) tZ g0) hP hD [0] [] rfl rfl (by decide) (by decide) hk1 hFc hP1 hD1
  generalize H1 = H at hP hS ⊢
  have hP : va_P D vwCl (wC cI cB x u.1 u.2.1 u.2.2.1 u.2.2.2.1 u.2.2.2.2.1 u.2.2.2.2.2 (tZ, tZ, 0, g0, g0, g0, 0, g0, g0) tZ g0) H := hP
  have hD : va_D (fun q : Nat => s.heap.size ≤ q) (wC cI cB x u.1 u.2.1 u.2.2.1 u.2.2.2.1 u.2.2.2.2.1 u.2.2.2.2.2 (tZ, tZ, 0, g0, g0, g0, 0, g0, g0) tZ g0) := hD
  refine W.widen (k := 32) (n := 635) (Nat.le_of_ble_eq_true rfl) (Nat.le_of_ble_eq_true rfl) ?_
  refine W.eq (g2 := F0 m 7 ls [.ref x]) rfl ?_
  refine lv_astore_n (lv' := [(1, .ref x), (0, .ref b)]) hx hb dL_law_7 rfl hl (by decide) rfl (fun ls hl => ?_)
  refine va_new (ci := 4) (fs := [.null, .null, .null, .null, .int (iI 0), .null, .null, .int (iI 0), .null, .null, .null, .int (iI 0), .int (iI 0), .int (iI 0), .int (iI 0), .int (iI 0), .int (iI 0), .int (iI 0)]) (C := RX5) (T := TX5) (N := 18) hx hb hts inlX5 tyX5 tyX5_ok hown (hts (.classLink RL 10 RX5) (by decide +kernel)) (hts (.instantiable RX5 18) (by decide +kernel)) (hts (.initialized RX5) (by decide +kernel)) hK hP hD hS hA rfl (fun j hj => by rcases (show j = 0 ∨ j = 1 ∨ j = 2 ∨ j = 3 ∨ j = 4 ∨ j = 5 ∨ j = 6 ∨ j = 7 ∨ j = 8 ∨ j = 9 ∨ j = 10 ∨ j = 11 ∨ j = 12 ∨ j = 13 ∨ j = 14 ∨ j = 15 ∨ j = 16 ∨ j = 17 by omega) with rfl | rfl | rfl | rfl | rfl | rfl | rfl | rfl | rfl | rfl | rfl | rfl | rfl | rfl | rfl | rfl | rfl | rfl <;> rfl) (Nat.le_of_ble_eq_true rfl) (Nat.le_of_ble_eq_true rfl) dL_law_8 (fun y H hP hD hS => ?_)
  have hP : va_P D vwCl (wC cI cB x u.1 u.2.1 u.2.2.1 u.2.2.2.1 u.2.2.2.2.1 u.2.2.2.2.2 (tZ, tZ, 0, g0, g0, g0, 0, g0, g0) tZ g0 ++ [(y, .inr (4, [.null, .null, .null, .null, .int (iI 0), .null, .null, .int (iI 0), .null, .null, .null, .int (iI 0), .int (iI 0), .int (iI 0), .int (iI 0), .int (iI 0), .int (iI 0), .int (iI 0)]))]) H := hP
  have hD : va_D (fun q : Nat => s.heap.size ≤ q) (wC cI cB x u.1 u.2.1 u.2.2.1 u.2.2.2.1 u.2.2.2.2.1 u.2.2.2.2.2 (tZ, tZ, 0, g0, g0, g0, 0, g0, g0) tZ g0 ++ [(y, .inr (4, [.null, .null, .null, .null, .int (iI 0), .null, .null, .int (iI 0), .null, .null, .null, .int (iI 0), .int (iI 0), .int (iI 0), .int (iI 0), .int (iI 0), .int (iI 0), .int (iI 0)]))]) := hD
  refine W.widen (k := 33) (n := 653) (Nat.le_of_ble_eq_true rfl) (Nat.le_of_ble_eq_true rfl) ?_
  refine lv_dup hx hb dL_law_11 rfl ?_
  have hPc := hP.sub (ws' := [(y, .inr (4, [.null, .null, .null, .null, .int (iI 0), .null, .null, .int (iI 0), .null, .null, .null, .int (iI 0), .int (iI 0), .int (iI 0), .int (iI 0), .int (iI 0), .int (iI 0), .int (iI 0)]))]) [32] rfl
  have hDc := hD.sub (ws' := [(y, .inr (4, [.null, .null, .null, .null, .int (iI 0), .null, .null, .int (iI 0), .null, .null, .null, .int (iI 0), .int (iI 0), .int (iI 0), .int (iI 0), .int (iI 0), .int (iI 0), .int (iI 0)]))]) [32] (by decide) rfl
  have hFc := va_free (wc := [(y, .inr (4, [.null, .null, .null, .null, .int (iI 0), .null, .null, .int (iI 0), .null, .null, .null, .int (iI 0), .int (iI 0), .int (iI 0), .int (iI 0), .int (iI 0), .int (iI 0), .int (iI 0)]))]) hD hS hA [32] rfl
  refine va_callv (va_runI (As := []) (rest := [.ref y]) ⟨hx, hb, hml, hown, hts⟩ (kX5_init y H.size) (cwI 0 hts gL_law_X5_init rfl rfl rfl (hts (.initialized RX5) (by decide +kernel)) (hts (.methodLink RL 12 yX5_init) (by decide +kernel)) (hts (.instanceMethod yX5_init) (by decide +kernel)) rfl ynSX5_init ⟨Nat.le_of_ble_eq_true rfl, Nat.le_of_ble_eq_true rfl⟩) ⟨fun a U g mk q => ⟨q.1, q.2.1, q.2.2.1, va_K.moved (u := U) (U := U.calling g mk a) (Vm.Alike.refl U.vm) q.2.2.2.1, q.2.2.2.2.1, trivial⟩, fun U hU hW => ⟨rfl, by rw [hU], by rw [hU]; exact hPc, va_K.moved hW.alike hK, hDc.weaken (fun _ _ _ _ => trivial), trivial⟩⟩ rfl rfl hl.1 rfl (lv_room (Nat.le_of_ble_eq_true rfl)) dL_law_12 ⟨Nat.le_of_ble_eq_true rfl, Nat.le_of_ble_eq_true rfl⟩) hS (fun q _ h => hFc q h) hFc (fun r t H1 locs ht hvm hw hB hz1 hk1 hS => ?_)
  have hw : r 0 = y := hw
  subst hw
  obtain ⟨hP1, hK1, hD1⟩ := hB
  rw [ht] at hP1
  obtain ⟨hP, hD⟩ := va_join (wr := wC cI cB x u.1 u.2.1 u.2.2.1 u.2.2.2.1 u.2.2.2.2.1 u.2.2.2.2.2 (tZ, tZ, 0, g0, g0, g0, 0, g0, g0) tZ g0) (w1 := wM cI r (tZ, g0, 0, g0, g0, g0, 0, g0, g0) g0 g0 g0) hP hD [32] [0, 1, 2, 3, 4, 5, 6, 7, 8, 9, 10, 11, 12, 13, 14, 15, 16, 17, 18, 19, 20, 21, 22, 23, 24, 25, 26, 27, 28, 29, 30, 31] rfl rfl (by decide) (by decide) hk1 hFc hP1 hD1
  generalize H1 = H at hP hS ⊢
  refine W.widen (k := 42) (n := 1349) (Nat.le_of_ble_eq_true rfl) (Nat.le_of_ble_eq_true rfl) ?_
  refine W.eq (g2 := F0 m 15 ls [.ref (r 0)]) rfl ?_
  refine lv_astore_n (lv' := [(2, .ref (r 0)), (1, .ref x), (0, .ref b)]) hx hb dL_law_15 rfl hl (by decide) rfl (fun ls hl => ?_)
  refine x_iconst hx hb dL_law_16 ?_
  refine lv_istore_n (lv' := [(3, .int (iI 0)), (2, .ref (r 0)), (1, .ref x), (0, .ref b)]) hx hb dL_law_17 rfl hl (by decide) rfl (fun ls hl => ?_)
  exact law_loop hL hr hlocks ⟨hx, hb, hml, hown, hts, hX0, hbl, hK, hX⟩ (L + 1) 0 (by omega) (by omega) H locs ⟨tZ, tZ, g0, 0, g0, g0, g0, 0, g0, g0, tZ, g0, g0, g0, g0, GI_0 tZ, GI_0 g0, Or.inl rfl, hP, hD, hS⟩ ls (lv_sub hl [3, 2, 1, 0] rfl)

set_option maxHeartbeats 4000000 in
theorem lw_walk (l : Launch) (hflags : l.flags = flags0) (b : Addr) (xs : List Int32) : MetFree l x (headSpec (Jvm.Cond.code x code maxLocals ret :: tables_1) room_1) (lw_P b xs) (fun _ _ _ _ _ => True) lw_Q := by
  refine MetFree.of_bodyS (code := code) (maxLocals := maxLocals) (ret := ret) (by decide) ?_ ?_
  · intro args s m h hn
    obtain ⟨meth, c, h1, h2, h3, h4, h5, h6, -, -⟩ := Cond.code_spec hn (atoms_spec (ws := Jvm.Cond.code x code maxLocals ret :: tables_1) h _ List.mem_cons_self)
    exact ⟨meth, c, h1, h2, h3, h4, h5, h6⟩
  · intro p e s m args below meth c s₁ B hml0 hP _
    obtain ⟨rfl, hx, hbd, hgv⟩ := hP
    obtain ⟨scr, harrAt, hlist, hof, hsmall⟩ := hx
    obtain ⟨hcb, hkn, -, -⟩ := State.arrayAt?_spec harrAt
    have hown : s.vm.findClass R_law = some m.cls := findClass_of_methodNamed B.named
    have hts0 : ∀ c ∈ (Jvm.Cond.code x code maxLocals ret :: tables_1), c.before #[Value.ref b] s = true := atoms_spec (ws := Jvm.Cond.code x code maxLocals ret :: tables_1) B.pre
    have hts : ∀ w ∈ lw_tbl, w.before #[Value.ref b] s = true := k2_hts_sels lw_privs (fun w hw => hts0 w (List.mem_cons_of_mem _ hw)) lw_privs_ok
    have hml : c.maxLocals = 4 := B.maxLocals_eq (hts0 _ List.mem_cons_self)
    have X₀ : Stand p l e room_1 s m #[Value.ref b] below meth c s₁ [] 0 0 := Stand.of_body B
    have hh0 : s₁.heap = s.heap := by rw [B.state]; rfl
    have hsz : scr.slots.size = xs.length := by rw [← Array.length_toList, hlist, List.length_map]
    have hval : ∀ j : Nat, j < xs.length → scr.slots[j]? = some (.int (xs.getD j 0)) := fun j hj => by
      rw [← Array.getElem?_toList, hlist]
      simp [hj]
    have hbl : b < s.heap.size := (Array.getElem?_eq_some_iff.mp hcb).1
    have hX : va_X b xs.length (fun j => xs.getD j 0) s s.heap := ⟨scr, hcb, hof, hkn, hsz, hval⟩
    have K : W p l e room_1 s m #[Value.ref b] below meth c s₁.heap [] 0 0 (lw_Z below #[Value.ref b] s) (entryFrame m ([Value.ref b] : List Value).toArray 4) := by
      rw [hh0]
      exact whole_start l hflags hbd ⟨B.exec, B.bytes, B.returns, hml, hown, hts, hX, hbl, B.notSynchronized, hgv⟩
    obtain ⟨t, a1, o, b1, b2, b3⟩ := K s₁ rfl X₀
    exact ⟨t, o, a1, b1, b2, b3⟩
theorem lw_pre_spec {args : Array Value} {s : State} (h : (Jvm.Cond.and given_1 narrow_1).before args s = true) (hr : rest_1_c.before args s = true) : ∃ (b : Addr) (xs : List Int32), lw_P b xs args s := by
  have hs := flat_of_before _ h
  have hq := flat_of_before _ hr
  have hc : (Cond.count 1).before args s = true := hs _ (by decide +kernel)
  have harr : (Cond.arrayOf (.arg 0) .int).before args s = true := hs _ (by decide +kernel)
  have hle : (Cond.le (.length (.arg 0)) (.int 3072)).before args s = true := hs _ (by decide +kernel)
  have hlen : (Cond.isInt (.length (.arg 0))).before args s = true := hq _ (by decide +kernel)
  have hall : (Cond.all (.arg 0) (.isInt (.elem (.arg 0) (.index 0)))).before args s = true := hq _ (by decide +kernel)
  obtain ⟨b, xs, hb, hx⟩ := State.ints_of_pre rfl harr hlen hall
  have hsm : xs.length < 2 ^ 31 := hx.choose_spec.2.2.2
  have hev : (Term.length (.arg 0)).eval args s none [] s = some (.int xs.length.toInt32) := hx.length_eval hb
  have hv := Cond.le_ints hev (show (Term.int 3072).eval args s none [] s = some (.int 3072) from rfl)
  have hd : xs.length.toInt32 ≤ 3072 := by
    simpa [Cond.before, Cond.holds, hv] using hle
  have hN : xs.length ≤ 3072 := (Int32.ofNat_le_ofNat hsm (by decide)).mp (show Int32.ofNat xs.length ≤ Int32.ofNat 3072 from hd)
  exact ⟨b, xs, Cond.one_arg hc (show args[0]? = some (.ref b) from hb), hx, hN, h⟩
theorem lw_comes (l : Launch) (hflags : l.flags = flags0) : Comes l x (Jvm.Cond.code x code maxLocals ret :: tables_1) room_1 (fun tb e args s => Calls_1 tb e args s ∧ rest_1 tb e args s ∧ Pre_1 tb e args s)
    (fun _ _ args s o t => lw_Q args s o t) := by
  intro p e ha hc hk s m args below hf hfit hheap happ hpre
  obtain ⟨b, xs, hP⟩ := lw_pre_spec hpre.2.2 hpre.2.1
  obtain ⟨k, o, h1, h2, h3, hQ⟩ := lw_walk l hflags b xs p e ha hc hk s m args below hf ((Spec.applies_iff_loose hf).mp happ).1 hP trivial
  exact ⟨k, o, h1, h2, h3, hQ⟩
theorem lw_frame {s t : State} {o : Outcome} {args : Array Value} (h : Framed s o t [] 42 1349) :
    Framed s o t (fieldLocs frame_1_writes args s ++ arrayLocs frame_1_arrays args s ++ staticLocs frame_1_statics s) 42 1349 := h
theorem lw_limb (L : Cond) (hL : ∀ (args : Array Value) (s t : State), L.after args s (.returned (some (.int 1))) t = true) :
    ArmFor flags0 classFile x code maxLocals ret World_1 tables_1 room_1 Calls_1 rest_1 Pre_1
      (fun tb e a s o t => postC L tb e a s o t ∧ Framed s o t (fieldLocs frame_1_writes a s ++ arrayLocs frame_1_arrays a s ++ staticLocs frame_1_statics s) 42 1349) := by
  intro l hflags _ _ p e ha hc hk s m args below hf hfit hheap happ hpre
  obtain ⟨k, o, h1, h2, h3, rfl, hF⟩ := lw_comes l hflags p e ha hc hk s m args below hf hfit hheap happ hpre
  exact ⟨k, _, h1, h2, h3, hL args s _, lw_frame hF⟩
theorem i_vc : Claimed_1_1 ∧ Claimed_1_2 := ⟨lw_limb limb_1_1 (fun args s t => by simp [limb_1_1, Cond.after, Cond.holds, Cond.value]), lw_limb limb_1_2 (fun args s t => Cond.after_iff.mpr (by
  first | (rw [show limb_1_2 = Cond.eq .result (.int 1) from rfl, Cond.eq_ints (x := 1) (y := 1) rfl rfl]; simp; done) | (simp [limb_1_2, Cond.value, Term.eval]; done)))⟩
