/-! the String constants (by their places: 0 list, 1 vinegar, 2 speaker, 3 lawyer, 4 child, 5 saint, 6 reader, 7 cook, 8 liar, 9 loves, 10 fat, 11 plate) and the JDK's own methods over them -/
def lenS : List Nat := [4, 7, 7, 6, 5, 5, 6, 4, 4, 5, 3, 5]
def bytS : List (List Int32) := [[108, 105, 115, 116], [118, 105, 110, 101, 103, 97, 114], [115, 112, 101, 97, 107, 101, 114], [108, 97, 119, 121, 101, 114], [99, 104, 105, 108, 100], [115, 97, 105, 110, 116], [114, 101, 97, 100, 101, 114], [99, 111, 111, 107], [108, 105, 97, 114], [108, 111, 118, 101, 115], [102, 97, 116], [112, 108, 97, 116, 101]]
def wdS : List (List Int) := [[108, 105, 115, 116], [118, 105, 110, 101, 103, 97, 114], [115, 112, 101, 97, 107, 101, 114], [108, 97, 119, 121, 101, 114], [99, 104, 105, 108, 100], [115, 97, 105, 110, 116], [114, 101, 97, 100, 101, 114], [99, 111, 111, 107], [108, 105, 97, 114], [108, 111, 118, 101, 115], [102, 97, 116], [112, 108, 97, 116, 101]]
def wdA (i : Nat) : List Int := wdS.getD i []
def sR (kS : Nat → Nat) (U : State) : Prop := vk_R RX3 35 "list" (kS 0) U ∧ vk_R RX3 44 "vinegar" (kS 1) U ∧ vk_R RX3 67 "speaker" (kS 2) U ∧ vk_R RX3 71 "lawyer" (kS 3) U ∧ vk_R RX3 73 "child" (kS 4) U ∧ vk_R RX3 75 "saint" (kS 5) U ∧ vk_R RX3 77 "reader" (kS 6) U ∧ vk_R RX3 79 "cook" (kS 7) U ∧ vk_R RX3 81 "liar" (kS 8) U ∧ vk_R RX3 83 "loves" (kS 9) U ∧ vk_R RX3 95 "fat" (kS 10) U ∧ vk_R RX3 99 "plate" (kS 11) U
def sX (kS vS : Nat → Nat) (A : Nat → Prop) (U : State) (H : Heap) : Prop := vk_S 12 lenS bytS kS vS A U H ∧ sR kS U ∧ va_Z "java/lang/String" "COMPACT_STRINGS" "Z" (.int (iI 1)) A U H ∧ va_Zq "jdk/internal/util/Preconditions" "SIOOBE_FORMATTER" "Ljava/util/function/BiFunction;" A U H
theorem sR.warm {kS : Nat → Nat} {s U : State} (hW : s.WarmedH U.vm) (h : sR kS s) : sR kS U := ⟨vk_R.warm hW h.1, vk_R.warm hW h.2.1, vk_R.warm hW h.2.2.1, vk_R.warm hW h.2.2.2.1, vk_R.warm hW h.2.2.2.2.1, vk_R.warm hW h.2.2.2.2.2.1, vk_R.warm hW h.2.2.2.2.2.2.1, vk_R.warm hW h.2.2.2.2.2.2.2.1, vk_R.warm hW h.2.2.2.2.2.2.2.2.1, vk_R.warm hW h.2.2.2.2.2.2.2.2.2.1, vk_R.warm hW h.2.2.2.2.2.2.2.2.2.2.1, vk_R.warm hW h.2.2.2.2.2.2.2.2.2.2.2⟩
theorem sR.same {kS : Nat → Nat} {u U : State} (hv : U.vm = u.vm) (h : sR kS u) : sR kS U := ⟨vk_R.same hv h.1, vk_R.same hv h.2.1, vk_R.same hv h.2.2.1, vk_R.same hv h.2.2.2.1, vk_R.same hv h.2.2.2.2.1, vk_R.same hv h.2.2.2.2.2.1, vk_R.same hv h.2.2.2.2.2.2.1, vk_R.same hv h.2.2.2.2.2.2.2.1, vk_R.same hv h.2.2.2.2.2.2.2.2.1, vk_R.same hv h.2.2.2.2.2.2.2.2.2.1, vk_R.same hv h.2.2.2.2.2.2.2.2.2.2.1, vk_R.same hv h.2.2.2.2.2.2.2.2.2.2.2⟩
theorem sX.warm {kS vS : Nat → Nat} {A : Nat → Prop} {s U : State} {H : Heap} (hW : s.WarmedH U.vm) (h : sX kS vS A s H) : sX kS vS A U H := ⟨h.1.moved hW.alike, h.2.1.warm hW, h.2.2.1.moved hW.alike, h.2.2.2.moved hW.alike⟩
theorem sX.same {kS vS : Nat → Nat} {A : Nat → Prop} {u U : State} {H : Heap} (hv : U.vm = u.vm) (h : sX kS vS A u H) : sX kS vS A U H := ⟨h.1.moved (by rw [hv]; exact Vm.Alike.refl u.vm), h.2.1.same hv, h.2.2.1.moved (by rw [hv]; exact Vm.Alike.refl u.vm), h.2.2.2.moved (by rw [hv]; exact Vm.Alike.refl u.vm)⟩
theorem sX.kept {kS vS : Nat → Nat} {A : Nat → Prop} {U : State} {H H1 : Heap} (h : sX kS vS A U H) (hq : ∀ a : Nat, a < H.size → ¬ A a → H1[a]? = H[a]?) : sX kS vS A U H1 := ⟨h.1.kept hq, h.2.1, h.2.2.1.kept hq, h.2.2.2.kept hq⟩
theorem sX.narrow {kS vS : Nat → Nat} {A B : Nat → Prop} {U : State} {H : Heap} (h : sX kS vS A U H) (hAB : ∀ q, B q → A q) : sX kS vS B U H := ⟨h.1.narrow hAB, h.2.1, h.2.2.1.narrow hAB, h.2.2.2.narrow hAB⟩
def CtS (l : Launch) (y : MethodName) (ws : List Cond) (fr lo : Nat) (D : va_G) (tys : List (ClassId × FieldType)) (kS vS : Nat → Nat) (av : List Value) (w : va_W) {S : Type} (ans : S → Option Value) (post : S → Prop) (w' : S → va_W) : Prop :=
  Met l y ws { frames := fr, cells := 0, slots := 0, locals := lo } (va_Pc av (fun U => xB D tys w U ∧ sX kS vS (aO w) U U.heap)) (xQ D ans post w' (aO w)) 0 0 (aO w)
section XS
variable {p : Program} {l : Launch} {e : Env} {R : Room} {s : State} {m : MethodId} {args : Array Value} {below : List Frame} {meth : Method} {c : Code} {H : Heap} {locs : List Loc} {cells slots : Nat} {Q : State → Prop}
variable {cc : ByteArray} {pc : Nat} {ls : Array Slot} {rest st0 : List Value} {D : va_G} {tys : List (ClassId × FieldType)} {ws w : va_W} {A : Nat → Prop} {kS vS : Nat → Nat}
variable {S : Type} {ans : S → Option Value} {post : S → Prop} {w' : S → va_W} {y : MethodName} {bytes : ByteArray} {maxL nL n index fr lo : Nat} {ret : Option FieldType} {wsy Ts : List Cond} {own C : String} {b : Addr} {As av : List Value}
theorem xS_blind : FrameBlind (va_Pc av (fun U => xB D tys w U ∧ sX kS vS (aO w) U U.heap)) := fun a U g mk q => ⟨q.1, ⟨q.2.1.1, va_K.moved (u := U) (U := U.calling g mk a) (Vm.Alike.refl U.vm) q.2.1.2.1, q.2.1.2.2⟩, sX.same (u := U) (U := U.calling g mk a) rfl q.2.2⟩
theorem xS_pre (hP : va_P D vwCl ws H) (hK : va_K D vwCl tys s) (hD : va_D A ws) (hS : va_S A s.heap H locs) (hX : sX kS vS A s s.heap) (is : List Nat) (hC : is.map (fun i => ws[i]?) = w.map some) (hnd : va_nd is = true) (U : State) (hU : U.heap = H) (hW : s.WarmedH U.vm) : va_Pc av (fun U => xB D tys w U ∧ sX kS vS (aO w) U U.heap) av.toArray U := by
  have h0 := xB_pre (av := av) hP hK hD is hC hnd U hU hW
  refine ⟨rfl, h0.2, ?_⟩
  rw [hU]
  refine ((hX.kept hS.2.1).warm hW).narrow (fun q hq => ?_)
  obtain ⟨k, e, h⟩ := hq
  have h1 : (w.map some)[k]? = some (some (q, e)) := by rw [List.getElem?_map, h]; rfl
  rw [← hC, List.getElem?_map] at h1
  cases hi : is[k]? with
  | none => rw [hi] at h1; cases h1
  | some i => rw [hi] at h1; exact hD.2 i _ (Option.some.inj h1)
theorem x_callVS (CF : CallFix p m c cc nL s args Ts own) (hM : CtS l y wsy fr lo D tys kS vS (.ref b :: As) w ans post w') (cw : CallW R s args own C index y bytes maxL ret wsy { frames := fr, cells := 0, slots := 0, locals := lo } 0 0 n) (hP : va_P D vwCl ws H) (hK : va_K D vwCl tys s) (hD : va_D A ws) (hS : va_S A s.heap H locs) (hX : sX kS vS A s s.heap)
    (q0 ci : Nat) {q : vw_C} {fs : List Value} (hc : vwCl[ci]? = some q) (hqC : q.1 = C) (he : ws[q0]? = some (b, .inr (ci, fs)))
    (is : List Nat) (hC : is.map (fun i => ws[i]?) = w.map some) (hnd : va_nd is = true) (hw' : ∀ u, (w' u).map Prod.fst = w.map Prod.fst) (wn : S → va_W) (hwn : ∀ u, x_put 0 ws is (w' u) = wn u)
    (hn : As.length = n) (hsize : ls.size = nL) (hstack : st0 = As.reverse ++ .ref b :: rest) (hcat : (rest.map fun v => v.category).sum ≤ 8) (hdg : decode cc pc = .ok (.invokevirtual index, 3)) (hf : cells ≤ R.cells ∧ slots ≤ R.slots)
    (kk : ∀ (u : S) (H1 : Heap) (locs1 : List Loc), post u → va_P D vwCl (wn u) H1 → va_D A (wn u) → va_S A s.heap H1 locs1 → W p l e R s m args below meth c H1 locs1 cells slots Q (F0 m (pc + 3) ls ((ans u).toList ++ rest))) : W p l e R s m args below meth c H locs cells slots Q (F0 m pc ls st0) := by
  subst hqC
  exact x_goon (va_runV (g := F0 m pc ls st0) CF hM cw ⟨xS_blind, va_recv hK hP hc he, fun U hU hW => xS_pre hP hK hD hS hX is hC hnd U hU hW⟩ rfl hn hsize hstack (lv_room hcat) hdg hf) hP hD hS is hC hw' wn hwn kk
theorem x_callVK (CF : CallFix p m c cc nL s args Ts own) {i : Nat} (hM : CtS l y wsy fr lo D tys kS vS (.ref (kS i) :: As) w ans post w') (cw : CallW R s args own C index y bytes maxL ret wsy { frames := fr, cells := 0, slots := 0, locals := lo } 0 0 n) (hP : va_P D vwCl ws H) (hK : va_K D vwCl tys s) (hD : va_D A ws) (hS : va_S A s.heap H locs) (hX : sX kS vS A s s.heap) (hi : i < 12) (hqC : C = "java/lang/String")
    (is : List Nat) (hC : is.map (fun i => ws[i]?) = w.map some) (hnd : va_nd is = true) (hw' : ∀ u, (w' u).map Prod.fst = w.map Prod.fst) (wn : S → va_W) (hwn : ∀ u, x_put 0 ws is (w' u) = wn u)
    (hn : As.length = n) (hsize : ls.size = nL) (hstack : st0 = As.reverse ++ .ref (kS i) :: rest) (hcat : (rest.map fun v => v.category).sum ≤ 8) (hdg : decode cc pc = .ok (.invokevirtual index, 3)) (hf : cells ≤ R.cells ∧ slots ≤ R.slots)
    (kk : ∀ (u : S) (H1 : Heap) (locs1 : List Loc), post u → va_P D vwCl (wn u) H1 → va_D A (wn u) → va_S A s.heap H1 locs1 → W p l e R s m args below meth c H1 locs1 cells slots Q (F0 m (pc + 3) ls ((ans u).toList ++ rest))) : W p l e R s m args below meth c H locs cells slots Q (F0 m pc ls st0) := by
  subst hqC
  exact x_goon (va_runV (g := F0 m pc ls st0) CF hM cw ⟨xS_blind, vk_recv hX.1 hi hS, fun U hU hW => xS_pre hP hK hD hS hX is hC hnd U hU hW⟩ rfl hn hsize hstack (lv_room hcat) hdg hf) hP hD hS is hC hw' wn hwn kk
theorem x_callSS (CF : CallFix p m c cc nL s args Ts own) (hM : CtS l y wsy fr lo D tys kS vS As w ans post w') (cw : CallB R s args own index y bytes maxL ret wsy { frames := fr, cells := 0, slots := 0, locals := lo } 0 0 n ∧ (Cond.static y).before args s = true) (hP : va_P D vwCl ws H) (hK : va_K D vwCl tys s) (hD : va_D A ws) (hS : va_S A s.heap H locs) (hX : sX kS vS A s s.heap)
    (is : List Nat) (hC : is.map (fun i => ws[i]?) = w.map some) (hnd : va_nd is = true) (hw' : ∀ u, (w' u).map Prod.fst = w.map Prod.fst) (wn : S → va_W) (hwn : ∀ u, x_put 0 ws is (w' u) = wn u)
    (hn : As.length = n) (hsize : ls.size = nL) (hstack : st0 = As.reverse ++ rest) (hcat : (rest.map fun v => v.category).sum ≤ 8) (hdg : decode cc pc = .ok (.invokestatic index, 3)) (hf : cells ≤ R.cells ∧ slots ≤ R.slots)
    (kk : ∀ (u : S) (H1 : Heap) (locs1 : List Loc), post u → va_P D vwCl (wn u) H1 → va_D A (wn u) → va_S A s.heap H1 locs1 → W p l e R s m args below meth c H1 locs1 cells slots Q (F0 m (pc + 3) ls ((ans u).toList ++ rest))) : W p l e R s m args below meth c H locs cells slots Q (F0 m pc ls st0) := by
  exact x_goon (va_runS (g := F0 m pc ls st0) CF hM cw ⟨xS_blind, fun U hU hW => xS_pre hP hK hD hS hX is hC hnd U hU hW⟩ rfl hn hsize hstack (lv_room hcat) hdg hf) hP hD hS is hC hw' wn hwn kk
end XS
theorem CtSI.of {l : Launch} {y : MethodName} {ws ws' : List Cond} {fr lo : Nat} {D : va_G} {tys : List (ClassId × FieldType)} {kS vS : Nat → Nat} {av : List Value} {w : va_W} {S : Type} {ans : S → Option Value} {post : S → Prop} {w' : S → va_W} {cc : ByteArray} {maxL : Nat}
    (hy : plainName y.cls = true) (hw : ws = Cond.code y cc maxL (some .int) :: ws') (hfit : (lg_sl av).length ≤ maxL)
    (body : ∀ (p : Program) (e : Env) (s : State) (m : MethodId) (args : Array Value) (below : List Frame) (meth : Method) (c : Code) (Q : State → Prop) (A : Nat → Prop), p.tables.exec = Jvm.exec → c.code = cc → c.maxLocals = maxL → (∀ w ∈ ws, w.before args s = true) → s.vm.findClass y.cls = some m.cls → va_P D vwCl w s.heap → va_K D vwCl tys s → va_D A w → va_S A s.heap s.heap [] → sX kS vS A s s.heap → ∀ ls : Array Slot, lv_has ls maxL (lv_args 0 av) →
      (∀ {H : Heap} {locs : List Loc} {pc : Nat} {ls : Array Slot} {v : Int32} (u : S), va_P D vwCl (w' u) H → va_S A s.heap H locs → ans u = some (.int v) → post u → decode cc pc = .ok (.ireturn, 1) → W p l e { frames := fr, cells := 0, slots := 0, locals := lo } s m args below meth c H locs 0 0 Q (F0 m pc ls [.int v])) →
      W p l e { frames := fr, cells := 0, slots := 0, locals := lo } s m args below meth c s.heap [] 0 0 Q (F0 m 0 ls [])) : CtS l y ws fr lo D tys kS vS av w ans post w' := by
  refine Met.ofW (cc := cc) (maxL := maxL) (ret := (some .int)) hy hw ?_
  intro p e s m args below meth c s₁ B hml hv
  obtain ⟨rfl, ⟨hP, hK, hD0⟩, hX⟩ := hv
  rw [lg_entry_eq]
  refine body p e s m av.toArray below meth c _ (aO w) B.exec B.bytes hml (atoms_spec (ws := ws) B.pre) (findClass_of_methodNamed B.named) hP hK ⟨hD0.1, fun k q h => ⟨k, q.2, h⟩⟩ va_S.rf hX _ (lv_entry av hfit) ?_
  intro H locs pc ls v u hP hS ha hp hdg
  exact x_iret B.exec B.bytes B.returns B.notSynchronized hP hS u ha.symm hp rfl hdg
theorem CtSZ.of {l : Launch} {y : MethodName} {ws ws' : List Cond} {fr lo : Nat} {D : va_G} {tys : List (ClassId × FieldType)} {kS vS : Nat → Nat} {av : List Value} {w : va_W} {S : Type} {ans : S → Option Value} {post : S → Prop} {w' : S → va_W} {cc : ByteArray} {maxL : Nat}
    (hy : plainName y.cls = true) (hw : ws = Cond.code y cc maxL (some .boolean) :: ws') (hfit : (lg_sl av).length ≤ maxL)
    (body : ∀ (p : Program) (e : Env) (s : State) (m : MethodId) (args : Array Value) (below : List Frame) (meth : Method) (c : Code) (Q : State → Prop) (A : Nat → Prop), p.tables.exec = Jvm.exec → c.code = cc → c.maxLocals = maxL → (∀ w ∈ ws, w.before args s = true) → s.vm.findClass y.cls = some m.cls → va_P D vwCl w s.heap → va_K D vwCl tys s → va_D A w → va_S A s.heap s.heap [] → sX kS vS A s s.heap → ∀ ls : Array Slot, lv_has ls maxL (lv_args 0 av) →
      (∀ {H : Heap} {locs : List Loc} {pc : Nat} {ls : Array Slot} {v : Int} (u : S), va_P D vwCl (w' u) H → va_S A s.heap H locs → ans u = some (.int (iI v)) → post u → (v = 0 ∨ v = 1) → decode cc pc = .ok (.ireturn, 1) → W p l e { frames := fr, cells := 0, slots := 0, locals := lo } s m args below meth c H locs 0 0 Q (F0 m pc ls [.int (iI v)])) →
      W p l e { frames := fr, cells := 0, slots := 0, locals := lo } s m args below meth c s.heap [] 0 0 Q (F0 m 0 ls [])) : CtS l y ws fr lo D tys kS vS av w ans post w' := by
  refine Met.ofW (cc := cc) (maxL := maxL) (ret := (some .boolean)) hy hw ?_
  intro p e s m args below meth c s₁ B hml hv
  obtain ⟨rfl, ⟨hP, hK, hD0⟩, hX⟩ := hv
  rw [lg_entry_eq]
  refine body p e s m av.toArray below meth c _ (aO w) B.exec B.bytes hml (atoms_spec (ws := ws) B.pre) (findClass_of_methodNamed B.named) hP hK ⟨hD0.1, fun k q h => ⟨k, q.2, h⟩⟩ va_S.rf hX _ (lv_entry av hfit) ?_
  intro H locs pc ls v u hP hS ha hp hz hdg
  exact x_zret B.exec B.bytes B.returns B.notSynchronized hP hS u hz ha.symm hp rfl hdg
theorem CtSC.of {l : Launch} {y : MethodName} {ws ws' : List Cond} {fr lo : Nat} {D : va_G} {tys : List (ClassId × FieldType)} {kS vS : Nat → Nat} {av : List Value} {w : va_W} {S : Type} {ans : S → Option Value} {post : S → Prop} {w' : S → va_W} {cc : ByteArray} {maxL : Nat}
    (hy : plainName y.cls = true) (hw : ws = Cond.code y cc maxL (some .char) :: ws') (hfit : (lg_sl av).length ≤ maxL)
    (body : ∀ (p : Program) (e : Env) (s : State) (m : MethodId) (args : Array Value) (below : List Frame) (meth : Method) (c : Code) (Q : State → Prop) (A : Nat → Prop), p.tables.exec = Jvm.exec → c.code = cc → c.maxLocals = maxL → (∀ w ∈ ws, w.before args s = true) → s.vm.findClass y.cls = some m.cls → va_P D vwCl w s.heap → va_K D vwCl tys s → va_D A w → va_S A s.heap s.heap [] → sX kS vS A s s.heap → ∀ ls : Array Slot, lv_has ls maxL (lv_args 0 av) →
      (∀ {H : Heap} {locs : List Loc} {pc : Nat} {ls : Array Slot} {v : Int32} (u : S), va_P D vwCl (w' u) H → va_S A s.heap H locs → ans u = some (.int v) → post u → (narrow .char (.int v) = .int v) → decode cc pc = .ok (.ireturn, 1) → W p l e { frames := fr, cells := 0, slots := 0, locals := lo } s m args below meth c H locs 0 0 Q (F0 m pc ls [.int v])) →
      W p l e { frames := fr, cells := 0, slots := 0, locals := lo } s m args below meth c s.heap [] 0 0 Q (F0 m 0 ls [])) : CtS l y ws fr lo D tys kS vS av w ans post w' := by
  refine Met.ofW (cc := cc) (maxL := maxL) (ret := (some .char)) hy hw ?_
  intro p e s m args below meth c s₁ B hml hv
  obtain ⟨rfl, ⟨hP, hK, hD0⟩, hX⟩ := hv
  rw [lg_entry_eq]
  refine body p e s m av.toArray below meth c _ (aO w) B.exec B.bytes hml (atoms_spec (ws := ws) B.pre) (findClass_of_methodNamed B.named) hP hK ⟨hD0.1, fun k q h => ⟨k, q.2, h⟩⟩ va_S.rf hX _ (lv_entry av hfit) ?_
  intro H locs pc ls v u hP hS ha hp hz hdg
  exact W.zret B.exec B.bytes B.returns hz (fun t ht _ => ⟨⟨u, by rw [ha], hp, by rw [ht]; exact hP⟩, hS.F ht⟩) hS.2.2 hdg B.notSynchronized
theorem CtSB.of {l : Launch} {y : MethodName} {ws ws' : List Cond} {fr lo : Nat} {D : va_G} {tys : List (ClassId × FieldType)} {kS vS : Nat → Nat} {av : List Value} {w : va_W} {S : Type} {ans : S → Option Value} {post : S → Prop} {w' : S → va_W} {cc : ByteArray} {maxL : Nat}
    (hy : plainName y.cls = true) (hw : ws = Cond.code y cc maxL (some .byte) :: ws') (hfit : (lg_sl av).length ≤ maxL)
    (body : ∀ (p : Program) (e : Env) (s : State) (m : MethodId) (args : Array Value) (below : List Frame) (meth : Method) (c : Code) (Q : State → Prop) (A : Nat → Prop), p.tables.exec = Jvm.exec → c.code = cc → c.maxLocals = maxL → (∀ w ∈ ws, w.before args s = true) → s.vm.findClass y.cls = some m.cls → va_P D vwCl w s.heap → va_K D vwCl tys s → va_D A w → va_S A s.heap s.heap [] → sX kS vS A s s.heap → ∀ ls : Array Slot, lv_has ls maxL (lv_args 0 av) →
      (∀ {H : Heap} {locs : List Loc} {pc : Nat} {ls : Array Slot} {v : Int32} (u : S), va_P D vwCl (w' u) H → va_S A s.heap H locs → ans u = some (.int v) → post u → (narrow .byte (.int v) = .int v) → decode cc pc = .ok (.ireturn, 1) → W p l e { frames := fr, cells := 0, slots := 0, locals := lo } s m args below meth c H locs 0 0 Q (F0 m pc ls [.int v])) →
      W p l e { frames := fr, cells := 0, slots := 0, locals := lo } s m args below meth c s.heap [] 0 0 Q (F0 m 0 ls [])) : CtS l y ws fr lo D tys kS vS av w ans post w' := by
  refine Met.ofW (cc := cc) (maxL := maxL) (ret := (some .byte)) hy hw ?_
  intro p e s m args below meth c s₁ B hml hv
  obtain ⟨rfl, ⟨hP, hK, hD0⟩, hX⟩ := hv
  rw [lg_entry_eq]
  refine body p e s m av.toArray below meth c _ (aO w) B.exec B.bytes hml (atoms_spec (ws := ws) B.pre) (findClass_of_methodNamed B.named) hP hK ⟨hD0.1, fun k q h => ⟨k, q.2, h⟩⟩ va_S.rf hX _ (lv_entry av hfit) ?_
  intro H locs pc ls v u hP hS ha hp hz hdg
  exact W.zret B.exec B.bytes B.returns hz (fun t ht _ => ⟨⟨u, by rw [ha], hp, by rw [ht]; exact hP⟩, hS.F ht⟩) hS.2.2 hdg B.notSynchronized
theorem CtSV.of {l : Launch} {y : MethodName} {ws ws' : List Cond} {fr lo : Nat} {D : va_G} {tys : List (ClassId × FieldType)} {kS vS : Nat → Nat} {av : List Value} {w : va_W} {S : Type} {ans : S → Option Value} {post : S → Prop} {w' : S → va_W} {cc : ByteArray} {maxL : Nat}
    (hy : plainName y.cls = true) (hw : ws = Cond.code y cc maxL none :: ws') (hfit : (lg_sl av).length ≤ maxL)
    (body : ∀ (p : Program) (e : Env) (s : State) (m : MethodId) (args : Array Value) (below : List Frame) (meth : Method) (c : Code) (Q : State → Prop) (A : Nat → Prop), p.tables.exec = Jvm.exec → c.code = cc → c.maxLocals = maxL → (∀ w ∈ ws, w.before args s = true) → s.vm.findClass y.cls = some m.cls → va_P D vwCl w s.heap → va_K D vwCl tys s → va_D A w → va_S A s.heap s.heap [] → sX kS vS A s s.heap → ∀ ls : Array Slot, lv_has ls maxL (lv_args 0 av) →
      (∀ {H : Heap} {locs : List Loc} {pc : Nat} {ls : Array Slot} (u : S), va_P D vwCl (w' u) H → va_S A s.heap H locs → ans u = none → post u → decode cc pc = .ok (.return_, 1) → W p l e { frames := fr, cells := 0, slots := 0, locals := lo } s m args below meth c H locs 0 0 Q (F0 m pc ls [])) →
      W p l e { frames := fr, cells := 0, slots := 0, locals := lo } s m args below meth c s.heap [] 0 0 Q (F0 m 0 ls [])) : CtS l y ws fr lo D tys kS vS av w ans post w' := by
  refine Met.ofW (cc := cc) (maxL := maxL) (ret := none) hy hw ?_
  intro p e s m args below meth c s₁ B hml hv
  obtain ⟨rfl, ⟨hP, hK, hD0⟩, hX⟩ := hv
  rw [lg_entry_eq]
  refine body p e s m av.toArray below meth c _ (aO w) B.exec B.bytes hml (atoms_spec (ws := ws) B.pre) (findClass_of_methodNamed B.named) hP hK ⟨hD0.1, fun k q h => ⟨k, q.2, h⟩⟩ va_S.rf hX _ (lv_entry av hfit) ?_
  intro H locs pc ls u hP hS ha hp hdg
  exact x_vret B.exec B.bytes B.returns B.notSynchronized hP hS u ha.symm hp rfl hdg
theorem ykSJ0_length_8abf5 : yJ0_length_8abf5.cls ≠ "java/lang/invoke/MethodHandle" ∧ yJ0_length_8abf5.cls ≠ "java/lang/invoke/VarHandle" ∧ (parseMethodDescriptor yJ0_length_8abf5.desc).map (fun d => d.parameters.length) = some 0 := by decide +kernel
theorem ykVJ0_length_8abf5 : yJ0_length_8abf5.cls = RJ0 ∧ yJ0_length_8abf5.cls ≠ "java/lang/invoke/MethodHandle" ∧ yJ0_length_8abf5.cls ≠ "java/lang/invoke/VarHandle" ∧ (parseMethodDescriptor yJ0_length_8abf5.desc).map (fun d => d.parameters.length) = some 0 := ⟨rfl, ykSJ0_length_8abf5⟩
theorem ykSJ0_charAt_5068e : yJ0_charAt_5068e.cls ≠ "java/lang/invoke/MethodHandle" ∧ yJ0_charAt_5068e.cls ≠ "java/lang/invoke/VarHandle" ∧ (parseMethodDescriptor yJ0_charAt_5068e.desc).map (fun d => d.parameters.length) = some 1 := by decide +kernel
theorem ykVJ0_charAt_5068e : yJ0_charAt_5068e.cls = RJ0 ∧ yJ0_charAt_5068e.cls ≠ "java/lang/invoke/MethodHandle" ∧ yJ0_charAt_5068e.cls ≠ "java/lang/invoke/VarHandle" ∧ (parseMethodDescriptor yJ0_charAt_5068e.desc).map (fun d => d.parameters.length) = some 1 := ⟨rfl, ykSJ0_charAt_5068e⟩
theorem ykSJ0_coder_7d493 : yJ0_coder_7d493.cls ≠ "java/lang/invoke/MethodHandle" ∧ yJ0_coder_7d493.cls ≠ "java/lang/invoke/VarHandle" ∧ (parseMethodDescriptor yJ0_coder_7d493.desc).map (fun d => d.parameters.length) = some 0 := by decide +kernel
theorem ykVJ0_coder_7d493 : yJ0_coder_7d493.cls = RJ0 ∧ yJ0_coder_7d493.cls ≠ "java/lang/invoke/MethodHandle" ∧ yJ0_coder_7d493.cls ≠ "java/lang/invoke/VarHandle" ∧ (parseMethodDescriptor yJ0_coder_7d493.desc).map (fun d => d.parameters.length) = some 0 := ⟨rfl, ykSJ0_coder_7d493⟩
theorem ykSJ0_isLatin1_aae02 : yJ0_isLatin1_aae02.cls ≠ "java/lang/invoke/MethodHandle" ∧ yJ0_isLatin1_aae02.cls ≠ "java/lang/invoke/VarHandle" ∧ (parseMethodDescriptor yJ0_isLatin1_aae02.desc).map (fun d => d.parameters.length) = some 0 := by decide +kernel
theorem ykVJ0_isLatin1_aae02 : yJ0_isLatin1_aae02.cls = RJ0 ∧ yJ0_isLatin1_aae02.cls ≠ "java/lang/invoke/MethodHandle" ∧ yJ0_isLatin1_aae02.cls ≠ "java/lang/invoke/VarHandle" ∧ (parseMethodDescriptor yJ0_isLatin1_aae02.desc).map (fun d => d.parameters.length) = some 0 := ⟨rfl, ykSJ0_isLatin1_aae02⟩
theorem ykSJ0_checkIndex_df160 : yJ0_checkIndex_df160.cls ≠ "java/lang/invoke/MethodHandle" ∧ yJ0_checkIndex_df160.cls ≠ "java/lang/invoke/VarHandle" ∧ (parseMethodDescriptor yJ0_checkIndex_df160.desc).map (fun d => d.parameters.length) = some 2 := by decide +kernel
theorem ykVJ0_checkIndex_df160 : yJ0_checkIndex_df160.cls = RJ0 ∧ yJ0_checkIndex_df160.cls ≠ "java/lang/invoke/MethodHandle" ∧ yJ0_checkIndex_df160.cls ≠ "java/lang/invoke/VarHandle" ∧ (parseMethodDescriptor yJ0_checkIndex_df160.desc).map (fun d => d.parameters.length) = some 2 := ⟨rfl, ykSJ0_checkIndex_df160⟩
theorem ykSJ1_charAt_3b067 : yJ1_charAt_3b067.cls ≠ "java/lang/invoke/MethodHandle" ∧ yJ1_charAt_3b067.cls ≠ "java/lang/invoke/VarHandle" ∧ (parseMethodDescriptor yJ1_charAt_3b067.desc).map (fun d => d.parameters.length) = some 2 := by decide +kernel
theorem ykVJ1_charAt_3b067 : yJ1_charAt_3b067.cls = RJ1 ∧ yJ1_charAt_3b067.cls ≠ "java/lang/invoke/MethodHandle" ∧ yJ1_charAt_3b067.cls ≠ "java/lang/invoke/VarHandle" ∧ (parseMethodDescriptor yJ1_charAt_3b067.desc).map (fun d => d.parameters.length) = some 2 := ⟨rfl, ykSJ1_charAt_3b067⟩
theorem ykSJ3_checkIndex_8e157 : yJ3_checkIndex_8e157.cls ≠ "java/lang/invoke/MethodHandle" ∧ yJ3_checkIndex_8e157.cls ≠ "java/lang/invoke/VarHandle" ∧ (parseMethodDescriptor yJ3_checkIndex_8e157.desc).map (fun d => d.parameters.length) = some 3 := by decide +kernel
theorem ykVJ3_checkIndex_8e157 : yJ3_checkIndex_8e157.cls = RJ3 ∧ yJ3_checkIndex_8e157.cls ≠ "java/lang/invoke/MethodHandle" ∧ yJ3_checkIndex_8e157.cls ≠ "java/lang/invoke/VarHandle" ∧ (parseMethodDescriptor yJ3_checkIndex_8e157.desc).map (fun d => d.parameters.length) = some 3 := ⟨rfl, ykSJ3_checkIndex_8e157⟩
theorem ofNat_iI (n : Nat) : Int32.ofNat n = iI (n : Int) := (Int32.ofInt_eq_ofNat (n := n)).symm
theorem ln_b : ∀ i : Nat, i < 12 → lenS.getD i 0 < 8 := by decide +kernel
theorem shr_0 : ∀ n : Nat, n < 8 → shrI (n : Int) 0 = (n : Int) := by decide +kernel
theorem ch_e : ∀ i : Nat, i < 12 → ∀ x : Nat, x < lenS.getD i 0 → ((((bytS.getD i []).getD x 0 &&& 255).toUInt32 % 65536).toInt32 = iI ((wdA i).getD x 0)) ∧ 97 ≤ (wdA i).getD x 0 ∧ (wdA i).getD x 0 ≤ 122 ∧ narrow .char (.int (iI ((wdA i).getD x 0))) = .int (iI ((wdA i).getD x 0)) := by decide +kernel
theorem ln_e : ∀ i : Nat, i < 12 → (wdA i).length = lenS.getD i 0 := by decide +kernel
set_option maxHeartbeats 4000000 in
set_option maxRecDepth 100000 in
theorem kJ0_coder_7d493 {l : Launch} {D : va_G} {cI cB : ClassId} {kS vS : Nat → Nat} (i : Nat) (hi : i < 12) : CtS l yJ0_coder_7d493 wsJ0_coder_7d493 0 0 D [(cI, .int), (cB, .byte)] kS vS [.ref (kS i)] [] (S := Unit) (fun _ => some (.int (iI 0))) (fun _ => True) (fun _ => []) := by
  refine CtSB.of (cc := cJ0_coder_7d493) (maxL := 1) (by decide +kernel) rfl (Nat.le_of_ble_eq_true rfl) ?_
  intro pg e s m args below meth c Q A hx hb hml hts hown hP hK hD hS hX ls hl kend
  have hown : s.vm.findClass RJ0 = some m.cls := hown
  have hl : lv_has ls 1 [(0, .ref (kS i))] := hl
  refine va_gets hx hb hX.2.2.1 hS hown (hts (.fieldLink RJ0 38 "java/lang/String" "COMPACT_STRINGS" "Z") (by decide +kernel)) (fun _ h => h) dJ0_coder_7d493_0 ?_
  refine x_if_eq (tgt := 13) hx hb (by decide) dJ0_coder_7d493_3 (by decide) (fun c9 => absurd c9 (by decide)) (fun _ => ?_)
  refine lv_aload_n hx hb dJ0_coder_7d493_6 rfl (lv_at hl 0 rfl) ?_
  refine vk_getf hx hb (hX.1.1 i hi).2.1 hS hown (hts (.fieldLink RJ0 15 "java/lang/String" "coder" "B") (by decide +kernel)) (fun _ h => h) dJ0_coder_7d493_7 ?_
  refine lv_goto (tgt := 14) hx hb dJ0_coder_7d493_10 (by decide) ?_
  exact kend () hP hS rfl trivial rfl dJ0_coder_7d493_14
set_option maxHeartbeats 4000000 in
set_option maxRecDepth 100000 in
theorem kJ0_isLatin1_aae02 {l : Launch} {D : va_G} {cI cB : ClassId} {kS vS : Nat → Nat} (i : Nat) (hi : i < 12) : CtS l yJ0_isLatin1_aae02 wsJ0_isLatin1_aae02 0 0 D [(cI, .int), (cB, .byte)] kS vS [.ref (kS i)] [] (S := Unit) (fun _ => some (.int (iI 1))) (fun _ => True) (fun _ => []) := by
  refine CtSZ.of (cc := cJ0_isLatin1_aae02) (maxL := 1) (by decide +kernel) rfl (Nat.le_of_ble_eq_true rfl) ?_
  intro pg e s m args below meth c Q A hx hb hml hts hown hP hK hD hS hX ls hl kend
  have hown : s.vm.findClass RJ0 = some m.cls := hown
  have hl : lv_has ls 1 [(0, .ref (kS i))] := hl
  refine va_gets hx hb hX.2.2.1 hS hown (hts (.fieldLink RJ0 38 "java/lang/String" "COMPACT_STRINGS" "Z") (by decide +kernel)) (fun _ h => h) dJ0_isLatin1_aae02_0 ?_
  refine x_if_eq (tgt := 17) hx hb (by decide) dJ0_isLatin1_aae02_3 (by decide) (fun c9 => absurd c9 (by decide)) (fun _ => ?_)
  refine lv_aload_n hx hb dJ0_isLatin1_aae02_6 rfl (lv_at hl 0 rfl) ?_
  refine vk_getf hx hb (hX.1.1 i hi).2.1 hS hown (hts (.fieldLink RJ0 15 "java/lang/String" "coder" "B") (by decide +kernel)) (fun _ h => h) dJ0_isLatin1_aae02_7 ?_
  refine x_topv (.int (iI 0)) rfl ?_
  refine x_if_ne (tgt := 17) hx hb (by decide) dJ0_isLatin1_aae02_10 (by decide) (fun c9 => absurd rfl c9) (fun _ => ?_)
  refine x_iconst hx hb dJ0_isLatin1_aae02_13 ?_
  refine lv_goto (tgt := 18) hx hb dJ0_isLatin1_aae02_14 (by decide) ?_
  exact kend () hP hS rfl trivial (Or.inr rfl) dJ0_isLatin1_aae02_18
set_option maxHeartbeats 4000000 in
set_option maxRecDepth 100000 in
theorem kJ0_length_8abf5 {l : Launch} {D : va_G} {cI cB : ClassId} {kS vS : Nat → Nat} (i : Nat) (hi : i < 12) : CtS l yJ0_length_8abf5 wsJ0_length_8abf5 1 20 D [(cI, .int), (cB, .byte)] kS vS [.ref (kS i)] [] (S := Unit) (fun _ => some (.int (iI ((lenS.getD i 0 : Nat) : Int)))) (fun _ => True) (fun _ => []) := by
  refine CtSI.of (cc := cJ0_length_8abf5) (maxL := 1) (by decide +kernel) rfl (Nat.le_of_ble_eq_true rfl) ?_
  intro pg e s m args below meth c Q A hx hb hml hts hown hP hK hD hS hX ls hl kend
  have hown : s.vm.findClass RJ0 = some m.cls := hown
  have hl : lv_has ls 1 [(0, .ref (kS i))] := hl
  refine lv_aload_n hx hb dJ0_length_8abf5_0 rfl (lv_at hl 0 rfl) ?_
  refine vk_getf hx hb (hX.1.1 i hi).2.2.1 hS hown (hts (.fieldLink RJ0 9 "java/lang/String" "value" "[B") (by decide +kernel)) (fun _ h => h) dJ0_length_8abf5_1 ?_
  refine va_tlen hx hb (hX.1.1 i hi).2.2.2 hS (ofNat_iI _) dJ0_length_8abf5_4 ?_
  refine lv_aload_n hx hb dJ0_length_8abf5_5 rfl (lv_at hl 0 rfl) ?_
  refine x_callVK (As := []) (rest := [.int (iI ((lenS.getD i 0 : Nat) : Int))]) ⟨hx, hb, hml, hown, hts⟩ (kJ0_coder_7d493 i hi) (cwV 0 hts gJ0_length_8abf5_J0_coder_7d493 rfl rfl rfl ykVJ0_coder_7d493 ⟨Nat.le_of_ble_eq_true rfl, Nat.le_of_ble_eq_true rfl⟩) hP hK hD hS hX hi rfl [] rfl (by decide) (fun _ => rfl) (fun _ => []) (fun _ => rfl) rfl hl.1 rfl (Nat.le_of_ble_eq_true rfl) dJ0_length_8abf5_6 ⟨Nat.le_of_ble_eq_true rfl, Nat.le_of_ble_eq_true rfl⟩ (fun _ H locs _ hP hD hS => ?_)
  refine W.eq (g2 := F0 m 9 ls [.int (iI 0), .int (iI ((lenS.getD i 0 : Nat) : Int))]) rfl ?_
  refine x_ishr hx hb dJ0_length_8abf5_9 ?_
  refine x_topi ((lenS.getD i 0 : Nat) : Int) (shr_0 _ (ln_b i hi)) ?_
  exact kend () hP hS rfl trivial dJ0_length_8abf5_10
set_option maxHeartbeats 4000000 in
set_option maxRecDepth 100000 in
theorem kJ3_checkIndex_8e157n {l : Launch} {D : va_G} {cI cB : ClassId} (x n : Nat) (hx1 : x < n) (hn1 : n < 1000) : Ct l yJ3_checkIndex_8e157 wsJ3_checkIndex_8e157 0 0 D [(cI, .int), (cB, .byte)] [.int (iI ((x : Nat) : Int)), .int (iI ((n : Nat) : Int)), .null] [] (S := Unit) (fun _ => some (.int (iI ((x : Nat) : Int)))) (fun _ => True) (fun _ => []) := by
  refine CtI.of (cc := cJ3_checkIndex_8e157) (maxL := 3) (by decide +kernel) rfl (Nat.le_of_ble_eq_true rfl) ?_
  intro pg e s m args below meth c Q A hx hb hml hts hown hP hK hD hS ls hl kend
  have hown : s.vm.findClass RJ3 = some m.cls := hown
  have hl : lv_has ls 3 [(0, .int (iI ((x : Nat) : Int))), (1, .int (iI ((n : Nat) : Int))), (2, .null)] := hl
  refine lv_iload_n hx hb dJ3_checkIndex_8e157_0 rfl (lv_at hl 0 rfl) ?_
  refine x_if_lt (tgt := 9) hx hb (by omega) dJ3_checkIndex_8e157_1 (by decide) (fun c9 => by exfalso; omega) (fun _ => ?_)
  refine lv_iload_n hx hb dJ3_checkIndex_8e157_4 rfl (lv_at hl 0 rfl) ?_
  refine lv_iload_n hx hb dJ3_checkIndex_8e157_5 rfl (lv_at hl 1 rfl) ?_
  refine x_icmp_lt (tgt := 16) hx hb (by omega) (by omega) dJ3_checkIndex_8e157_6 (by decide) (fun _ => ?_) (fun c9 => by exfalso; omega)
  refine lv_iload_n hx hb dJ3_checkIndex_8e157_16 rfl (lv_at hl 0 rfl) ?_
  exact kend () hP hS rfl trivial dJ3_checkIndex_8e157_17
set_option maxHeartbeats 4000000 in
set_option maxRecDepth 100000 in
theorem kJ3_checkIndex_8e157r {l : Launch} {D : va_G} {cI cB : ClassId} (x n : Nat) (t : Nat) (hx1 : x < n) (hn1 : n < 1000) : Ct l yJ3_checkIndex_8e157 wsJ3_checkIndex_8e157 0 0 D [(cI, .int), (cB, .byte)] [.int (iI ((x : Nat) : Int)), .int (iI ((n : Nat) : Int)), .ref t] [] (S := Unit) (fun _ => some (.int (iI ((x : Nat) : Int)))) (fun _ => True) (fun _ => []) := by
  refine CtI.of (cc := cJ3_checkIndex_8e157) (maxL := 3) (by decide +kernel) rfl (Nat.le_of_ble_eq_true rfl) ?_
  intro pg e s m args below meth c Q A hx hb hml hts hown hP hK hD hS ls hl kend
  have hown : s.vm.findClass RJ3 = some m.cls := hown
  have hl : lv_has ls 3 [(0, .int (iI ((x : Nat) : Int))), (1, .int (iI ((n : Nat) : Int))), (2, .ref t)] := hl
  refine lv_iload_n hx hb dJ3_checkIndex_8e157_0 rfl (lv_at hl 0 rfl) ?_
  refine x_if_lt (tgt := 9) hx hb (by omega) dJ3_checkIndex_8e157_1 (by decide) (fun c9 => by exfalso; omega) (fun _ => ?_)
  refine lv_iload_n hx hb dJ3_checkIndex_8e157_4 rfl (lv_at hl 0 rfl) ?_
  refine lv_iload_n hx hb dJ3_checkIndex_8e157_5 rfl (lv_at hl 1 rfl) ?_
  refine x_icmp_lt (tgt := 16) hx hb (by omega) (by omega) dJ3_checkIndex_8e157_6 (by decide) (fun _ => ?_) (fun c9 => by exfalso; omega)
  refine lv_iload_n hx hb dJ3_checkIndex_8e157_16 rfl (lv_at hl 0 rfl) ?_
  exact kend () hP hS rfl trivial dJ3_checkIndex_8e157_17
set_option maxHeartbeats 4000000 in
set_option maxRecDepth 100000 in
theorem kJ0_checkIndex_df160 {l : Launch} {D : va_G} {cI cB : ClassId} {kS vS : Nat → Nat} (x n : Nat) (hx1 : x < n) (hn1 : n < 1000) : CtS l yJ0_checkIndex_df160 wsJ0_checkIndex_df160 1 22 D [(cI, .int), (cB, .byte)] kS vS [.int (iI ((x : Nat) : Int)), .int (iI ((n : Nat) : Int))] [] (S := Unit) (fun _ => none) (fun _ => True) (fun _ => []) := by
  refine CtSV.of (cc := cJ0_checkIndex_df160) (maxL := 2) (by decide +kernel) rfl (Nat.le_of_ble_eq_true rfl) ?_
  intro pg e s m args below meth c Q A hx hb hml hts hown hP hK hD hS hX ls hl kend
  have hown : s.vm.findClass RJ0 = some m.cls := hown
  have hl : lv_has ls 2 [(0, .int (iI ((x : Nat) : Int))), (1, .int (iI ((n : Nat) : Int)))] := hl
  refine lv_iload_n hx hb dJ0_checkIndex_df160_0 rfl (lv_at hl 0 rfl) ?_
  refine lv_iload_n hx hb dJ0_checkIndex_df160_1 rfl (lv_at hl 1 rfl) ?_
  rcases hX.2.2.2 with hZ | ⟨t, hZ⟩
  · refine va_gets hx hb hZ hS hown (hts (.fieldLink RJ0 1053 "jdk/internal/util/Preconditions" "SIOOBE_FORMATTER" "Ljava/util/function/BiFunction;") (by decide +kernel)) (fun _ h => h) dJ0_checkIndex_df160_2 ?_
    refine x_callS (As := [.int (iI ((x : Nat) : Int)), .int (iI ((n : Nat) : Int)), .null]) (rest := []) ⟨hx, hb, hml, hown, hts⟩ (kJ3_checkIndex_8e157n x n hx1 hn1) (va_cwS 3 hts gJ0_checkIndex_df160_J3_checkIndex_8e157 rfl rfl rfl ykSJ3_checkIndex_8e157 ⟨Nat.le_of_ble_eq_true rfl, Nat.le_of_ble_eq_true rfl⟩) hP hK hD hS [] rfl (by decide) (fun _ => rfl) (fun _ => []) (fun _ => rfl) rfl hl.1 rfl (Nat.le_of_ble_eq_true rfl) dJ0_checkIndex_df160_5 ⟨Nat.le_of_ble_eq_true rfl, Nat.le_of_ble_eq_true rfl⟩ (fun _ H locs _ hP hD hS => ?_)
    refine W.eq (g2 := F0 m 8 ls [.int (iI ((x : Nat) : Int))]) rfl ?_
    refine lv_pop hx hb dJ0_checkIndex_df160_8 rfl ?_
    exact kend () hP hS rfl trivial dJ0_checkIndex_df160_9
  · refine va_gets hx hb hZ hS hown (hts (.fieldLink RJ0 1053 "jdk/internal/util/Preconditions" "SIOOBE_FORMATTER" "Ljava/util/function/BiFunction;") (by decide +kernel)) (fun _ h => h) dJ0_checkIndex_df160_2 ?_
    refine x_callS (As := [.int (iI ((x : Nat) : Int)), .int (iI ((n : Nat) : Int)), .ref t]) (rest := []) ⟨hx, hb, hml, hown, hts⟩ (kJ3_checkIndex_8e157r x n t hx1 hn1) (va_cwS 3 hts gJ0_checkIndex_df160_J3_checkIndex_8e157 rfl rfl rfl ykSJ3_checkIndex_8e157 ⟨Nat.le_of_ble_eq_true rfl, Nat.le_of_ble_eq_true rfl⟩) hP hK hD hS [] rfl (by decide) (fun _ => rfl) (fun _ => []) (fun _ => rfl) rfl hl.1 rfl (Nat.le_of_ble_eq_true rfl) dJ0_checkIndex_df160_5 ⟨Nat.le_of_ble_eq_true rfl, Nat.le_of_ble_eq_true rfl⟩ (fun _ H locs _ hP hD hS => ?_)
    refine W.eq (g2 := F0 m 8 ls [.int (iI ((x : Nat) : Int))]) rfl ?_
    refine lv_pop hx hb dJ0_checkIndex_df160_8 rfl ?_
    exact kend () hP hS rfl trivial dJ0_checkIndex_df160_9
set_option maxHeartbeats 4000000 in
set_option maxRecDepth 100000 in
theorem kJ1_charAt_3b067 {l : Launch} {D : va_G} {cI cB : ClassId} {kS vS : Nat → Nat} (i x : Nat) (hi : i < 12) (hx1 : x < lenS.getD i 0) : CtS l yJ1_charAt_3b067 wsJ1_charAt_3b067 2 43 D [(cI, .int), (cB, .byte)] kS vS [.ref (vS i), .int (iI ((x : Nat) : Int))] [] (S := Unit) (fun _ => some (.int (iI ((wdA i).getD x 0)))) (fun _ => True) (fun _ => []) := by
  refine CtSC.of (cc := cJ1_charAt_3b067) (maxL := 2) (by decide +kernel) rfl (Nat.le_of_ble_eq_true rfl) ?_
  intro pg e s m args below meth c Q A hx hb hml hts hown hP hK hD hS hX ls hl kend
  have hown : s.vm.findClass RJ1 = some m.cls := hown
  have hl : lv_has ls 2 [(0, .ref (vS i)), (1, .int (iI ((x : Nat) : Int)))] := hl
  have hn1 := ln_b i hi
  obtain ⟨e2, e3, e4, e5⟩ := ch_e i hi x hx1
  refine lv_iload_n hx hb dJ1_charAt_3b067_0 rfl (lv_at hl 1 rfl) ?_
  refine lv_aload_n hx hb dJ1_charAt_3b067_1 rfl (lv_at hl 0 rfl) ?_
  refine va_tlen hx hb (hX.1.1 i hi).2.2.2 hS (ofNat_iI _) dJ1_charAt_3b067_2 ?_
  refine x_callSS (As := [.int (iI ((x : Nat) : Int)), .int (iI ((lenS.getD i 0 : Nat) : Int))]) (rest := []) ⟨hx, hb, hml, hown, hts⟩ (kJ0_checkIndex_df160 x (lenS.getD i 0) hx1 (by omega)) (va_cwS 2 hts gJ1_charAt_3b067_J0_checkIndex_df160 rfl rfl rfl ykSJ0_checkIndex_df160 ⟨Nat.le_of_ble_eq_true rfl, Nat.le_of_ble_eq_true rfl⟩) hP hK hD hS hX [] rfl (by decide) (fun _ => rfl) (fun _ => []) (fun _ => rfl) rfl hl.1 rfl (Nat.le_of_ble_eq_true rfl) dJ1_charAt_3b067_3 ⟨Nat.le_of_ble_eq_true rfl, Nat.le_of_ble_eq_true rfl⟩ (fun _ H locs _ hP hD hS => ?_)
  refine W.eq (g2 := F0 m 6 ls []) rfl ?_
  refine lv_aload_n hx hb dJ1_charAt_3b067_6 rfl (lv_at hl 0 rfl) ?_
  refine lv_iload_n hx hb dJ1_charAt_3b067_7 rfl (lv_at hl 1 rfl) ?_
  obtain ⟨n1, n2⟩ := iI_in (n := lenS.getD i 0) (a := ((x : Nat) : Int)) x rfl hx1 (by omega)
  refine va_tb (v := .int ((bytS.getD i []).getD x 0)) hx hb (hX.1.1 i hi).2.2.2 hS n1 (by rw [n2]) dJ1_charAt_3b067_8 ?_
  refine lv_sipush hx hb dJ1_charAt_3b067_9 (v := 255) (by decide) ?_
  refine lv_iand hx hb dJ1_charAt_3b067_12 ?_
  refine lv_i2c hx hb dJ1_charAt_3b067_13 e2 ?_
  exact kend () hP hS rfl trivial e5 dJ1_charAt_3b067_14
set_option maxHeartbeats 4000000 in
set_option maxRecDepth 100000 in
theorem kJ0_charAt_5068e {l : Launch} {D : va_G} {cI cB : ClassId} {kS vS : Nat → Nat} (i x : Nat) (hi : i < 12) (hx1 : x < lenS.getD i 0) : CtS l yJ0_charAt_5068e wsJ0_charAt_5068e 3 64 D [(cI, .int), (cB, .byte)] kS vS [.ref (kS i), .int (iI ((x : Nat) : Int))] [] (S := Unit) (fun _ => some (.int (iI ((wdA i).getD x 0)))) (fun _ => True) (fun _ => []) := by
  refine CtSC.of (cc := cJ0_charAt_5068e) (maxL := 2) (by decide +kernel) rfl (Nat.le_of_ble_eq_true rfl) ?_
  intro pg e s m args below meth c Q A hx hb hml hts hown hP hK hD hS hX ls hl kend
  have hown : s.vm.findClass RJ0 = some m.cls := hown
  have hl : lv_has ls 2 [(0, .ref (kS i)), (1, .int (iI ((x : Nat) : Int)))] := hl
  obtain ⟨e2, e3, e4, e5⟩ := ch_e i hi x hx1
  refine lv_aload_n hx hb dJ0_charAt_5068e_0 rfl (lv_at hl 0 rfl) ?_
  refine x_callVK (As := []) (rest := []) ⟨hx, hb, hml, hown, hts⟩ (kJ0_isLatin1_aae02 i hi) (cwV 0 hts gJ0_charAt_5068e_J0_isLatin1_aae02 rfl rfl rfl ykVJ0_isLatin1_aae02 ⟨Nat.le_of_ble_eq_true rfl, Nat.le_of_ble_eq_true rfl⟩) hP hK hD hS hX hi rfl [] rfl (by decide) (fun _ => rfl) (fun _ => []) (fun _ => rfl) rfl hl.1 rfl (Nat.le_of_ble_eq_true rfl) dJ0_charAt_5068e_1 ⟨Nat.le_of_ble_eq_true rfl, Nat.le_of_ble_eq_true rfl⟩ (fun _ H locs _ hP hD hS => ?_)
  refine W.eq (g2 := F0 m 4 ls [.int (iI 1)]) rfl ?_
  refine x_if_eq (tgt := 16) hx hb (by decide) dJ0_charAt_5068e_4 (by decide) (fun c9 => absurd c9 (by decide)) (fun _ => ?_)
  refine lv_aload_n hx hb dJ0_charAt_5068e_7 rfl (lv_at hl 0 rfl) ?_
  refine vk_getf hx hb (hX.1.1 i hi).2.2.1 hS hown (hts (.fieldLink RJ0 9 "java/lang/String" "value" "[B") (by decide +kernel)) (fun _ h => h) dJ0_charAt_5068e_8 ?_
  refine lv_iload_n hx hb dJ0_charAt_5068e_11 rfl (lv_at hl 1 rfl) ?_
  refine x_callSS (As := [.ref (vS i), .int (iI ((x : Nat) : Int))]) (rest := []) ⟨hx, hb, hml, hown, hts⟩ (kJ1_charAt_3b067 i x hi hx1) (va_cwS 2 hts gJ0_charAt_5068e_J1_charAt_3b067 rfl rfl rfl ykSJ1_charAt_3b067 ⟨Nat.le_of_ble_eq_true rfl, Nat.le_of_ble_eq_true rfl⟩) hP hK hD hS hX [] rfl (by decide) (fun _ => rfl) (fun _ => []) (fun _ => rfl) rfl hl.1 rfl (Nat.le_of_ble_eq_true rfl) dJ0_charAt_5068e_12 ⟨Nat.le_of_ble_eq_true rfl, Nat.le_of_ble_eq_true rfl⟩ (fun _ H locs _ hP hD hS => ?_)
  refine W.eq (g2 := F0 m 15 ls [.int (iI ((wdA i).getD x 0))]) rfl ?_
  exact kend () hP hS rfl trivial e5 dJ0_charAt_5068e_15
