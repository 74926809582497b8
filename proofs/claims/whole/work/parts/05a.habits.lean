theorem ykSX0_isLegal : yX0_isLegal.cls ≠ "java/lang/invoke/MethodHandle" ∧ yX0_isLegal.cls ≠ "java/lang/invoke/VarHandle" ∧ (parseMethodDescriptor yX0_isLegal.desc).map (fun d => d.parameters.length) = some 1 := by decide +kernel
theorem ykVX0_isLegal : yX0_isLegal.cls = RX0 ∧ yX0_isLegal.cls ≠ "java/lang/invoke/MethodHandle" ∧ yX0_isLegal.cls ≠ "java/lang/invoke/VarHandle" ∧ (parseMethodDescriptor yX0_isLegal.desc).map (fun d => d.parameters.length) = some 1 := ⟨rfl, ykSX0_isLegal⟩
set_option maxHeartbeats 4000000 in
set_option maxRecDepth 100000 in
theorem kX0_isLegal {l : Launch} {D : va_G} {cI cB : ClassId} (k : Int) (hk : rI k) : Ct l yX0_isLegal wsX0_isLegal 0 0 D [(cI, .int), (cB, .byte)] [.int (iI k)] (([] : va_W)) (S := Unit) (fun _ => some (.int (iI (b2 (decide (k = 1 ∨ k = 6)))))) (fun _ => True) (fun _ => ([] : va_W)) := by
  refine CtZ.of (cc := cX0_isLegal) (maxL := 1) (by decide +kernel) rfl (Nat.le_of_ble_eq_true rfl) ?_
  intro pg e s m args below meth c Q A hx hb hml hts hown hP hK hD hS ls hl kend
  have hown : s.vm.findClass RX0 = some m.cls := hown
  have hl : lv_has ls 1 [(0, .int (iI k))] := hl
  refine lv_iload_n hx hb dX0_isLegal_0 rfl (lv_at hl 0 rfl) ?_
  refine x_iconst hx hb dX0_isLegal_1 ?_
  refine x_icmp_eq (tgt := 11) hx hb (by omega) (by decide) dX0_isLegal_2 (by decide) (fun c_2 => ?_) (fun c_2 => ?_)
  · refine x_iconst hx hb dX0_isLegal_11 ?_
    refine lv_goto (tgt := 16) hx hb dX0_isLegal_12 (by decide) ?_
    exact kend () hP hS (an_i (b2_t (by omega)).symm) trivial (by decide) dX0_isLegal_16
  · refine lv_iload_n hx hb dX0_isLegal_5 rfl (lv_at hl 0 rfl) ?_
    refine x_bipush hx hb dX0_isLegal_6 (by decide) ?_
    refine x_icmp_ne (tgt := 15) hx hb (by omega) (by decide) dX0_isLegal_8 (by decide) (fun c_8 => ?_) (fun c_8 => ?_)
    · refine x_iconst hx hb dX0_isLegal_15 ?_
      exact kend () hP hS (an_i (b2_f (by omega)).symm) trivial (by decide) dX0_isLegal_16
    · refine x_iconst hx hb dX0_isLegal_11 ?_
      refine lv_goto (tgt := 16) hx hb dX0_isLegal_12 (by decide) ?_
      exact kend () hP hS (an_i (b2_t (by omega)).symm) trivial (by decide) dX0_isLegal_16
theorem ykSX0_parent : yX0_parent.cls ≠ "java/lang/invoke/MethodHandle" ∧ yX0_parent.cls ≠ "java/lang/invoke/VarHandle" ∧ (parseMethodDescriptor yX0_parent.desc).map (fun d => d.parameters.length) = some 1 := by decide +kernel
theorem ykVX0_parent : yX0_parent.cls = RX0 ∧ yX0_parent.cls ≠ "java/lang/invoke/MethodHandle" ∧ yX0_parent.cls ≠ "java/lang/invoke/VarHandle" ∧ (parseMethodDescriptor yX0_parent.desc).map (fun d => d.parameters.length) = some 1 := ⟨rfl, ykSX0_parent⟩
set_option maxHeartbeats 4000000 in
set_option maxRecDepth 100000 in
theorem kX0_parent {l : Launch} {D : va_G} {cI cB : ClassId} (k : Int) (hk : rI k) : Ct l yX0_parent wsX0_parent 0 0 D [(cI, .int), (cB, .byte)] [.int (iI k)] (([] : va_W)) (S := Unit) (fun _ => some (.int (iI (prF k)))) (fun _ => True) (fun _ => ([] : va_W)) := by
  refine CtI.of (cc := cX0_parent) (maxL := 1) (by decide +kernel) rfl (Nat.le_of_ble_eq_true rfl) ?_
  intro pg e s m args below meth c Q A hx hb hml hts hown hP hK hD hS ls hl kend
  have hown : s.vm.findClass RX0 = some m.cls := hown
  have hl : lv_has ls 1 [(0, .int (iI k))] := hl
  refine lv_iload_n hx hb dX0_parent_0 rfl (lv_at hl 0 rfl) ?_
  rcases x_sw k 3 6 with c_1 | c_1
  · refine lv_tableOut (tgt := 38) hx hb dX0_parent_1 (by rw [iI_to (by omega)]; exact c_1) (by decide) ?_
    refine x_iconst hx hb dX0_parent_38 ?_
    exact kend () hP hS (an_i ((by unfold prF; (repeat' split) <;> omega))) trivial dX0_parent_39
  · obtain ⟨c_1a, c_1b⟩ := c_1
    by_cases e_1 : k = 3
    · refine lv_tableIn (off := 31) (tgt := 32) hx hb dX0_parent_1 (by rw [iI_to (by omega)]; omega) (by rw [iI_to (by omega)]; omega) (by rw [iI_to (by omega), e_1]; rfl) (by decide) ?_
      refine x_iconst hx hb dX0_parent_32 ?_
      exact kend () hP hS (an_i ((by unfold prF; (repeat' split) <;> omega))) trivial dX0_parent_33
    by_cases e_1 : k = 4
    · refine lv_tableIn (off := 33) (tgt := 34) hx hb dX0_parent_1 (by rw [iI_to (by omega)]; omega) (by rw [iI_to (by omega)]; omega) (by rw [iI_to (by omega), e_1]; rfl) (by decide) ?_
      refine x_iconst hx hb dX0_parent_34 ?_
      exact kend () hP hS (an_i ((by unfold prF; (repeat' split) <;> omega))) trivial dX0_parent_35
    by_cases e_1 : k = 5
    · refine lv_tableIn (off := 37) (tgt := 38) hx hb dX0_parent_1 (by rw [iI_to (by omega)]; omega) (by rw [iI_to (by omega)]; omega) (by rw [iI_to (by omega), e_1]; rfl) (by decide) ?_
      refine x_iconst hx hb dX0_parent_38 ?_
      exact kend () hP hS (an_i ((by unfold prF; (repeat' split) <;> omega))) trivial dX0_parent_39
    have e_1 : k = 6 := by omega
    refine lv_tableIn (off := 35) (tgt := 36) hx hb dX0_parent_1 (by rw [iI_to (by omega)]; omega) (by rw [iI_to (by omega)]; omega) (by rw [iI_to (by omega), e_1]; rfl) (by decide) ?_
    refine x_iconst hx hb dX0_parent_36 ?_
    exact kend () hP hS (an_i ((by unfold prF; (repeat' split) <;> omega))) trivial dX0_parent_37
theorem ykSX0_bites : yX0_bites.cls ≠ "java/lang/invoke/MethodHandle" ∧ yX0_bites.cls ≠ "java/lang/invoke/VarHandle" ∧ (parseMethodDescriptor yX0_bites.desc).map (fun d => d.parameters.length) = some 3 := by decide +kernel
theorem ykVX0_bites : yX0_bites.cls = RX0 ∧ yX0_bites.cls ≠ "java/lang/invoke/MethodHandle" ∧ yX0_bites.cls ≠ "java/lang/invoke/VarHandle" ∧ (parseMethodDescriptor yX0_bites.desc).map (fun d => d.parameters.length) = some 3 := ⟨rfl, ykSX0_bites⟩
set_option maxHeartbeats 4000000 in
set_option maxRecDepth 100000 in
theorem kX0_bites {l : Launch} {D : va_G} {cI cB : ClassId} (k : Int) (t : Nat) (v : Int) (hk : 0 ≤ k ∧ k ≤ 6) (ht : t < 6) (hv : 0 ≤ v ∧ v ≤ 9) : Ct l yX0_bites wsX0_bites 1 20 D [(cI, .int), (cB, .byte)] [.int (iI k), .int (iI ((t : Nat) : Int)), .int (iI v)] (([] : va_W)) (S := Unit) (fun _ => some (.int (iI (chF k ((t : Nat) : Int) v)))) (fun _ => True) (fun _ => ([] : va_W)) := by
  refine CtI.of (cc := cX0_bites) (maxL := 4) (by decide +kernel) rfl (Nat.le_of_ble_eq_true rfl) ?_
  intro pg e s m args below meth c Q A hx hb hml hts hown hP hK hD hS ls hl kend
  have hown : s.vm.findClass RX0 = some m.cls := hown
  have hl : lv_has ls 4 [(0, .int (iI k)), (1, .int (iI ((t : Nat) : Int))), (2, .int (iI v))] := hl
  refine lv_iload_n hx hb dX0_bites_0 rfl (lv_at hl 0 rfl) ?_
  refine x_iconst hx hb dX0_bites_1 ?_
  refine x_icmp_ne (tgt := 9) hx hb (by omega) (by decide) dX0_bites_2 (by decide) (fun c_2 => ?_) (fun c_2 => ?_)
  · refine x_iconst hx hb dX0_bites_9 ?_
    refine lv_istore_n (lv' := [(3, .int (iI 0)), (0, .int (iI k)), (1, .int (iI ((t : Nat) : Int))), (2, .int (iI v))]) hx hb dX0_bites_10 rfl hl (by decide) rfl (fun ls hl => ?_)
    refine lv_iload_n hx hb dX0_bites_11 rfl (lv_at hl 2 rfl) ?_
    rcases x_sw ((t : Nat) : Int) 0 4 with c_12 | c_12
    · refine lv_tableOut (tgt := 118) hx hb dX0_bites_12 (by rw [iI_to (by omega)]; exact c_12) (by decide) ?_
      refine lv_iload_n hx hb dX0_bites_118 rfl (lv_at hl 0 rfl) ?_
      exact kend () hP hS (an_i ((by unfold chF; (repeat' split) <;> omega))) trivial dX0_bites_119
    · obtain ⟨c_12a, c_12b⟩ := c_12
      by_cases e_12 : ((t : Nat) : Int) = 0
      · refine lv_tableIn (off := 36) (tgt := 48) hx hb dX0_bites_12 (by rw [iI_to (by omega)]; omega) (by rw [iI_to (by omega)]; omega) (by rw [iI_to (by omega), e_12]; rfl) (by decide) ?_
        refine x_iconst hx hb dX0_bites_48 ?_
        refine lv_iload_n hx hb dX0_bites_49 rfl (lv_at hl 0 rfl) ?_
        refine x_iadd hx hb dX0_bites_50 ?_
        refine x_topi 1 (by decide) ?_
        exact kend () hP hS (an_i ((by unfold chF; (repeat' split) <;> omega))) trivial dX0_bites_51
      by_cases e_12 : ((t : Nat) : Int) = 1
      · refine lv_tableIn (off := 40) (tgt := 52) hx hb dX0_bites_12 (by rw [iI_to (by omega)]; omega) (by rw [iI_to (by omega)]; omega) (by rw [iI_to (by omega), e_12]; rfl) (by decide) ?_
        refine lv_iload_n hx hb dX0_bites_52 rfl (lv_at hl 1 rfl) ?_
        refine x_callS (As := [.int (iI k)]) (rest := []) ⟨hx, hb, hml, hown, hts⟩ (kX0_isLegal k (by omega)) (va_cwS 1 hts gX0_bites_X0_isLegal rfl rfl rfl ykSX0_isLegal ⟨Nat.le_of_ble_eq_true rfl, Nat.le_of_ble_eq_true rfl⟩) hP hK hD hS [] rfl (by decide) (fun _ => rfl) (fun _ => ([] : va_W)) (fun _ => rfl) rfl hl.1 rfl (Nat.le_of_ble_eq_true rfl) dX0_bites_53 ⟨Nat.le_of_ble_eq_true rfl, Nat.le_of_ble_eq_true rfl⟩ (fun _ H locs _ hP hD hS => ?_)
        refine W.eq (g2 := F0 m 56 ls [.int (iI (b2 (decide (k = 1 ∨ k = 6))))]) rfl ?_
        refine x_ifb_eq (tgt := 61) hx hb dX0_bites_56 (by decide) (fun c_56 => ?_) (fun c_56 => ?_)
        · refine lv_iload_n hx hb dX0_bites_61 rfl (lv_at hl 1 rfl) ?_
          refine x_iconst hx hb dX0_bites_62 ?_
          refine x_icmp_ne (tgt := 70) hx hb (by omega) (by decide) dX0_bites_63 (by decide) (fun c_63 => ?_) (fun c_63 => ?_)
          · refine x_iconst hx hb dX0_bites_70 ?_
            refine lv_iload_n hx hb dX0_bites_71 rfl (lv_at hl 3 rfl) ?_
            refine x_iadd hx hb dX0_bites_72 ?_
            refine lv_iload_n hx hb dX0_bites_73 rfl (lv_at hl 0 rfl) ?_
            refine x_iadd hx hb dX0_bites_74 ?_
            exact kend () hP hS (an_i ((by unfold chF; (repeat' split) <;> omega))) trivial dX0_bites_75
          · refine x_iconst hx hb dX0_bites_66 ?_
            refine lv_goto (tgt := 75) hx hb dX0_bites_67 (by decide) ?_
            exact kend () hP hS (an_i ((by unfold chF; (repeat' split) <;> omega))) trivial dX0_bites_75
        · refine x_iconst hx hb dX0_bites_59 ?_
          exact kend () hP hS (an_i ((by unfold chF; (repeat' split) <;> omega))) trivial dX0_bites_60
      by_cases e_12 : ((t : Nat) : Int) = 2
      · refine lv_tableIn (off := 64) (tgt := 76) hx hb dX0_bites_12 (by rw [iI_to (by omega)]; omega) (by rw [iI_to (by omega)]; omega) (by rw [iI_to (by omega), e_12]; rfl) (by decide) ?_
        refine lv_iload_n hx hb dX0_bites_76 rfl (lv_at hl 1 rfl) ?_
        refine x_iconst hx hb dX0_bites_77 ?_
        refine x_icmp_ne (tgt := 83) hx hb (by omega) (by decide) dX0_bites_78 (by decide) (fun c_78 => ?_) (fun c_78 => ?_)
        · refine lv_iload_n hx hb dX0_bites_83 rfl (lv_at hl 1 rfl) ?_
          refine x_iconst hx hb dX0_bites_84 ?_
          refine x_icmp_eq (tgt := 93) hx hb (by omega) (by decide) dX0_bites_85 (by decide) (fun c_85 => ?_) (fun c_85 => ?_)
          · refine x_iconst hx hb dX0_bites_93 ?_
            refine lv_iload_n hx hb dX0_bites_94 rfl (lv_at hl 0 rfl) ?_
            refine x_iadd hx hb dX0_bites_95 ?_
            refine x_topi 2 (by decide) ?_
            refine lv_goto (tgt := 100) hx hb dX0_bites_96 (by decide) ?_
            exact kend () hP hS (an_i ((by unfold chF; (repeat' split) <;> omega))) trivial dX0_bites_100
          · refine lv_iload_n hx hb dX0_bites_88 rfl (lv_at hl 1 rfl) ?_
            refine x_iconst hx hb dX0_bites_89 ?_
            refine x_icmp_ne (tgt := 99) hx hb (by omega) (by decide) dX0_bites_90 (by decide) (fun c_90 => ?_) (fun c_90 => ?_)
            · refine x_iconst hx hb dX0_bites_99 ?_
              exact kend () hP hS (an_i ((by unfold chF; (repeat' split) <;> omega))) trivial dX0_bites_100
            · refine x_iconst hx hb dX0_bites_93 ?_
              refine lv_iload_n hx hb dX0_bites_94 rfl (lv_at hl 0 rfl) ?_
              refine x_iadd hx hb dX0_bites_95 ?_
              refine x_topi 2 (by decide) ?_
              refine lv_goto (tgt := 100) hx hb dX0_bites_96 (by decide) ?_
              exact kend () hP hS (an_i ((by unfold chF; (repeat' split) <;> omega))) trivial dX0_bites_100
        · refine x_iconst hx hb dX0_bites_81 ?_
          exact kend () hP hS (an_i ((by unfold chF; (repeat' split) <;> omega))) trivial dX0_bites_82
      by_cases e_12 : ((t : Nat) : Int) = 3
      · refine lv_tableIn (off := 89) (tgt := 101) hx hb dX0_bites_12 (by rw [iI_to (by omega)]; omega) (by rw [iI_to (by omega)]; omega) (by rw [iI_to (by omega), e_12]; rfl) (by decide) ?_
        refine x_iconst hx hb dX0_bites_101 ?_
        refine lv_iload_n hx hb dX0_bites_102 rfl (lv_at hl 0 rfl) ?_
        refine x_iadd hx hb dX0_bites_103 ?_
        refine x_topi 4 (by decide) ?_
        exact kend () hP hS (an_i ((by unfold chF; (repeat' split) <;> omega))) trivial dX0_bites_104
      have e_12 : ((t : Nat) : Int) = 4 := by omega
      refine lv_tableIn (off := 93) (tgt := 105) hx hb dX0_bites_12 (by rw [iI_to (by omega)]; omega) (by rw [iI_to (by omega)]; omega) (by rw [iI_to (by omega), e_12]; rfl) (by decide) ?_
      refine lv_iload_n hx hb dX0_bites_105 rfl (lv_at hl 1 rfl) ?_
      refine x_bipush hx hb dX0_bites_106 (by decide) ?_
      refine x_icmp_ne (tgt := 116) hx hb (by omega) (by decide) dX0_bites_108 (by decide) (fun c_108 => ?_) (fun c_108 => ?_)
      · refine x_iconst hx hb dX0_bites_116 ?_
        exact kend () hP hS (an_i ((by unfold chF; (repeat' split) <;> omega))) trivial dX0_bites_117
      · refine x_bipush hx hb dX0_bites_111 (by decide) ?_
        refine lv_goto (tgt := 117) hx hb dX0_bites_113 (by decide) ?_
        exact kend () hP hS (an_i ((by unfold chF; (repeat' split) <;> omega))) trivial dX0_bites_117
  · refine x_iconst hx hb dX0_bites_5 ?_
    refine lv_goto (tgt := 10) hx hb dX0_bites_6 (by decide) ?_
    refine lv_istore_n (lv' := [(3, .int (iI 1)), (0, .int (iI k)), (1, .int (iI ((t : Nat) : Int))), (2, .int (iI v))]) hx hb dX0_bites_10 rfl hl (by decide) rfl (fun ls hl => ?_)
    refine lv_iload_n hx hb dX0_bites_11 rfl (lv_at hl 2 rfl) ?_
    rcases x_sw ((t : Nat) : Int) 0 4 with c_12 | c_12
    · refine lv_tableOut (tgt := 118) hx hb dX0_bites_12 (by rw [iI_to (by omega)]; exact c_12) (by decide) ?_
      refine lv_iload_n hx hb dX0_bites_118 rfl (lv_at hl 0 rfl) ?_
      exact kend () hP hS (an_i ((by unfold chF; (repeat' split) <;> omega))) trivial dX0_bites_119
    · obtain ⟨c_12a, c_12b⟩ := c_12
      by_cases e_12 : ((t : Nat) : Int) = 0
      · refine lv_tableIn (off := 36) (tgt := 48) hx hb dX0_bites_12 (by rw [iI_to (by omega)]; omega) (by rw [iI_to (by omega)]; omega) (by rw [iI_to (by omega), e_12]; rfl) (by decide) ?_
        refine x_iconst hx hb dX0_bites_48 ?_
        refine lv_iload_n hx hb dX0_bites_49 rfl (lv_at hl 0 rfl) ?_
        refine x_iadd hx hb dX0_bites_50 ?_
        refine x_topi 2 (by decide) ?_
        exact kend () hP hS (an_i ((by unfold chF; (repeat' split) <;> omega))) trivial dX0_bites_51
      by_cases e_12 : ((t : Nat) : Int) = 1
      · refine lv_tableIn (off := 40) (tgt := 52) hx hb dX0_bites_12 (by rw [iI_to (by omega)]; omega) (by rw [iI_to (by omega)]; omega) (by rw [iI_to (by omega), e_12]; rfl) (by decide) ?_
        refine lv_iload_n hx hb dX0_bites_52 rfl (lv_at hl 1 rfl) ?_
        refine x_callS (As := [.int (iI k)]) (rest := []) ⟨hx, hb, hml, hown, hts⟩ (kX0_isLegal k (by omega)) (va_cwS 1 hts gX0_bites_X0_isLegal rfl rfl rfl ykSX0_isLegal ⟨Nat.le_of_ble_eq_true rfl, Nat.le_of_ble_eq_true rfl⟩) hP hK hD hS [] rfl (by decide) (fun _ => rfl) (fun _ => ([] : va_W)) (fun _ => rfl) rfl hl.1 rfl (Nat.le_of_ble_eq_true rfl) dX0_bites_53 ⟨Nat.le_of_ble_eq_true rfl, Nat.le_of_ble_eq_true rfl⟩ (fun _ H locs _ hP hD hS => ?_)
        refine W.eq (g2 := F0 m 56 ls [.int (iI (b2 (decide (k = 1 ∨ k = 6))))]) rfl ?_
        refine x_ifb_eq (tgt := 61) hx hb dX0_bites_56 (by decide) (fun c_56 => ?_) (fun c_56 => ?_)
        · refine lv_iload_n hx hb dX0_bites_61 rfl (lv_at hl 1 rfl) ?_
          refine x_iconst hx hb dX0_bites_62 ?_
          refine x_icmp_ne (tgt := 70) hx hb (by omega) (by decide) dX0_bites_63 (by decide) (fun c_63 => ?_) (fun c_63 => ?_)
          · refine x_iconst hx hb dX0_bites_70 ?_
            refine lv_iload_n hx hb dX0_bites_71 rfl (lv_at hl 3 rfl) ?_
            refine x_iadd hx hb dX0_bites_72 ?_
            refine lv_iload_n hx hb dX0_bites_73 rfl (lv_at hl 0 rfl) ?_
            refine x_iadd hx hb dX0_bites_74 ?_
            exact kend () hP hS (an_i ((by unfold chF; (repeat' split) <;> omega))) trivial dX0_bites_75
          · refine x_iconst hx hb dX0_bites_66 ?_
            refine lv_goto (tgt := 75) hx hb dX0_bites_67 (by decide) ?_
            exact kend () hP hS (an_i ((by unfold chF; (repeat' split) <;> omega))) trivial dX0_bites_75
        · refine x_iconst hx hb dX0_bites_59 ?_
          exact kend () hP hS (an_i ((by unfold chF; (repeat' split) <;> omega))) trivial dX0_bites_60
      by_cases e_12 : ((t : Nat) : Int) = 2
      · refine lv_tableIn (off := 64) (tgt := 76) hx hb dX0_bites_12 (by rw [iI_to (by omega)]; omega) (by rw [iI_to (by omega)]; omega) (by rw [iI_to (by omega), e_12]; rfl) (by decide) ?_
        refine lv_iload_n hx hb dX0_bites_76 rfl (lv_at hl 1 rfl) ?_
        refine x_iconst hx hb dX0_bites_77 ?_
        refine x_icmp_ne (tgt := 83) hx hb (by omega) (by decide) dX0_bites_78 (by decide) (fun c_78 => ?_) (fun c_78 => ?_)
        · refine lv_iload_n hx hb dX0_bites_83 rfl (lv_at hl 1 rfl) ?_
          refine x_iconst hx hb dX0_bites_84 ?_
          refine x_icmp_eq (tgt := 93) hx hb (by omega) (by decide) dX0_bites_85 (by decide) (fun c_85 => ?_) (fun c_85 => ?_)
          · refine x_iconst hx hb dX0_bites_93 ?_
            refine lv_iload_n hx hb dX0_bites_94 rfl (lv_at hl 0 rfl) ?_
            refine x_iadd hx hb dX0_bites_95 ?_
            refine x_topi 3 (by decide) ?_
            refine lv_goto (tgt := 100) hx hb dX0_bites_96 (by decide) ?_
            exact kend () hP hS (an_i ((by unfold chF; (repeat' split) <;> omega))) trivial dX0_bites_100
          · refine lv_iload_n hx hb dX0_bites_88 rfl (lv_at hl 1 rfl) ?_
            refine x_iconst hx hb dX0_bites_89 ?_
            refine x_icmp_ne (tgt := 99) hx hb (by omega) (by decide) dX0_bites_90 (by decide) (fun c_90 => ?_) (fun c_90 => ?_)
            · refine x_iconst hx hb dX0_bites_99 ?_
              exact kend () hP hS (an_i ((by unfold chF; (repeat' split) <;> omega))) trivial dX0_bites_100
            · refine x_iconst hx hb dX0_bites_93 ?_
              refine lv_iload_n hx hb dX0_bites_94 rfl (lv_at hl 0 rfl) ?_
              refine x_iadd hx hb dX0_bites_95 ?_
              refine x_topi 3 (by decide) ?_
              refine lv_goto (tgt := 100) hx hb dX0_bites_96 (by decide) ?_
              exact kend () hP hS (an_i ((by unfold chF; (repeat' split) <;> omega))) trivial dX0_bites_100
        · refine x_iconst hx hb dX0_bites_81 ?_
          exact kend () hP hS (an_i ((by unfold chF; (repeat' split) <;> omega))) trivial dX0_bites_82
      by_cases e_12 : ((t : Nat) : Int) = 3
      · refine lv_tableIn (off := 89) (tgt := 101) hx hb dX0_bites_12 (by rw [iI_to (by omega)]; omega) (by rw [iI_to (by omega)]; omega) (by rw [iI_to (by omega), e_12]; rfl) (by decide) ?_
        refine x_iconst hx hb dX0_bites_101 ?_
        refine lv_iload_n hx hb dX0_bites_102 rfl (lv_at hl 0 rfl) ?_
        refine x_iadd hx hb dX0_bites_103 ?_
        refine x_topi 5 (by decide) ?_
        exact kend () hP hS (an_i ((by unfold chF; (repeat' split) <;> omega))) trivial dX0_bites_104
      have e_12 : ((t : Nat) : Int) = 4 := by omega
      refine lv_tableIn (off := 93) (tgt := 105) hx hb dX0_bites_12 (by rw [iI_to (by omega)]; omega) (by rw [iI_to (by omega)]; omega) (by rw [iI_to (by omega), e_12]; rfl) (by decide) ?_
      refine lv_iload_n hx hb dX0_bites_105 rfl (lv_at hl 1 rfl) ?_
      refine x_bipush hx hb dX0_bites_106 (by decide) ?_
      refine x_icmp_ne (tgt := 116) hx hb (by omega) (by decide) dX0_bites_108 (by decide) (fun c_108 => ?_) (fun c_108 => ?_)
      · refine x_iconst hx hb dX0_bites_116 ?_
        exact kend () hP hS (an_i ((by unfold chF; (repeat' split) <;> omega))) trivial dX0_bites_117
      · refine x_bipush hx hb dX0_bites_111 (by decide) ?_
        refine lv_goto (tgt := 117) hx hb dX0_bites_113 (by decide) ?_
        exact kend () hP hS (an_i ((by unfold chF; (repeat' split) <;> omega))) trivial dX0_bites_117
theorem ykSX0_hunger : yX0_hunger.cls ≠ "java/lang/invoke/MethodHandle" ∧ yX0_hunger.cls ≠ "java/lang/invoke/VarHandle" ∧ (parseMethodDescriptor yX0_hunger.desc).map (fun d => d.parameters.length) = some 4 := by decide +kernel
theorem ykVX0_hunger : yX0_hunger.cls = RX0 ∧ yX0_hunger.cls ≠ "java/lang/invoke/MethodHandle" ∧ yX0_hunger.cls ≠ "java/lang/invoke/VarHandle" ∧ (parseMethodDescriptor yX0_hunger.desc).map (fun d => d.parameters.length) = some 4 := ⟨rfl, ykSX0_hunger⟩
set_option maxHeartbeats 4000000 in
set_option maxRecDepth 100000 in
theorem kX0_hunger {l : Launch} {D : va_G} {cI cB : ClassId} (k : Int) (f : Int) (v : Int) (cl : Int) (hk : 0 ≤ k ∧ k ≤ 6) (hf : 0 ≤ f ∧ f ≤ 99) (hv : 0 ≤ v ∧ v ≤ 9) (hc : rI cl) : Ct l yX0_hunger wsX0_hunger 1 21 D [(cI, .int), (cB, .byte)] [.int (iI k), .int (iI f), .int (iI v), .int (iI cl)] (([] : va_W)) (S := Unit) (fun _ => some (.int (iI (hgF k f v (cl ≠ 0))))) (fun _ => True) (fun _ => ([] : va_W)) := by
  refine CtI.of (cc := cX0_hunger) (maxL := 7) (by decide +kernel) rfl (Nat.le_of_ble_eq_true rfl) ?_
  intro pg e s m args below meth c Q A hx hb hml hts hown hP hK hD hS ls hl kend
  have hown : s.vm.findClass RX0 = some m.cls := hown
  have hl : lv_has ls 7 [(0, .int (iI k)), (1, .int (iI f)), (2, .int (iI v)), (3, .int (iI cl))] := hl
  refine x_bipush hx hb dX0_hunger_0 (by decide) ?_
  refine lv_istore (lv' := [(4, .int (iI 12)), (0, .int (iI k)), (1, .int (iI f)), (2, .int (iI v)), (3, .int (iI cl))]) hx hb dX0_hunger_2 hl (by decide) rfl (fun ls hl => ?_)
  refine lv_iload hx hb dX0_hunger_4 (lv_at hl 0 rfl) ?_
  refine lv_iload_n hx hb dX0_hunger_6 rfl (lv_at hl 2 rfl) ?_
  refine x_bipush hx hb dX0_hunger_7 (by decide) ?_
  refine x_idiv hx hb (by omega) (by omega) (by decide) (by decide) dX0_hunger_9 ?_
  refine x_isub hx hb dX0_hunger_10 ?_
  refine lv_istore (lv' := [(5, .int (iI (12 - (f / 10)))), (4, .int (iI 12)), (0, .int (iI k)), (1, .int (iI f)), (2, .int (iI v)), (3, .int (iI cl))]) hx hb dX0_hunger_11 hl (by decide) rfl (fun ls hl => ?_)
  refine lv_iload hx hb dX0_hunger_13 (lv_at hl 1 rfl) ?_
  refine x_iconst hx hb dX0_hunger_15 ?_
  refine x_idiv hx hb (by omega) (by omega) (by decide) (by decide) dX0_hunger_16 ?_
  refine lv_iload_n hx hb dX0_hunger_17 rfl (lv_at hl 5 rfl) ?_
  refine x_if_eq (tgt := 26) hx hb (by omega) dX0_hunger_18 (by decide) (fun c_18 => ?_) (fun c_18 => ?_)
  · refine x_iconst hx hb dX0_hunger_26 ?_
    refine x_iadd hx hb dX0_hunger_27 ?_
    refine lv_istore (lv' := [(6, .int (iI ((12 / 2) + 0))), (5, .int (iI (12 - (f / 10)))), (4, .int (iI 12)), (0, .int (iI k)), (1, .int (iI f)), (2, .int (iI v)), (3, .int (iI cl))]) hx hb dX0_hunger_28 hl (by decide) rfl (fun ls hl => ?_)
    refine lv_iload_n hx hb dX0_hunger_30 rfl (lv_at hl 3 rfl) ?_
    rcases x_sw k 1 6 with c_31 | c_31
    · refine lv_tableOut (tgt := 98) hx hb dX0_hunger_31 (by rw [iI_to (by omega)]; exact c_31) (by decide) ?_
      refine lv_iload hx hb dX0_hunger_98 (lv_at hl 2 rfl) ?_
      exact kend () hP hS (an_i ((by unfold hgF; (repeat' split) <;> omega))) trivial dX0_hunger_100
    · obtain ⟨c_31a, c_31b⟩ := c_31
      by_cases e_31 : k = 1
      · refine lv_tableIn (off := 37) (tgt := 68) hx hb dX0_hunger_31 (by rw [iI_to (by omega)]; omega) (by rw [iI_to (by omega)]; omega) (by rw [iI_to (by omega), e_31]; rfl) (by decide) ?_
        refine lv_iload hx hb dX0_hunger_68 (lv_at hl 1 rfl) ?_
        exact kend () hP hS (an_i ((by unfold hgF; (repeat' split) <;> omega))) trivial dX0_hunger_70
      by_cases e_31 : k = 2
      · refine lv_tableIn (off := 49) (tgt := 80) hx hb dX0_hunger_31 (by rw [iI_to (by omega)]; omega) (by rw [iI_to (by omega)]; omega) (by rw [iI_to (by omega), e_31]; rfl) (by decide) ?_
        refine lv_iload hx hb dX0_hunger_80 (lv_at hl 2 rfl) ?_
        refine x_iconst hx hb dX0_hunger_82 ?_
        refine x_idiv hx hb (by omega) (by omega) (by decide) (by decide) dX0_hunger_83 ?_
        exact kend () hP hS (an_i ((by unfold hgF; (repeat' split) <;> omega))) trivial dX0_hunger_84
      by_cases e_31 : k = 3
      · refine lv_tableIn (off := 54) (tgt := 85) hx hb dX0_hunger_31 (by rw [iI_to (by omega)]; omega) (by rw [iI_to (by omega)]; omega) (by rw [iI_to (by omega), e_31]; rfl) (by decide) ?_
        refine lv_iload hx hb dX0_hunger_85 (lv_at hl 0 rfl) ?_
        exact kend () hP hS (an_i ((by unfold hgF; (repeat' split) <;> omega))) trivial dX0_hunger_87
      by_cases e_31 : k = 4
      · refine lv_tableIn (off := 57) (tgt := 88) hx hb dX0_hunger_31 (by rw [iI_to (by omega)]; omega) (by rw [iI_to (by omega)]; omega) (by rw [iI_to (by omega), e_31]; rfl) (by decide) ?_
        refine lv_iload hx hb dX0_hunger_88 (lv_at hl 0 rfl) ?_
        refine x_iconst hx hb dX0_hunger_90 ?_
        refine x_iadd hx hb dX0_hunger_91 ?_
        exact kend () hP hS (an_i ((by unfold hgF; (repeat' split) <;> omega))) trivial dX0_hunger_92
      by_cases e_31 : k = 5
      · refine lv_tableIn (off := 62) (tgt := 93) hx hb dX0_hunger_31 (by rw [iI_to (by omega)]; omega) (by rw [iI_to (by omega)]; omega) (by rw [iI_to (by omega), e_31]; rfl) (by decide) ?_
        refine lv_iload hx hb dX0_hunger_93 (lv_at hl 2 rfl) ?_
        refine lv_iload_n hx hb dX0_hunger_95 rfl (lv_at hl 5 rfl) ?_
        refine x_iadd hx hb dX0_hunger_96 ?_
        exact kend () hP hS (an_i ((by unfold hgF; (repeat' split) <;> omega))) trivial dX0_hunger_97
      have e_31 : k = 6 := by omega
      refine lv_tableIn (off := 40) (tgt := 71) hx hb dX0_hunger_31 (by rw [iI_to (by omega)]; omega) (by rw [iI_to (by omega)]; omega) (by rw [iI_to (by omega), e_31]; rfl) (by decide) ?_
      refine x_iconst hx hb dX0_hunger_71 ?_
      refine lv_iload hx hb dX0_hunger_72 (lv_at hl 1 rfl) ?_
      refine x_iconst hx hb dX0_hunger_74 ?_
      refine x_isub hx hb dX0_hunger_75 ?_
      refine x_mmax hx hb (hml.trans hl.1.symm) hown (hts (.methodLink RX0 19 Lib.Math.max.name) (by decide +kernel)) (hts (.static Lib.Math.max.name) (by decide +kernel)) (hts (.initialized "java/lang/Math") (by decide +kernel)) (hts (.code Lib.Math.max.name Lib.Math.max.code 2 (some .int)) (by decide +kernel)) (Nat.le_of_ble_eq_true rfl) (Nat.le_of_ble_eq_true rfl) (Nat.le_of_ble_eq_true rfl) (Nat.le_of_ble_eq_true rfl) (by decide) (by omega) dX0_hunger_76 ?_
      exact kend () hP hS (an_i ((by unfold hgF; (repeat' split) <;> omega))) trivial dX0_hunger_79
  · refine x_bipush hx hb dX0_hunger_21 (by decide) ?_
    refine lv_goto (tgt := 27) hx hb dX0_hunger_23 (by decide) ?_
    refine x_iadd hx hb dX0_hunger_27 ?_
    refine lv_istore (lv' := [(6, .int (iI ((12 / 2) + 20))), (5, .int (iI (12 - (f / 10)))), (4, .int (iI 12)), (0, .int (iI k)), (1, .int (iI f)), (2, .int (iI v)), (3, .int (iI cl))]) hx hb dX0_hunger_28 hl (by decide) rfl (fun ls hl => ?_)
    refine lv_iload_n hx hb dX0_hunger_30 rfl (lv_at hl 3 rfl) ?_
    rcases x_sw k 1 6 with c_31 | c_31
    · refine lv_tableOut (tgt := 98) hx hb dX0_hunger_31 (by rw [iI_to (by omega)]; exact c_31) (by decide) ?_
      refine lv_iload hx hb dX0_hunger_98 (lv_at hl 2 rfl) ?_
      exact kend () hP hS (an_i ((by unfold hgF; (repeat' split) <;> omega))) trivial dX0_hunger_100
    · obtain ⟨c_31a, c_31b⟩ := c_31
      by_cases e_31 : k = 1
      · refine lv_tableIn (off := 37) (tgt := 68) hx hb dX0_hunger_31 (by rw [iI_to (by omega)]; omega) (by rw [iI_to (by omega)]; omega) (by rw [iI_to (by omega), e_31]; rfl) (by decide) ?_
        refine lv_iload hx hb dX0_hunger_68 (lv_at hl 1 rfl) ?_
        exact kend () hP hS (an_i ((by unfold hgF; (repeat' split) <;> omega))) trivial dX0_hunger_70
      by_cases e_31 : k = 2
      · refine lv_tableIn (off := 49) (tgt := 80) hx hb dX0_hunger_31 (by rw [iI_to (by omega)]; omega) (by rw [iI_to (by omega)]; omega) (by rw [iI_to (by omega), e_31]; rfl) (by decide) ?_
        refine lv_iload hx hb dX0_hunger_80 (lv_at hl 2 rfl) ?_
        refine x_iconst hx hb dX0_hunger_82 ?_
        refine x_idiv hx hb (by omega) (by omega) (by decide) (by decide) dX0_hunger_83 ?_
        exact kend () hP hS (an_i ((by unfold hgF; (repeat' split) <;> omega))) trivial dX0_hunger_84
      by_cases e_31 : k = 3
      · refine lv_tableIn (off := 54) (tgt := 85) hx hb dX0_hunger_31 (by rw [iI_to (by omega)]; omega) (by rw [iI_to (by omega)]; omega) (by rw [iI_to (by omega), e_31]; rfl) (by decide) ?_
        refine lv_iload hx hb dX0_hunger_85 (lv_at hl 0 rfl) ?_
        exact kend () hP hS (an_i ((by unfold hgF; (repeat' split) <;> omega))) trivial dX0_hunger_87
      by_cases e_31 : k = 4
      · refine lv_tableIn (off := 57) (tgt := 88) hx hb dX0_hunger_31 (by rw [iI_to (by omega)]; omega) (by rw [iI_to (by omega)]; omega) (by rw [iI_to (by omega), e_31]; rfl) (by decide) ?_
        refine lv_iload hx hb dX0_hunger_88 (lv_at hl 0 rfl) ?_
        refine x_iconst hx hb dX0_hunger_90 ?_
        refine x_iadd hx hb dX0_hunger_91 ?_
        exact kend () hP hS (an_i ((by unfold hgF; (repeat' split) <;> omega))) trivial dX0_hunger_92
      by_cases e_31 : k = 5
      · refine lv_tableIn (off := 62) (tgt := 93) hx hb dX0_hunger_31 (by rw [iI_to (by omega)]; omega) (by rw [iI_to (by omega)]; omega) (by rw [iI_to (by omega), e_31]; rfl) (by decide) ?_
        refine lv_iload hx hb dX0_hunger_93 (lv_at hl 2 rfl) ?_
        refine lv_iload_n hx hb dX0_hunger_95 rfl (lv_at hl 5 rfl) ?_
        refine x_iadd hx hb dX0_hunger_96 ?_
        exact kend () hP hS (an_i ((by unfold hgF; (repeat' split) <;> omega))) trivial dX0_hunger_97
      have e_31 : k = 6 := by omega
      refine lv_tableIn (off := 40) (tgt := 71) hx hb dX0_hunger_31 (by rw [iI_to (by omega)]; omega) (by rw [iI_to (by omega)]; omega) (by rw [iI_to (by omega), e_31]; rfl) (by decide) ?_
      refine x_iconst hx hb dX0_hunger_71 ?_
      refine lv_iload hx hb dX0_hunger_72 (lv_at hl 1 rfl) ?_
      refine x_iconst hx hb dX0_hunger_74 ?_
      refine x_isub hx hb dX0_hunger_75 ?_
      refine x_mmax hx hb (hml.trans hl.1.symm) hown (hts (.methodLink RX0 19 Lib.Math.max.name) (by decide +kernel)) (hts (.static Lib.Math.max.name) (by decide +kernel)) (hts (.initialized "java/lang/Math") (by decide +kernel)) (hts (.code Lib.Math.max.name Lib.Math.max.code 2 (some .int)) (by decide +kernel)) (Nat.le_of_ble_eq_true rfl) (Nat.le_of_ble_eq_true rfl) (Nat.le_of_ble_eq_true rfl) (Nat.le_of_ble_eq_true rfl) (by decide) (by omega) dX0_hunger_76 ?_
      exact kend () hP hS (an_i ((by unfold hgF; (repeat' split) <;> omega))) trivial dX0_hunger_79
theorem ykSX0_words : yX0_words.cls ≠ "java/lang/invoke/MethodHandle" ∧ yX0_words.cls ≠ "java/lang/invoke/VarHandle" ∧ (parseMethodDescriptor yX0_words.desc).map (fun d => d.parameters.length) = some 3 := by decide +kernel
theorem ykVX0_words : yX0_words.cls = RX0 ∧ yX0_words.cls ≠ "java/lang/invoke/MethodHandle" ∧ yX0_words.cls ≠ "java/lang/invoke/VarHandle" ∧ (parseMethodDescriptor yX0_words.desc).map (fun d => d.parameters.length) = some 3 := ⟨rfl, ykSX0_words⟩
set_option maxHeartbeats 4000000 in
set_option maxRecDepth 100000 in
theorem kX0_words {l : Launch} {D : va_G} {cI cB : ClassId} (k : Int) (t : Nat) (d : Int) (hk : 0 ≤ k ∧ k ≤ 6) (ht : t < 6) (hd : 0 ≤ d ∧ d ≤ 100000) : Ct l yX0_words wsX0_words 1 20 D [(cI, .int), (cB, .byte)] [.int (iI k), .int (iI ((t : Nat) : Int)), .int (iI d)] (([] : va_W)) (S := Unit) (fun _ => some (.int (iI (tkF k ((t : Nat) : Int) d)))) (fun _ => True) (fun _ => ([] : va_W)) := by
  refine CtI.of (cc := cX0_words) (maxL := 3) (by decide +kernel) rfl (Nat.le_of_ble_eq_true rfl) ?_
  intro pg e s m args below meth c Q A hx hb hml hts hown hP hK hD hS ls hl kend
  have hown : s.vm.findClass RX0 = some m.cls := hown
  have hl : lv_has ls 3 [(0, .int (iI k)), (1, .int (iI ((t : Nat) : Int))), (2, .int (iI d))] := hl
  refine lv_iload_n hx hb dX0_words_0 rfl (lv_at hl 1 rfl) ?_
  rcases x_sw ((t : Nat) : Int) 0 4 with c_1 | c_1
  · refine lv_tableOut (tgt := 117) hx hb dX0_words_1 (by rw [iI_to (by omega)]; exact c_1) (by decide) ?_
    refine lv_iload_n hx hb dX0_words_117 rfl (lv_at hl 0 rfl) ?_
    refine x_iconst hx hb dX0_words_118 ?_
    refine x_icmp_ne (tgt := 134) hx hb (by omega) (by decide) dX0_words_119 (by decide) (fun c_119 => ?_) (fun c_119 => ?_)
    · refine x_iconst hx hb dX0_words_134 ?_
      exact kend () hP hS (an_i ((by unfold tkF; (repeat' split) <;> omega))) trivial dX0_words_135
    · refine lv_iload_n hx hb dX0_words_122 rfl (lv_at hl 2 rfl) ?_
      refine x_bipush hx hb dX0_words_123 (by decide) ?_
      refine x_irem hx hb (by omega) (by omega) (by decide) (by decide) dX0_words_125 ?_
      refine x_iconst hx hb dX0_words_126 ?_
      refine x_icmp_ne (tgt := 134) hx hb (by omega) (by decide) dX0_words_127 (by decide) (fun c_127 => ?_) (fun c_127 => ?_)
      · refine x_iconst hx hb dX0_words_134 ?_
        exact kend () hP hS (an_i ((by unfold tkF; (repeat' split) <;> omega))) trivial dX0_words_135
      · refine x_iconst hx hb dX0_words_130 ?_
        refine lv_goto (tgt := 135) hx hb dX0_words_131 (by decide) ?_
        exact kend () hP hS (an_i ((by unfold tkF; (repeat' split) <;> omega))) trivial dX0_words_135
  · obtain ⟨c_1a, c_1b⟩ := c_1
    by_cases e_1 : ((t : Nat) : Int) = 0
    · refine lv_tableIn (off := 35) (tgt := 36) hx hb dX0_words_1 (by rw [iI_to (by omega)]; omega) (by rw [iI_to (by omega)]; omega) (by rw [iI_to (by omega), e_1]; rfl) (by decide) ?_
      refine lv_iload_n hx hb dX0_words_36 rfl (lv_at hl 0 rfl) ?_
      refine x_if_eq (tgt := 52) hx hb (by omega) dX0_words_37 (by decide) (fun c_37 => ?_) (fun c_37 => ?_)
      · refine x_iconst hx hb dX0_words_52 ?_
        refine lv_goto (tgt := 57) hx hb dX0_words_53 (by decide) ?_
        exact kend () hP hS (an_i ((by unfold tkF; (repeat' split) <;> omega))) trivial dX0_words_57
      · refine lv_iload_n hx hb dX0_words_40 rfl (lv_at hl 0 rfl) ?_
        refine x_iconst hx hb dX0_words_41 ?_
        refine x_icmp_eq (tgt := 52) hx hb (by omega) (by decide) dX0_words_42 (by decide) (fun c_42 => ?_) (fun c_42 => ?_)
        · refine x_iconst hx hb dX0_words_52 ?_
          refine lv_goto (tgt := 57) hx hb dX0_words_53 (by decide) ?_
          exact kend () hP hS (an_i ((by unfold tkF; (repeat' split) <;> omega))) trivial dX0_words_57
        · refine lv_iload_n hx hb dX0_words_45 rfl (lv_at hl 0 rfl) ?_
          refine x_callS (As := [.int (iI k)]) (rest := []) ⟨hx, hb, hml, hown, hts⟩ (kX0_isLegal k (by omega)) (va_cwS 1 hts gX0_words_X0_isLegal rfl rfl rfl ykSX0_isLegal ⟨Nat.le_of_ble_eq_true rfl, Nat.le_of_ble_eq_true rfl⟩) hP hK hD hS [] rfl (by decide) (fun _ => rfl) (fun _ => ([] : va_W)) (fun _ => rfl) rfl hl.1 rfl (Nat.le_of_ble_eq_true rfl) dX0_words_46 ⟨Nat.le_of_ble_eq_true rfl, Nat.le_of_ble_eq_true rfl⟩ (fun _ H locs _ hP hD hS => ?_)
          refine W.eq (g2 := F0 m 49 ls [.int (iI (b2 (decide (k = 1 ∨ k = 6))))]) rfl ?_
          refine x_ifb_eq (tgt := 56) hx hb dX0_words_49 (by decide) (fun c_49 => ?_) (fun c_49 => ?_)
          · refine x_iconst hx hb dX0_words_56 ?_
            exact kend () hP hS (an_i ((by unfold tkF; (repeat' split) <;> omega))) trivial dX0_words_57
          · refine x_iconst hx hb dX0_words_52 ?_
            refine lv_goto (tgt := 57) hx hb dX0_words_53 (by decide) ?_
            exact kend () hP hS (an_i ((by unfold tkF; (repeat' split) <;> omega))) trivial dX0_words_57
    by_cases e_1 : ((t : Nat) : Int) = 1
    · refine lv_tableIn (off := 57) (tgt := 58) hx hb dX0_words_1 (by rw [iI_to (by omega)]; omega) (by rw [iI_to (by omega)]; omega) (by rw [iI_to (by omega), e_1]; rfl) (by decide) ?_
      refine lv_iload_n hx hb dX0_words_58 rfl (lv_at hl 0 rfl) ?_
      refine x_callS (As := [.int (iI k)]) (rest := []) ⟨hx, hb, hml, hown, hts⟩ (kX0_isLegal k (by omega)) (va_cwS 1 hts gX0_words_X0_isLegal rfl rfl rfl ykSX0_isLegal ⟨Nat.le_of_ble_eq_true rfl, Nat.le_of_ble_eq_true rfl⟩) hP hK hD hS [] rfl (by decide) (fun _ => rfl) (fun _ => ([] : va_W)) (fun _ => rfl) rfl hl.1 rfl (Nat.le_of_ble_eq_true rfl) dX0_words_59 ⟨Nat.le_of_ble_eq_true rfl, Nat.le_of_ble_eq_true rfl⟩ (fun _ H locs _ hP hD hS => ?_)
      refine W.eq (g2 := F0 m 62 ls [.int (iI (b2 (decide (k = 1 ∨ k = 6))))]) rfl ?_
      refine x_ifb_eq (tgt := 69) hx hb dX0_words_62 (by decide) (fun c_62 => ?_) (fun c_62 => ?_)
      · refine x_iconst hx hb dX0_words_69 ?_
        exact kend () hP hS (an_i ((by unfold tkF; (repeat' split) <;> omega))) trivial dX0_words_70
      · refine x_iconst hx hb dX0_words_65 ?_
        refine lv_goto (tgt := 70) hx hb dX0_words_66 (by decide) ?_
        exact kend () hP hS (an_i ((by unfold tkF; (repeat' split) <;> omega))) trivial dX0_words_70
    by_cases e_1 : ((t : Nat) : Int) = 2
    · refine lv_tableIn (off := 70) (tgt := 71) hx hb dX0_words_1 (by rw [iI_to (by omega)]; omega) (by rw [iI_to (by omega)]; omega) (by rw [iI_to (by omega), e_1]; rfl) (by decide) ?_
      refine lv_iload_n hx hb dX0_words_71 rfl (lv_at hl 0 rfl) ?_
      refine x_iconst hx hb dX0_words_72 ?_
      refine x_icmp_ne (tgt := 86) hx hb (by omega) (by decide) dX0_words_73 (by decide) (fun c_73 => ?_) (fun c_73 => ?_)
      · refine x_iconst hx hb dX0_words_86 ?_
        exact kend () hP hS (an_i ((by unfold tkF; (repeat' split) <;> omega))) trivial dX0_words_87
      · refine lv_iload_n hx hb dX0_words_76 rfl (lv_at hl 2 rfl) ?_
        refine x_iconst hx hb dX0_words_77 ?_
        refine x_irem hx hb (by omega) (by omega) (by decide) (by decide) dX0_words_78 ?_
        refine x_if_ne (tgt := 86) hx hb (by omega) dX0_words_79 (by decide) (fun c_79 => ?_) (fun c_79 => ?_)
        · refine x_iconst hx hb dX0_words_86 ?_
          exact kend () hP hS (an_i ((by unfold tkF; (repeat' split) <;> omega))) trivial dX0_words_87
        · refine x_iconst hx hb dX0_words_82 ?_
          refine lv_goto (tgt := 87) hx hb dX0_words_83 (by decide) ?_
          exact kend () hP hS (an_i ((by unfold tkF; (repeat' split) <;> omega))) trivial dX0_words_87
    by_cases e_1 : ((t : Nat) : Int) = 3
    · refine lv_tableIn (off := 87) (tgt := 88) hx hb dX0_words_1 (by rw [iI_to (by omega)]; omega) (by rw [iI_to (by omega)]; omega) (by rw [iI_to (by omega), e_1]; rfl) (by decide) ?_
      refine lv_iload_n hx hb dX0_words_88 rfl (lv_at hl 0 rfl) ?_
      refine x_iconst hx hb dX0_words_89 ?_
      refine x_icmp_ne (tgt := 97) hx hb (by omega) (by decide) dX0_words_90 (by decide) (fun c_90 => ?_) (fun c_90 => ?_)
      · refine x_iconst hx hb dX0_words_97 ?_
        exact kend () hP hS (an_i ((by unfold tkF; (repeat' split) <;> omega))) trivial dX0_words_98
      · refine x_iconst hx hb dX0_words_93 ?_
        refine lv_goto (tgt := 98) hx hb dX0_words_94 (by decide) ?_
        exact kend () hP hS (an_i ((by unfold tkF; (repeat' split) <;> omega))) trivial dX0_words_98
    have e_1 : ((t : Nat) : Int) = 4 := by omega
    refine lv_tableIn (off := 98) (tgt := 99) hx hb dX0_words_1 (by rw [iI_to (by omega)]; omega) (by rw [iI_to (by omega)]; omega) (by rw [iI_to (by omega), e_1]; rfl) (by decide) ?_
    refine lv_iload_n hx hb dX0_words_99 rfl (lv_at hl 0 rfl) ?_
    refine x_bipush hx hb dX0_words_100 (by decide) ?_
    refine x_icmp_ne (tgt := 115) hx hb (by omega) (by decide) dX0_words_102 (by decide) (fun c_102 => ?_) (fun c_102 => ?_)
    · refine x_iconst hx hb dX0_words_115 ?_
      exact kend () hP hS (an_i ((by unfold tkF; (repeat' split) <;> omega))) trivial dX0_words_116
    · refine lv_iload_n hx hb dX0_words_105 rfl (lv_at hl 2 rfl) ?_
      refine x_iconst hx hb dX0_words_106 ?_
      refine x_irem hx hb (by omega) (by omega) (by decide) (by decide) dX0_words_107 ?_
      refine x_if_ne (tgt := 115) hx hb (by omega) dX0_words_108 (by decide) (fun c_108 => ?_) (fun c_108 => ?_)
      · refine x_iconst hx hb dX0_words_115 ?_
        exact kend () hP hS (an_i ((by unfold tkF; (repeat' split) <;> omega))) trivial dX0_words_116
      · refine x_iconst hx hb dX0_words_111 ?_
        refine lv_goto (tgt := 116) hx hb dX0_words_112 (by decide) ?_
        exact kend () hP hS (an_i ((by unfold tkF; (repeat' split) <;> omega))) trivial dX0_words_116
theorem ykSX0_isUnder : yX0_isUnder.cls ≠ "java/lang/invoke/MethodHandle" ∧ yX0_isUnder.cls ≠ "java/lang/invoke/VarHandle" ∧ (parseMethodDescriptor yX0_isUnder.desc).map (fun d => d.parameters.length) = some 2 := by decide +kernel
theorem ykVX0_isUnder : yX0_isUnder.cls = RX0 ∧ yX0_isUnder.cls ≠ "java/lang/invoke/MethodHandle" ∧ yX0_isUnder.cls ≠ "java/lang/invoke/VarHandle" ∧ (parseMethodDescriptor yX0_isUnder.desc).map (fun d => d.parameters.length) = some 2 := ⟨rfl, ykSX0_isUnder⟩
set_option maxHeartbeats 4000000 in
set_option maxRecDepth 100000 in
theorem kX0_isUnder {l : Launch} {D : va_G} {cI cB : ClassId} (k0 : Int) (a : Int) (hk : 0 ≤ k0 ∧ k0 ≤ 6) (ha : rI a) : Ct l yX0_isUnder wsX0_isUnder 1 20 D [(cI, .int), (cB, .byte)] [.int (iI k0), .int (iI a)] (([] : va_W)) (S := Unit) (fun _ => some (.int (iI (b2 (decide (uL 7 k0 a = true)))))) (fun _ => True) (fun _ => ([] : va_W)) := by
  refine CtZ.of (cc := cX0_isUnder) (maxL := 4) (by decide +kernel) rfl (Nat.le_of_ble_eq_true rfl) ?_
  intro pg e s m args below meth c Q A hx hb hml hts hown hP hK hD hS ls hl kend
  have hown : s.vm.findClass RX0 = some m.cls := hown
  have hl : lv_has ls 4 [(0, .int (iI k0)), (1, .int (iI a))] := hl
  refine lv_iload_n hx hb dX0_isUnder_0 rfl (lv_at hl 0 rfl) ?_
  refine lv_istore_n (lv' := [(2, .int (iI k0)), (0, .int (iI k0)), (1, .int (iI a))]) hx hb dX0_isUnder_1 rfl hl (by decide) rfl (fun ls hl => ?_)
  refine x_iconst hx hb dX0_isUnder_2 ?_
  refine lv_istore_n (lv' := [(3, .int (iI 0)), (2, .int (iI k0)), (0, .int (iI k0)), (1, .int (iI a))]) hx hb dX0_isUnder_3 rfl hl (by decide) rfl (fun ls hl => ?_)
  have L4 : ∀ (k t : Nat) (kv : Int) (H : Heap) (locs : List Loc) (ls : Array Slot), t + k = 7 → (uL k kv a = uL 7 k0 a) → (0 ≤ kv ∧ kv ≤ 6) → va_P D vwCl (([] : va_W)) H → va_D A (([] : va_W)) → va_S A s.heap H locs → lv_has ls 4 [(0, .int (iI k0)), (1, .int (iI a)), (2, .int (iI kv)), (3, .int (iI ((t : Nat) : Int)))] → W pg l e { frames := 1, cells := 0, slots := 0, locals := 20 } s m args below meth c H locs 0 0 Q (F0 m 4 ls []) := by
    intro k
    induction k with
    | zero =>
      intro t kv H locs ls hkt hr hq hP hD hS hl
      refine lv_iload_n hx hb dX0_isUnder_4 rfl (lv_at hl 3 rfl) ?_
      refine x_bipush hx hb dX0_isUnder_5 (by decide) ?_
      refine x_icmp_ge (tgt := 28) hx hb (by omega) (by decide) dX0_isUnder_7 (by decide) (fun c_7 => ?_) (fun c_7 => ?_)
      · refine x_iconst hx hb dX0_isUnder_28 ?_
        exact kend () hP hS (an_i (b2_f (by rw [← hr]; exact Bool.false_ne_true)).symm) trivial (by decide) dX0_isUnder_29
      · exfalso; omega
    | succ k ih =>
      intro t kv H locs ls hkt hr hq hP hD hS hl
      refine lv_iload_n hx hb dX0_isUnder_4 rfl (lv_at hl 3 rfl) ?_
      refine x_bipush hx hb dX0_isUnder_5 (by decide) ?_
      refine x_icmp_ge (tgt := 28) hx hb (by omega) (by decide) dX0_isUnder_7 (by decide) (fun c_7 => ?_) (fun c_7 => ?_)
      · exfalso; omega
      · refine lv_iload_n hx hb dX0_isUnder_10 rfl (lv_at hl 2 rfl) ?_
        refine lv_iload_n hx hb dX0_isUnder_11 rfl (lv_at hl 1 rfl) ?_
        refine x_icmp_ne (tgt := 17) hx hb (by omega) (by omega) dX0_isUnder_12 (by decide) (fun c_12 => ?_) (fun c_12 => ?_)
        · refine lv_iload_n hx hb dX0_isUnder_17 rfl (lv_at hl 2 rfl) ?_
          refine x_callS (As := [.int (iI kv)]) (rest := []) ⟨hx, hb, hml, hown, hts⟩ (kX0_parent kv (by omega)) (va_cwS 1 hts gX0_isUnder_X0_parent rfl rfl rfl ykSX0_parent ⟨Nat.le_of_ble_eq_true rfl, Nat.le_of_ble_eq_true rfl⟩) hP hK hD hS [] rfl (by decide) (fun _ => rfl) (fun _ => ([] : va_W)) (fun _ => rfl) rfl hl.1 rfl (Nat.le_of_ble_eq_true rfl) dX0_isUnder_18 ⟨Nat.le_of_ble_eq_true rfl, Nat.le_of_ble_eq_true rfl⟩ (fun _ H locs _ hP hD hS => ?_)
          refine W.eq (g2 := F0 m 21 ls [.int (iI (prF kv))]) rfl ?_
          refine lv_istore_n (lv' := [(2, .int (iI (prF kv))), (0, .int (iI k0)), (1, .int (iI a)), (3, .int (iI ((t : Nat) : Int)))]) hx hb dX0_isUnder_21 rfl hl (by decide) rfl (fun ls hl => ?_)
          refine x_iinc hx hb 3 ((t + 1 : Nat) : Int) (by omega) [(3, .int (iI ((t + 1 : Nat) : Int))), (2, .int (iI (prF kv))), (0, .int (iI k0)), (1, .int (iI a))] dX0_isUnder_22 hl rfl (by decide) rfl (fun ls hl => ?_)
          refine lv_goto (tgt := 4) hx hb dX0_isUnder_25 (by decide) ?_
          exact ih (t + 1) (prF kv) _ _ _ (by omega) (by rw [← hr]; show _ = (if kv = a then true else _); rw [if_neg (by omega)]) (prF_b hq) hP hD hS (lv_sub hl [2, 3, 1, 0] rfl)
        · refine x_iconst hx hb dX0_isUnder_15 ?_
          exact kend () hP hS (an_i (b2_t (by rw [← hr]; show (if kv = a then true else _) = true; rw [if_pos (by omega)])).symm) trivial (by decide) dX0_isUnder_16
  exact L4 7 0 k0 _ _ _ (by omega) rfl hk hP hD hS (lv_sub hl [2, 3, 1, 0] rfl)
