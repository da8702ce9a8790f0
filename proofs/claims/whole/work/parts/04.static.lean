theorem kd_X2_isWithin : yX2_isWithin.cls ≠ "java/lang/invoke/MethodHandle" ∧ yX2_isWithin.cls ≠ "java/lang/invoke/VarHandle" ∧ (parseMethodDescriptor yX2_isWithin.desc).map (fun d => d.parameters.length) = some 3 := by decide +kernel
set_option maxHeartbeats 4000000 in
set_option maxRecDepth 100000 in
theorem c_X2_isWithin (l : Launch) {a0 a1 a2 : Int32} : Met l yX2_isWithin wsX2_isWithin ({ frames := 0, cells := 0, slots := 0, locals := 0 }) (va_Pc ([.int a0, .int a1, .int a2] : List Value) (fun _ => True)) (QcRead (bI (a1 ≤ a0 ∧ a0 ≤ a2))) 0 0 (fun _ => False) := by
  refine Met.ofW (cc := cX2_isWithin) (maxL := 3) (ret := (some .boolean)) (by decide) rfl ?_
  intro p e s m args below meth c s₁ B hml hv
  obtain ⟨rfl, -⟩ := hv
  have hx := B.exec
  have hb := B.bytes
  have hr := B.returns
  have hts := atoms_spec (ws := wsX2_isWithin) B.pre
  have hown : s.vm.findClass RX2 = some m.cls := findClass_of_methodNamed B.named
  have hlocks := B.notSynchronized
  have hl := lv_entry ([.int a0, .int a1, .int a2] : List Value) (n := 3) (Nat.le_of_ble_eq_true rfl)
  rw [lg_entry_eq]
  generalize (lg_sl ([.int a0, .int a1, .int a2] : List Value) ++ List.replicate (3 - (lg_sl ([.int a0, .int a1, .int a2] : List Value)).length) Slot.unset).toArray = ls at hl ⊢
  have hl : lv_has ls 3 [(0, .int a0), (1, .int a1), (2, .int a2)] := hl
  refine lv_iload_n hx hb dX2_isWithin_0 rfl (lv_at hl 1 rfl) ?_
  refine lv_iload_n hx hb dX2_isWithin_1 rfl (lv_at hl 0 rfl) ?_
  refine lv_icmp_gt (tgt := 14) hx hb dX2_isWithin_2 (by decide) (fun c_2 => ?_) (fun c_2 => ?_)
  · skip
    refine lv_iconst (v := 0) hx hb dX2_isWithin_14 (by decide) ?_
    exact W.zret hx hb hr (by first | rfl | exact bI_nar) (fun t ht _ => ri (by first | exact (bI_t ⟨Int32.not_lt.mp c_2, Int32.not_lt.mp c_7⟩).symm | exact (bI_f (fun h => Int32.not_lt.mpr h.2 c_7)).symm | exact (bI_f (fun h => Int32.not_lt.mpr h.1 c_2)).symm) ht) no_locs dX2_isWithin_15
  · skip
    refine lv_iload_n hx hb dX2_isWithin_5 rfl (lv_at hl 0 rfl) ?_
    refine lv_iload_n hx hb dX2_isWithin_6 rfl (lv_at hl 2 rfl) ?_
    refine lv_icmp_gt (tgt := 14) hx hb dX2_isWithin_7 (by decide) (fun c_7 => ?_) (fun c_7 => ?_)
    · skip
      refine lv_iconst (v := 0) hx hb dX2_isWithin_14 (by decide) ?_
      exact W.zret hx hb hr (by first | rfl | exact bI_nar) (fun t ht _ => ri (by first | exact (bI_t ⟨Int32.not_lt.mp c_2, Int32.not_lt.mp c_7⟩).symm | exact (bI_f (fun h => Int32.not_lt.mpr h.2 c_7)).symm | exact (bI_f (fun h => Int32.not_lt.mpr h.1 c_2)).symm) ht) no_locs dX2_isWithin_15
    · skip
      refine lv_iconst (v := 1) hx hb dX2_isWithin_10 (by decide) ?_
      refine lv_goto (tgt := 15) hx hb dX2_isWithin_11 (by decide) ?_
      exact W.zret hx hb hr (by first | rfl | exact bI_nar) (fun t ht _ => ri (by first | exact (bI_t ⟨Int32.not_lt.mp c_2, Int32.not_lt.mp c_7⟩).symm | exact (bI_f (fun h => Int32.not_lt.mpr h.2 c_7)).symm | exact (bI_f (fun h => Int32.not_lt.mpr h.1 c_2)).symm) ht) no_locs dX2_isWithin_15
theorem kd_X2_isStream : yX2_isStream.cls ≠ "java/lang/invoke/MethodHandle" ∧ yX2_isStream.cls ≠ "java/lang/invoke/VarHandle" ∧ (parseMethodDescriptor yX2_isStream.desc).map (fun d => d.parameters.length) = some 1 := by decide +kernel
set_option maxHeartbeats 4000000 in
set_option maxRecDepth 100000 in
theorem c_X2_isStream (l : Launch) {a0 : Int32} : Met l yX2_isStream wsX2_isStream ({ frames := 1, cells := 0, slots := 0, locals := 22 }) (va_Pc ([.int a0] : List Value) (fun _ => True)) (QcRead (bI (0 ≤ a0 ∧ a0 ≤ 11))) 0 0 (fun _ => False) := by
  refine Met.ofW (cc := cX2_isStream) (maxL := 1) (ret := (some .boolean)) (by decide) rfl ?_
  intro p e s m args below meth c s₁ B hml hv
  obtain ⟨rfl, -⟩ := hv
  have hx := B.exec
  have hb := B.bytes
  have hr := B.returns
  have hts := atoms_spec (ws := wsX2_isStream) B.pre
  have hown : s.vm.findClass RX2 = some m.cls := findClass_of_methodNamed B.named
  have hlocks := B.notSynchronized
  have hl := lv_entry ([.int a0] : List Value) (n := 1) (Nat.le_of_ble_eq_true rfl)
  rw [lg_entry_eq]
  generalize (lg_sl ([.int a0] : List Value) ++ List.replicate (1 - (lg_sl ([.int a0] : List Value)).length) Slot.unset).toArray = ls at hl ⊢
  have hl : lv_has ls 1 [(0, .int a0)] := hl
  refine lv_iload_n hx hb dX2_isStream_0 rfl (lv_at hl 0 rfl) ?_
  refine lv_iconst (v := 0) hx hb dX2_isStream_1 (by decide) ?_
  refine lv_bipush (v := 11) hx hb dX2_isStream_2 (by decide) ?_
  refine ro_i (va_runS ⟨hx, hb, hml, hown, hts⟩ (c_X2_isWithin l ) (va_cwS 3 hts gX2_isStream_X2_isWithin rfl rfl rfl kd_X2_isWithin ⟨Nat.le_of_ble_eq_true rfl, Nat.le_of_ble_eq_true rfl⟩) preS0 rfl rfl hl.1 rfl (lv_room (Nat.le_of_ble_eq_true rfl)) dX2_isStream_4 ⟨Nat.zero_le _, Nat.zero_le _⟩) ?_
  exact W.zret hx hb hr (by first | rfl | exact bI_nar) (fun t ht _ => ri rfl ht) no_locs dX2_isStream_7
theorem kd_X2_isSource : yX2_isSource.cls ≠ "java/lang/invoke/MethodHandle" ∧ yX2_isSource.cls ≠ "java/lang/invoke/VarHandle" ∧ (parseMethodDescriptor yX2_isSource.desc).map (fun d => d.parameters.length) = some 1 := by decide +kernel
set_option maxHeartbeats 4000000 in
set_option maxRecDepth 100000 in
theorem c_X2_isSource (l : Launch) {a0 : Int32} : Met l yX2_isSource wsX2_isSource ({ frames := 1, cells := 0, slots := 0, locals := 22 }) (va_Pc ([.int a0] : List Value) (fun _ => True)) (QcRead (bI (0 ≤ a0 ∧ a0 ≤ 3))) 0 0 (fun _ => False) := by
  refine Met.ofW (cc := cX2_isSource) (maxL := 1) (ret := (some .boolean)) (by decide) rfl ?_
  intro p e s m args below meth c s₁ B hml hv
  obtain ⟨rfl, -⟩ := hv
  have hx := B.exec
  have hb := B.bytes
  have hr := B.returns
  have hts := atoms_spec (ws := wsX2_isSource) B.pre
  have hown : s.vm.findClass RX2 = some m.cls := findClass_of_methodNamed B.named
  have hlocks := B.notSynchronized
  have hl := lv_entry ([.int a0] : List Value) (n := 1) (Nat.le_of_ble_eq_true rfl)
  rw [lg_entry_eq]
  generalize (lg_sl ([.int a0] : List Value) ++ List.replicate (1 - (lg_sl ([.int a0] : List Value)).length) Slot.unset).toArray = ls at hl ⊢
  have hl : lv_has ls 1 [(0, .int a0)] := hl
  refine lv_iload_n hx hb dX2_isSource_0 rfl (lv_at hl 0 rfl) ?_
  refine lv_iconst (v := 0) hx hb dX2_isSource_1 (by decide) ?_
  refine lv_iconst (v := 3) hx hb dX2_isSource_2 (by decide) ?_
  refine ro_i (va_runS ⟨hx, hb, hml, hown, hts⟩ (c_X2_isWithin l ) (va_cwS 3 hts gX2_isSource_X2_isWithin rfl rfl rfl kd_X2_isWithin ⟨Nat.le_of_ble_eq_true rfl, Nat.le_of_ble_eq_true rfl⟩) preS0 rfl rfl hl.1 rfl (lv_room (Nat.le_of_ble_eq_true rfl)) dX2_isSource_3 ⟨Nat.zero_le _, Nat.zero_le _⟩) ?_
  exact W.zret hx hb hr (by first | rfl | exact bI_nar) (fun t ht _ => ri rfl ht) no_locs dX2_isSource_6
theorem kd_X2_isMachine : yX2_isMachine.cls ≠ "java/lang/invoke/MethodHandle" ∧ yX2_isMachine.cls ≠ "java/lang/invoke/VarHandle" ∧ (parseMethodDescriptor yX2_isMachine.desc).map (fun d => d.parameters.length) = some 1 := by decide +kernel
set_option maxHeartbeats 4000000 in
set_option maxRecDepth 100000 in
theorem c_X2_isMachine (l : Launch) {a0 : Int32} : Met l yX2_isMachine wsX2_isMachine ({ frames := 1, cells := 0, slots := 0, locals := 22 }) (va_Pc ([.int a0] : List Value) (fun _ => True)) (QcRead (bI ((2 ≤ a0 ∧ a0 ≤ 8) ∧ remI a0 2 = 0))) 0 0 (fun _ => False) := by
  refine Met.ofW (cc := cX2_isMachine) (maxL := 1) (ret := (some .boolean)) (by decide) rfl ?_
  intro p e s m args below meth c s₁ B hml hv
  obtain ⟨rfl, -⟩ := hv
  have hx := B.exec
  have hb := B.bytes
  have hr := B.returns
  have hts := atoms_spec (ws := wsX2_isMachine) B.pre
  have hown : s.vm.findClass RX2 = some m.cls := findClass_of_methodNamed B.named
  have hlocks := B.notSynchronized
  have hl := lv_entry ([.int a0] : List Value) (n := 1) (Nat.le_of_ble_eq_true rfl)
  rw [lg_entry_eq]
  generalize (lg_sl ([.int a0] : List Value) ++ List.replicate (1 - (lg_sl ([.int a0] : List Value)).length) Slot.unset).toArray = ls at hl ⊢
  have hl : lv_has ls 1 [(0, .int a0)] := hl
  refine lv_iload_n hx hb dX2_isMachine_0 rfl (lv_at hl 0 rfl) ?_
  refine lv_iconst (v := 2) hx hb dX2_isMachine_1 (by decide) ?_
  refine lv_bipush (v := 8) hx hb dX2_isMachine_2 (by decide) ?_
  refine ro_i (va_runS ⟨hx, hb, hml, hown, hts⟩ (c_X2_isWithin l ) (va_cwS 3 hts gX2_isMachine_X2_isWithin rfl rfl rfl kd_X2_isWithin ⟨Nat.le_of_ble_eq_true rfl, Nat.le_of_ble_eq_true rfl⟩) preS0 rfl rfl hl.1 rfl (lv_room (Nat.le_of_ble_eq_true rfl)) dX2_isMachine_4 ⟨Nat.zero_le _, Nat.zero_le _⟩) ?_
  refine lv_if_eq (tgt := 20) hx hb dX2_isMachine_7 (by decide) (fun c_7 => ?_) (fun c_7 => ?_)
  · skip
    have c_7 := bI_eq.mp c_7
    refine lv_iconst (v := 0) hx hb dX2_isMachine_20 (by decide) ?_
    exact W.zret hx hb hr (by first | rfl | exact bI_nar) (fun t ht _ => ri (by first | exact (bI_t ⟨c_7, c_13⟩).symm | exact (bI_f (fun h => c_13 h.2)).symm | exact (bI_f (fun h => c_7 h.1)).symm) ht) no_locs dX2_isMachine_21
  · skip
    have c_7 := bI_ne.mp c_7
    refine lv_iload_n hx hb dX2_isMachine_10 rfl (lv_at hl 0 rfl) ?_
    refine lv_iconst (v := 2) hx hb dX2_isMachine_11 (by decide) ?_
    refine lv_irem hx hb dX2_isMachine_12 (by decide) ?_
    refine lv_if_ne (tgt := 20) hx hb dX2_isMachine_13 (by decide) (fun c_13 => ?_) (fun c_13 => ?_)
    · skip
      refine lv_iconst (v := 0) hx hb dX2_isMachine_20 (by decide) ?_
      exact W.zret hx hb hr (by first | rfl | exact bI_nar) (fun t ht _ => ri (by first | exact (bI_t ⟨c_7, c_13⟩).symm | exact (bI_f (fun h => c_13 h.2)).symm | exact (bI_f (fun h => c_7 h.1)).symm) ht) no_locs dX2_isMachine_21
    · skip
      refine lv_iconst (v := 1) hx hb dX2_isMachine_16 (by decide) ?_
      refine lv_goto (tgt := 21) hx hb dX2_isMachine_17 (by decide) ?_
      exact W.zret hx hb hr (by first | rfl | exact bI_nar) (fun t ht _ => ri (by first | exact (bI_t ⟨c_7, c_13⟩).symm | exact (bI_f (fun h => c_13 h.2)).symm | exact (bI_f (fun h => c_7 h.1)).symm) ht) no_locs dX2_isMachine_21
theorem kd_X2_bitOf : yX2_bitOf.cls ≠ "java/lang/invoke/MethodHandle" ∧ yX2_bitOf.cls ≠ "java/lang/invoke/VarHandle" ∧ (parseMethodDescriptor yX2_bitOf.desc).map (fun d => d.parameters.length) = some 2 := by decide +kernel
set_option maxHeartbeats 4000000 in
set_option maxRecDepth 100000 in
theorem c_X2_bitOf (l : Launch) {a0 : Int64} {a1 : Int32} : Met l yX2_bitOf wsX2_bitOf ({ frames := 0, cells := 0, slots := 0, locals := 0 }) (va_Pc ([.long a0, .int a1] : List Value) (fun _ => True)) (QcRead (f_bitOf a0 a1)) 0 0 (fun _ => False) := by
  refine Met.ofW (cc := cX2_bitOf) (maxL := 3) (ret := (some .int)) (by decide) rfl ?_
  intro p e s m args below meth c s₁ B hml hv
  obtain ⟨rfl, -⟩ := hv
  have hx := B.exec
  have hb := B.bytes
  have hr := B.returns
  have hts := atoms_spec (ws := wsX2_bitOf) B.pre
  have hown : s.vm.findClass RX2 = some m.cls := findClass_of_methodNamed B.named
  have hlocks := B.notSynchronized
  have hl := lv_entry ([.long a0, .int a1] : List Value) (n := 3) (Nat.le_of_ble_eq_true rfl)
  rw [lg_entry_eq]
  generalize (lg_sl ([.long a0, .int a1] : List Value) ++ List.replicate (3 - (lg_sl ([.long a0, .int a1] : List Value)).length) Slot.unset).toArray = ls at hl ⊢
  have hl : lv_has ls 3 [(0, .long a0), (2, .int a1)] := hl
  refine lv_lload_n hx hb dX2_bitOf_0 rfl (lv_at hl 0 rfl) ?_
  refine lv_iload_n hx hb dX2_bitOf_1 rfl (lv_at hl 1 rfl) ?_
  refine lv_lushr hx hb dX2_bitOf_2 rfl ?_
  refine lv_lconst (v := 1) hx hb dX2_bitOf_3 (by decide) ?_
  refine lv_land hx hb dX2_bitOf_4 ?_
  refine lv_l2i hx hb dX2_bitOf_5 rfl ?_
  exact W.iret hx hb hr (fun t ht _ => ri rfl ht) no_locs dX2_bitOf_6
theorem kd_X2_lowBits : yX2_lowBits.cls ≠ "java/lang/invoke/MethodHandle" ∧ yX2_lowBits.cls ≠ "java/lang/invoke/VarHandle" ∧ (parseMethodDescriptor yX2_lowBits.desc).map (fun d => d.parameters.length) = some 1 := by decide +kernel
set_option maxHeartbeats 4000000 in
set_option maxRecDepth 100000 in
theorem c_X2_lowBits (l : Launch) {a0 : Int32} : Met l yX2_lowBits wsX2_lowBits ({ frames := 0, cells := 0, slots := 0, locals := 0 }) (va_Pc ([.int a0] : List Value) (fun _ => True)) (qL (f_low a0)) 0 0 (fun _ => False) := by
  refine Met.ofW (cc := cX2_lowBits) (maxL := 1) (ret := (some .long)) (by decide) rfl ?_
  intro p e s m args below meth c s₁ B hml hv
  obtain ⟨rfl, -⟩ := hv
  have hx := B.exec
  have hb := B.bytes
  have hr := B.returns
  have hts := atoms_spec (ws := wsX2_lowBits) B.pre
  have hown : s.vm.findClass RX2 = some m.cls := findClass_of_methodNamed B.named
  have hlocks := B.notSynchronized
  have hw0 := hts (.constantLong RX2 81 (-1)) (by decide +kernel)
  have hl := lv_entry ([.int a0] : List Value) (n := 1) (Nat.le_of_ble_eq_true rfl)
  rw [lg_entry_eq]
  generalize (lg_sl ([.int a0] : List Value) ++ List.replicate (1 - (lg_sl ([.int a0] : List Value)).length) Slot.unset).toArray = ls at hl ⊢
  have hl : lv_has ls 1 [(0, .int a0)] := hl
  refine lv_iload_n hx hb dX2_lowBits_0 rfl (lv_at hl 0 rfl) ?_
  refine lv_bipush (v := 64) hx hb dX2_lowBits_1 (by decide) ?_
  refine lv_icmp_lt (tgt := 12) hx hb dX2_lowBits_3 (by decide) (fun c_3 => ?_) (fun c_3 => ?_)
  · skip
    refine lv_lconst (v := 1) hx hb dX2_lowBits_12 (by decide) ?_
    refine lv_iload_n hx hb dX2_lowBits_13 rfl (lv_at hl 0 rfl) ?_
    refine lv_lshl hx hb dX2_lowBits_14 rfl ?_
    refine lv_lconst (v := 1) hx hb dX2_lowBits_15 (by decide) ?_
    refine lv_lsub hx hb dX2_lowBits_16 ?_
    exact W.lret hx hb hr (fun t ht _ => rl (by unfold f_low; first | (rw [if_pos c_3]; rfl) | rw [if_neg c_3]) ht) no_locs dX2_lowBits_17
  · skip
    refine lv_ldc2 (v := (-1)) hx hb hown hw0 dX2_lowBits_6 ?_
    refine lv_goto (tgt := 17) hx hb dX2_lowBits_9 (by decide) ?_
    exact W.lret hx hb hr (fun t ht _ => rl (by unfold f_low; first | (rw [if_pos c_3]; rfl) | rw [if_neg c_3]) ht) no_locs dX2_lowBits_17
theorem kd_X2_gated : yX2_gated.cls ≠ "java/lang/invoke/MethodHandle" ∧ yX2_gated.cls ≠ "java/lang/invoke/VarHandle" ∧ (parseMethodDescriptor yX2_gated.desc).map (fun d => d.parameters.length) = some 4 := by decide +kernel
set_option maxHeartbeats 4000000 in
set_option maxRecDepth 100000 in
theorem c_X2_gated (l : Launch) {a0 : Int32} {a1 a2 a3 : Int64} : Met l yX2_gated wsX2_gated ({ frames := 0, cells := 0, slots := 0, locals := 0 }) (va_Pc ([.int a0, .long a1, .long a2, .long a3] : List Value) (fun _ => True)) (qL (f_gated a0 a1 a2 a3)) 0 0 (fun _ => False) := by
  refine Met.ofW (cc := cX2_gated) (maxL := 7) (ret := (some .long)) (by decide) rfl ?_
  intro p e s m args below meth c s₁ B hml hv
  obtain ⟨rfl, -⟩ := hv
  have hx := B.exec
  have hb := B.bytes
  have hr := B.returns
  have hts := atoms_spec (ws := wsX2_gated) B.pre
  have hown : s.vm.findClass RX2 = some m.cls := findClass_of_methodNamed B.named
  have hlocks := B.notSynchronized
  have hw0 := hts (.constantLong RX2 81 (-1)) (by decide +kernel)
  have hl := lv_entry ([.int a0, .long a1, .long a2, .long a3] : List Value) (n := 7) (Nat.le_of_ble_eq_true rfl)
  rw [lg_entry_eq]
  generalize (lg_sl ([.int a0, .long a1, .long a2, .long a3] : List Value) ++ List.replicate (7 - (lg_sl ([.int a0, .long a1, .long a2, .long a3] : List Value)).length) Slot.unset).toArray = ls at hl ⊢
  have hl : lv_has ls 7 [(0, .int a0), (1, .long a1), (3, .long a2), (5, .long a3)] := hl
  refine lv_iload_n hx hb dX2_gated_0 rfl (lv_at hl 0 rfl) ?_
  refine lv_topi (fun z_1 e_1 => ?_)
  by_cases n_1_0 : z_1 = 0
  · subst n_1_0
    refine lv_tableIn (off := 39) (tgt := 40) hx hb dX2_gated_1 (by decide) (by decide) (by decide) (by decide) ?_
    refine lv_lload_n hx hb dX2_gated_40 rfl (lv_at hl 1 rfl) ?_
    refine lv_lload_n hx hb dX2_gated_41 rfl (lv_at hl 2 rfl) ?_
    refine lv_land hx hb dX2_gated_42 ?_
    exact W.lret hx hb hr (fun t ht _ => rl (by rw [← e_1]; first | rfl | (unfold f_gated; rw [if_neg n_1_0, if_neg n_1_1, if_neg n_1_2, if_neg n_1_3, if_neg n_1_4, if_neg n_1_5])) ht) no_locs dX2_gated_43
  by_cases n_1_1 : z_1 = 1
  · subst n_1_1
    refine lv_tableIn (off := 43) (tgt := 44) hx hb dX2_gated_1 (by decide) (by decide) (by decide) (by decide) ?_
    refine lv_lload_n hx hb dX2_gated_44 rfl (lv_at hl 1 rfl) ?_
    refine lv_lload_n hx hb dX2_gated_45 rfl (lv_at hl 2 rfl) ?_
    refine lv_lor hx hb dX2_gated_46 ?_
    exact W.lret hx hb hr (fun t ht _ => rl (by rw [← e_1]; first | rfl | (unfold f_gated; rw [if_neg n_1_0, if_neg n_1_1, if_neg n_1_2, if_neg n_1_3, if_neg n_1_4, if_neg n_1_5])) ht) no_locs dX2_gated_47
  by_cases n_1_2 : z_1 = 2
  · subst n_1_2
    refine lv_tableIn (off := 47) (tgt := 48) hx hb dX2_gated_1 (by decide) (by decide) (by decide) (by decide) ?_
    refine lv_lload_n hx hb dX2_gated_48 rfl (lv_at hl 1 rfl) ?_
    refine lv_lload_n hx hb dX2_gated_49 rfl (lv_at hl 2 rfl) ?_
    refine lv_lxor hx hb dX2_gated_50 ?_
    exact W.lret hx hb hr (fun t ht _ => rl (by rw [← e_1]; first | rfl | (unfold f_gated; rw [if_neg n_1_0, if_neg n_1_1, if_neg n_1_2, if_neg n_1_3, if_neg n_1_4, if_neg n_1_5])) ht) no_locs dX2_gated_51
  by_cases n_1_3 : z_1 = 3
  · subst n_1_3
    refine lv_tableIn (off := 51) (tgt := 52) hx hb dX2_gated_1 (by decide) (by decide) (by decide) (by decide) ?_
    refine lv_lload_n hx hb dX2_gated_52 rfl (lv_at hl 1 rfl) ?_
    refine lv_lload_n hx hb dX2_gated_53 rfl (lv_at hl 2 rfl) ?_
    refine lv_lxor hx hb dX2_gated_54 ?_
    refine lv_ldc2 (v := (-1)) hx hb hown hw0 dX2_gated_55 ?_
    refine lv_lxor hx hb dX2_gated_58 ?_
    exact W.lret hx hb hr (fun t ht _ => rl (by rw [← e_1]; first | rfl | (unfold f_gated; rw [if_neg n_1_0, if_neg n_1_1, if_neg n_1_2, if_neg n_1_3, if_neg n_1_4, if_neg n_1_5])) ht) no_locs dX2_gated_59
  by_cases n_1_4 : z_1 = 4
  · subst n_1_4
    refine lv_tableIn (off := 59) (tgt := 60) hx hb dX2_gated_1 (by decide) (by decide) (by decide) (by decide) ?_
    refine lv_lload_n hx hb dX2_gated_60 rfl (lv_at hl 1 rfl) ?_
    refine lv_lload_n hx hb dX2_gated_61 rfl (lv_at hl 2 rfl) ?_
    refine lv_ldc2 (v := (-1)) hx hb hown hw0 dX2_gated_62 ?_
    refine lv_lxor hx hb dX2_gated_65 ?_
    refine lv_land hx hb dX2_gated_66 ?_
    exact W.lret hx hb hr (fun t ht _ => rl (by rw [← e_1]; first | rfl | (unfold f_gated; rw [if_neg n_1_0, if_neg n_1_1, if_neg n_1_2, if_neg n_1_3, if_neg n_1_4, if_neg n_1_5])) ht) no_locs dX2_gated_67
  by_cases n_1_5 : z_1 = 5
  · subst n_1_5
    refine lv_tableIn (off := 67) (tgt := 68) hx hb dX2_gated_1 (by decide) (by decide) (by decide) (by decide) ?_
    refine lv_lload_n hx hb dX2_gated_68 rfl (lv_at hl 2 rfl) ?_
    refine lv_lload hx hb dX2_gated_69 (lv_at hl 3 rfl) ?_
    refine lv_land hx hb dX2_gated_71 ?_
    refine lv_lload_n hx hb dX2_gated_72 rfl (lv_at hl 1 rfl) ?_
    refine lv_lload hx hb dX2_gated_73 (lv_at hl 3 rfl) ?_
    refine lv_ldc2 (v := (-1)) hx hb hown hw0 dX2_gated_75 ?_
    refine lv_lxor hx hb dX2_gated_78 ?_
    refine lv_land hx hb dX2_gated_79 ?_
    refine lv_lor hx hb dX2_gated_80 ?_
    exact W.lret hx hb hr (fun t ht _ => rl (by rw [← e_1]; first | rfl | (unfold f_gated; rw [if_neg n_1_0, if_neg n_1_1, if_neg n_1_2, if_neg n_1_3, if_neg n_1_4, if_neg n_1_5])) ht) no_locs dX2_gated_81
  have nb_1 : z_1.toInt < 0 ∨ 5 < z_1.toInt := by
    have q0 := lv_neT (a := 0) n_1_0 (by decide)
    have q1 := lv_neT (a := 1) n_1_1 (by decide)
    have q2 := lv_neT (a := 2) n_1_2 (by decide)
    have q3 := lv_neT (a := 3) n_1_3 (by decide)
    have q4 := lv_neT (a := 4) n_1_4 (by decide)
    have q5 := lv_neT (a := 5) n_1_5 (by decide)
    omega
  refine lv_tableOut (tgt := 82) hx hb dX2_gated_1 nb_1 (by decide) ?_
  refine lv_lload_n hx hb dX2_gated_82 rfl (lv_at hl 1 rfl) ?_
  refine lv_lload_n hx hb dX2_gated_83 rfl (lv_at hl 2 rfl) ?_
  refine lv_land hx hb dX2_gated_84 ?_
  refine lv_lload_n hx hb dX2_gated_85 rfl (lv_at hl 1 rfl) ?_
  refine lv_lload hx hb dX2_gated_86 (lv_at hl 3 rfl) ?_
  refine lv_land hx hb dX2_gated_88 ?_
  refine lv_lor hx hb dX2_gated_89 ?_
  refine lv_lload_n hx hb dX2_gated_90 rfl (lv_at hl 2 rfl) ?_
  refine lv_lload hx hb dX2_gated_91 (lv_at hl 3 rfl) ?_
  refine lv_land hx hb dX2_gated_93 ?_
  refine lv_lor hx hb dX2_gated_94 ?_
  exact W.lret hx hb hr (fun t ht _ => rl (by rw [← e_1]; first | rfl | (unfold f_gated; rw [if_neg n_1_0, if_neg n_1_1, if_neg n_1_2, if_neg n_1_3, if_neg n_1_4, if_neg n_1_5])) ht) no_locs dX2_gated_95
theorem kd_X2_isUpper : yX2_isUpper.cls ≠ "java/lang/invoke/MethodHandle" ∧ yX2_isUpper.cls ≠ "java/lang/invoke/VarHandle" ∧ (parseMethodDescriptor yX2_isUpper.desc).map (fun d => d.parameters.length) = some 2 := by decide +kernel
set_option maxHeartbeats 4000000 in
set_option maxRecDepth 100000 in
theorem c_X2_isUpper (l : Launch) {a0 a1 : Int32} : Met l yX2_isUpper wsX2_isUpper ({ frames := 0, cells := 0, slots := 0, locals := 0 }) (va_Pc ([.int a0, .int a1] : List Value) (fun _ => True)) (QcRead (bI (a1 / 2 ≤ a0))) 0 0 (fun _ => False) := by
  refine Met.ofW (cc := cX2_isUpper) (maxL := 2) (ret := (some .boolean)) (by decide) rfl ?_
  intro p e s m args below meth c s₁ B hml hv
  obtain ⟨rfl, -⟩ := hv
  have hx := B.exec
  have hb := B.bytes
  have hr := B.returns
  have hts := atoms_spec (ws := wsX2_isUpper) B.pre
  have hown : s.vm.findClass RX2 = some m.cls := findClass_of_methodNamed B.named
  have hlocks := B.notSynchronized
  have hl := lv_entry ([.int a0, .int a1] : List Value) (n := 2) (Nat.le_of_ble_eq_true rfl)
  rw [lg_entry_eq]
  generalize (lg_sl ([.int a0, .int a1] : List Value) ++ List.replicate (2 - (lg_sl ([.int a0, .int a1] : List Value)).length) Slot.unset).toArray = ls at hl ⊢
  have hl : lv_has ls 2 [(0, .int a0), (1, .int a1)] := hl
  refine lv_iload_n hx hb dX2_isUpper_0 rfl (lv_at hl 0 rfl) ?_
  refine lv_iload_n hx hb dX2_isUpper_1 rfl (lv_at hl 1 rfl) ?_
  refine lv_iconst (v := 2) hx hb dX2_isUpper_2 (by decide) ?_
  refine lv_idiv hx hb dX2_isUpper_3 (by decide) ?_
  refine lv_icmp_lt (tgt := 11) hx hb dX2_isUpper_4 (by decide) (fun c_4 => ?_) (fun c_4 => ?_)
  · skip
    refine lv_iconst (v := 0) hx hb dX2_isUpper_11 (by decide) ?_
    exact W.zret hx hb hr (by first | rfl | exact bI_nar) (fun t ht _ => ri (by first | exact (bI_t (Int32.not_lt.mp c_4)).symm | exact (bI_f (fun h => Int32.not_lt.mpr h c_4)).symm) ht) no_locs dX2_isUpper_12
  · skip
    refine lv_iconst (v := 1) hx hb dX2_isUpper_7 (by decide) ?_
    refine lv_goto (tgt := 12) hx hb dX2_isUpper_8 (by decide) ?_
    exact W.zret hx hb hr (by first | rfl | exact bI_nar) (fun t ht _ => ri (by first | exact (bI_t (Int32.not_lt.mp c_4)).symm | exact (bI_f (fun h => Int32.not_lt.mpr h c_4)).symm) ht) no_locs dX2_isUpper_12
theorem kd_X2_power : yX2_power.cls ≠ "java/lang/invoke/MethodHandle" ∧ yX2_power.cls ≠ "java/lang/invoke/VarHandle" ∧ (parseMethodDescriptor yX2_power.desc).map (fun d => d.parameters.length) = some 2 := by decide +kernel
set_option maxHeartbeats 4000000 in
set_option maxRecDepth 100000 in
theorem c_X2_power (l : Launch) {a0 : Int64} {a1 : Int32} : Met l yX2_power wsX2_power ({ frames := 0, cells := 0, slots := 0, locals := 0 }) (va_Pc ([.long a0, .int a1] : List Value) (fun _ => True)) (qL (f_power a0 a1.toNatClampNeg)) 0 0 (fun _ => False) := by
  refine Met.ofW (cc := cX2_power) (maxL := 6) (ret := (some .long)) (by decide) rfl ?_
  intro p e s m args below meth c s₁ B hml hv
  obtain ⟨rfl, -⟩ := hv
  have hx := B.exec
  have hb := B.bytes
  have hr := B.returns
  have hts := atoms_spec (ws := wsX2_power) B.pre
  have hown : s.vm.findClass RX2 = some m.cls := findClass_of_methodNamed B.named
  have hlocks := B.notSynchronized
  have hl := lv_entry ([.long a0, .int a1] : List Value) (n := 6) (Nat.le_of_ble_eq_true rfl)
  rw [lg_entry_eq]
  generalize (lg_sl ([.long a0, .int a1] : List Value) ++ List.replicate (6 - (lg_sl ([.long a0, .int a1] : List Value)).length) Slot.unset).toArray = ls at hl ⊢
  have hl : lv_has ls 6 [(0, .long a0), (2, .int a1)] := hl
  refine lv_lconst (v := 1) hx hb dX2_power_0 (by decide) ?_
  refine lv_lstore_n (lv' := [(3, .long _), (0, .long _), (2, .int _)]) hx hb dX2_power_1 rfl hl (by decide) rfl (fun ls hl => ?_)
  refine lv_iconst (v := 0) hx hb dX2_power_2 (by decide) ?_
  refine lv_istore (lv' := [(5, .int _), (3, .long _), (0, .long _), (2, .int _)]) hx hb dX2_power_3 hl (by decide) rfl (fun ls hl => ?_)
  have L5 : ∀ (n5 : Nat) (k : Nat), a1.toNatClampNeg + 1 ≤ k + n5 → (k ≤ a1.toNatClampNeg) → ∀ (ls : Array Slot), lv_has ls 6 [(0, .long a0), (2, .int a1), (3, .long (f_power a0 k)), (5, .int (nI k))] → W p l e { frames := 0, cells := 0, slots := 0, locals := 0 } s m ([.long a0, .int a1] : List Value).toArray below meth c s.heap [] 0 0 (MQ below (qL (f_power a0 a1.toNatClampNeg)) ([.long a0, .int a1] : List Value).toArray s 0 0 (fun _ => False)) (F0 m 5 ls []) := by
    intro n5
    induction n5 with
    | zero =>
      intro k hf5 hk
      exact absurd hf5 (by omega)
    | succ n5 ih5 =>
      intro k hf5 hk ls hl
      refine lv_iload hx hb dX2_power_5 (lv_at hl 3 rfl) ?_
      refine lv_iload_n hx hb dX2_power_7 rfl (lv_at hl 1 rfl) ?_
      refine lv_icmp_ge (tgt := 21) hx hb dX2_power_8 (by decide) (fun c_8 => ?_) (fun c_8 => ?_)
      · skip
        refine lv_lload_n hx hb dX2_power_21 rfl (lv_at hl 2 rfl) ?_
        exact W.lret hx hb hr (fun t ht _ => rl (by rw [cl_end hk c_8]) ht) no_locs dX2_power_22
      · skip
        refine lv_lload_n hx hb dX2_power_11 rfl (lv_at hl 2 rfl) ?_
        refine lv_lload_n hx hb dX2_power_12 rfl (lv_at hl 0 rfl) ?_
        refine lv_lmul hx hb dX2_power_13 ?_
        refine lv_lstore_n (lv' := [(3, .long _), (0, .long _), (2, .int _), (5, .int _)]) hx hb dX2_power_14 rfl hl (by decide) rfl (fun ls hl => ?_)
        refine lv_iinc (lv' := [(5, .int (nI (k + 1))), (3, .long _), (0, .long _), (2, .int _)]) hx hb dX2_power_15 hl (k := 3) rfl (nI_1 _) (by decide) rfl (fun ls hl => ?_)
        refine lv_goto (tgt := 5) hx hb dX2_power_18 (by decide) ?_
        exact ih5 (k + 1) (by have := cl_go hk c_8; omega) (cl_go hk c_8) ls (lv_sub hl [2, 3, 1, 0] rfl)
  exact L5 (a1.toNatClampNeg + 1) 0 (by omega) (Nat.zero_le _) ls (lv_sub hl [2, 3, 1, 0] rfl)
theorem kd_X2_commonDivisor : yX2_commonDivisor.cls ≠ "java/lang/invoke/MethodHandle" ∧ yX2_commonDivisor.cls ≠ "java/lang/invoke/VarHandle" ∧ (parseMethodDescriptor yX2_commonDivisor.desc).map (fun d => d.parameters.length) = some 2 := by decide +kernel
set_option maxHeartbeats 4000000 in
set_option maxRecDepth 100000 in
theorem c_X2_commonDivisor (l : Launch) {a0 a1 : Int64} : Met l yX2_commonDivisor wsX2_commonDivisor ({ frames := 1, cells := 0, slots := 0, locals := 23 }) (va_Pc ([.long a0, .long a1] : List Value) (fun _ => True)) (qL (f_common a0 a1)) 0 0 (fun _ => False) := by
  refine Met.ofW (cc := cX2_commonDivisor) (maxL := 7) (ret := (some .long)) (by decide) rfl ?_
  intro p e s m args below meth c s₁ B hml hv
  obtain ⟨rfl, -⟩ := hv
  have hx := B.exec
  have hb := B.bytes
  have hr := B.returns
  have hts := atoms_spec (ws := wsX2_commonDivisor) B.pre
  have hown : s.vm.findClass RX2 = some m.cls := findClass_of_methodNamed B.named
  have hlocks := B.notSynchronized
  have hw0 := hts (.methodLink RX2 198 Lib.MathLoose.max_long.x) (by decide +kernel)
  have hw1 := hts (.static Lib.MathLoose.max_long.x) (by decide +kernel)
  have hw2 := hts (.initialized "java/lang/Math") (by decide +kernel)
  have hw3 := hts (.code Lib.MathLoose.max_long.x Lib.MathLoose.max_long.code 4 (some .long)) (by decide +kernel)
  have hl := lv_entry ([.long a0, .long a1] : List Value) (n := 7) (Nat.le_of_ble_eq_true rfl)
  rw [lg_entry_eq]
  generalize (lg_sl ([.long a0, .long a1] : List Value) ++ List.replicate (7 - (lg_sl ([.long a0, .long a1] : List Value)).length) Slot.unset).toArray = ls at hl ⊢
  have hl : lv_has ls 7 [(0, .long a0), (2, .long a1)] := hl
  refine lv_iconst (v := 0) hx hb dX2_commonDivisor_0 (by decide) ?_
  refine lv_istore (lv' := [(4, .int _), (0, .long _), (2, .long _)]) hx hb dX2_commonDivisor_1 hl (by decide) rfl (fun ls hl => ?_)
  have L3 : ∀ (n3 : Nat) (k : Nat) (a b : Int64), 101 ≤ k + n3 → (k ≤ 100) → (f_cd (100 - k) a b = f_cd 100 a0 a1) → ∀ (ls : Array Slot), lv_has ls 7 [(0, .long a), (2, .long b), (4, .int (nI k))] → W p l e { frames := 1, cells := 0, slots := 0, locals := 23 } s m ([.long a0, .long a1] : List Value).toArray below meth c s.heap [] 0 0 (MQ below (qL (f_common a0 a1)) ([.long a0, .long a1] : List Value).toArray s 0 0 (fun _ => False)) (F0 m 3 ls []) := by
    intro n3
    induction n3 with
    | zero =>
      intro k a b hf3 hk he
      exact absurd hf3 (by omega)
    | succ n3 ih3 =>
      intro k a b hf3 hk he ls hl
      refine lv_iload hx hb dX2_commonDivisor_3 (lv_at hl 2 rfl) ?_
      refine lv_bipush (v := 100) hx hb dX2_commonDivisor_5 (by decide) ?_
      refine lv_icmp_ge (tgt := 32) hx hb dX2_commonDivisor_7 (by decide) (fun c_7 => ?_) (fun c_7 => ?_)
      · skip
        have hz : f_cd (100 - k) a b = a := by rw [show 100 - k = 0 by have := (nI_leI (a := 100) (b := k) (by omega) (by omega)).mp c_7; omega]; rfl
        refine lv_lload_n hx hb dX2_commonDivisor_32 rfl (lv_at hl 0 rfl) ?_
        refine lv_lconst (v := 1) hx hb dX2_commonDivisor_33 (by decide) ?_
        refine va_mmax_long hx hb (by rw [hml]; exact hl.1.symm) hown hw0 hw1 hw2 hw3 (Nat.le_of_ble_eq_true rfl) (Nat.le_of_ble_eq_true rfl) (Nat.zero_le _) (Nat.zero_le _) dX2_commonDivisor_34 ?_
        exact W.lret hx hb hr (fun t ht _ => rl (by unfold f_common; rw [← he, hz]) ht) no_locs dX2_commonDivisor_37
      · skip
        have hk1 : k + 1 ≤ 100 := by have := mt (nI_leI (a := 100) (b := k) (by omega) (by omega)).mpr c_7; omega
        refine lv_lload_n hx hb dX2_commonDivisor_10 rfl (lv_at hl 1 rfl) ?_
        refine lv_lconst (v := 0) hx hb dX2_commonDivisor_11 (by decide) ?_
        refine W.lcmp hx hb dX2_commonDivisor_12 ?_
        refine lv_if_eq (tgt := 32) hx hb dX2_commonDivisor_13 (by decide) (fun c_13 => ?_) (fun c_13 => ?_)
        · skip
          have c_13 := (lg_cmp_eq _ _).mp c_13
          have hz : f_cd (100 - k) a b = a := by rw [c_13]; exact f_cd_0 _ _
          refine lv_lload_n hx hb dX2_commonDivisor_32 rfl (lv_at hl 0 rfl) ?_
          refine lv_lconst (v := 1) hx hb dX2_commonDivisor_33 (by decide) ?_
          refine va_mmax_long hx hb (by rw [hml]; exact hl.1.symm) hown hw0 hw1 hw2 hw3 (Nat.le_of_ble_eq_true rfl) (Nat.le_of_ble_eq_true rfl) (Nat.zero_le _) (Nat.zero_le _) dX2_commonDivisor_34 ?_
          exact W.lret hx hb hr (fun t ht _ => rl (by unfold f_common; rw [← he, hz]) ht) no_locs dX2_commonDivisor_37
        · skip
          have c_13 := fun h => c_13 ((lg_cmp_eq _ _).mpr h)
          refine lv_lload_n hx hb dX2_commonDivisor_16 rfl (lv_at hl 0 rfl) ?_
          refine lv_lload_n hx hb dX2_commonDivisor_17 rfl (lv_at hl 1 rfl) ?_
          refine lv_lrem hx hb dX2_commonDivisor_18 (c_13) ?_
          refine lv_lstore (lv' := [(5, .long _), (0, .long _), (2, .long _), (4, .int _)]) hx hb dX2_commonDivisor_19 hl (by decide) rfl (fun ls hl => ?_)
          refine lv_lload_n hx hb dX2_commonDivisor_21 rfl (lv_at hl 2 rfl) ?_
          refine lv_lstore_n (lv' := [(0, .long _), (5, .long _), (2, .long _), (4, .int _)]) hx hb dX2_commonDivisor_22 rfl hl (by decide) rfl (fun ls hl => ?_)
          refine lv_lload hx hb dX2_commonDivisor_23 (lv_at hl 1 rfl) ?_
          refine lv_lstore_n (lv' := [(2, .long _), (0, .long _), (5, .long _), (4, .int _)]) hx hb dX2_commonDivisor_25 rfl hl (by decide) rfl (fun ls hl => ?_)
          refine lv_iinc (lv' := [(4, .int (nI (k + 1))), (2, .long _), (0, .long _), (5, .long _)]) hx hb dX2_commonDivisor_26 hl (k := 3) rfl (nI_1 _) (by decide) rfl (fun ls hl => ?_)
          refine lv_goto (tgt := 3) hx hb dX2_commonDivisor_29 (by decide) ?_
          exact ih3 (k + 1) _ _ (by omega) hk1 (by rw [← he, show 100 - k = (100 - (k + 1)) + 1 by omega, f_cd, if_neg c_13]; rfl) ls (lv_sub hl [2, 1, 0] rfl)
  exact L3 101 0 _ _ (by omega) (by omega) rfl ls (lv_sub hl [1, 2, 0] rfl)
theorem kd_X2_inLowestTerms : yX2_inLowestTerms.cls ≠ "java/lang/invoke/MethodHandle" ∧ yX2_inLowestTerms.cls ≠ "java/lang/invoke/VarHandle" ∧ (parseMethodDescriptor yX2_inLowestTerms.desc).map (fun d => d.parameters.length) = some 3 := by decide +kernel
set_option maxHeartbeats 4000000 in
set_option maxRecDepth 100000 in
theorem c_X2_inLowestTerms (l : Launch) {a0 a1 : Int64} {a2 : Int32} : Met l yX2_inLowestTerms wsX2_inLowestTerms ({ frames := 2, cells := 0, slots := 0, locals := 49 }) (va_Pc ([.long a0, .long a1, .int a2] : List Value) (fun _ => True)) (qL (f_terms a0 a1 a2)) 0 0 (fun _ => False) := by
  refine Met.ofW (cc := cX2_inLowestTerms) (maxL := 7) (ret := (some .long)) (by decide) rfl ?_
  intro p e s m args below meth c s₁ B hml hv
  obtain ⟨rfl, -⟩ := hv
  have hx := B.exec
  have hb := B.bytes
  have hr := B.returns
  have hts := atoms_spec (ws := wsX2_inLowestTerms) B.pre
  have hown : s.vm.findClass RX2 = some m.cls := findClass_of_methodNamed B.named
  have hlocks := B.notSynchronized
  have hw0 := hts (.methodLink RX2 191 Lib.MathLoose.abs_long.x) (by decide +kernel)
  have hw1 := hts (.static Lib.MathLoose.abs_long.x) (by decide +kernel)
  have hw2 := hts (.initialized "java/lang/Math") (by decide +kernel)
  have hw3 := hts (.code Lib.MathLoose.abs_long.x Lib.MathLoose.abs_long.code 2 (some .long)) (by decide +kernel)
  have hl := lv_entry ([.long a0, .long a1, .int a2] : List Value) (n := 7) (Nat.le_of_ble_eq_true rfl)
  rw [lg_entry_eq]
  generalize (lg_sl ([.long a0, .long a1, .int a2] : List Value) ++ List.replicate (7 - (lg_sl ([.long a0, .long a1, .int a2] : List Value)).length) Slot.unset).toArray = ls at hl ⊢
  have hl : lv_has ls 7 [(0, .long a0), (2, .long a1), (4, .int a2)] := hl
  refine lv_lload_n hx hb dX2_inLowestTerms_0 rfl (lv_at hl 0 rfl) ?_
  refine va_mabs_long hx hb (by rw [hml]; exact hl.1.symm) hown hw0 hw1 hw2 hw3 (Nat.le_of_ble_eq_true rfl) (Nat.le_of_ble_eq_true rfl) (Nat.zero_le _) (Nat.zero_le _) dX2_inLowestTerms_1 ?_
  refine lv_lload_n hx hb dX2_inLowestTerms_4 rfl (lv_at hl 1 rfl) ?_
  refine ro_l (va_runS ⟨hx, hb, hml, hown, hts⟩ (c_X2_commonDivisor l ) (va_cwS 2 hts gX2_inLowestTerms_X2_commonDivisor rfl rfl rfl kd_X2_commonDivisor ⟨Nat.le_of_ble_eq_true rfl, Nat.le_of_ble_eq_true rfl⟩) preS0 rfl rfl hl.1 rfl (lv_room (Nat.le_of_ble_eq_true rfl)) dX2_inLowestTerms_5 ⟨Nat.zero_le _, Nat.zero_le _⟩) ?_
  refine lv_lstore (lv' := [(5, .long _), (0, .long _), (2, .long _), (4, .int _)]) hx hb dX2_inLowestTerms_8 hl (by decide) rfl (fun ls hl => ?_)
  refine lv_iload hx hb dX2_inLowestTerms_10 (lv_at hl 3 rfl) ?_
  refine lv_if_ne (tgt := 22) hx hb dX2_inLowestTerms_12 (by decide) (fun c_12 => ?_) (fun c_12 => ?_)
  · skip
    refine lv_lload_n hx hb dX2_inLowestTerms_22 rfl (lv_at hl 2 rfl) ?_
    refine lv_lload hx hb dX2_inLowestTerms_23 (lv_at hl 0 rfl) ?_
    refine lv_ldiv hx hb dX2_inLowestTerms_25 (f_common_ne _ _) ?_
    exact W.lret hx hb hr (fun t ht _ => rl (by unfold f_terms; first | (rw [if_pos c_12]; rfl) | (rw [if_neg c_12]; rfl)) ht) no_locs dX2_inLowestTerms_26
  · skip
    refine lv_lload_n hx hb dX2_inLowestTerms_15 rfl (lv_at hl 1 rfl) ?_
    refine lv_lload hx hb dX2_inLowestTerms_16 (lv_at hl 0 rfl) ?_
    refine lv_ldiv hx hb dX2_inLowestTerms_18 (f_common_ne _ _) ?_
    refine lv_goto (tgt := 26) hx hb dX2_inLowestTerms_19 (by decide) ?_
    exact W.lret hx hb hr (fun t ht _ => rl (by unfold f_terms; first | (rw [if_pos c_12]; rfl) | (rw [if_neg c_12]; rfl)) ht) no_locs dX2_inLowestTerms_26
theorem kd_X0_ways : yX0_ways.cls ≠ "java/lang/invoke/MethodHandle" ∧ yX0_ways.cls ≠ "java/lang/invoke/VarHandle" ∧ (parseMethodDescriptor yX0_ways.desc).map (fun d => d.parameters.length) = some 2 := by decide +kernel
set_option maxHeartbeats 4000000 in
set_option maxRecDepth 100000 in
theorem c_X0_ways (l : Launch) {a0 a1 : Int32} (hc : a1.toNatClampNeg < 2 ^ 30) : Met l yX0_ways wsX0_ways ({ frames := 0, cells := 0, slots := 0, locals := 0 }) (va_Pc ([.int a0, .int a1] : List Value) (fun _ => True)) (qL (f_ways a0 a1 a1.toNatClampNeg)) 0 0 (fun _ => False) := by
  refine Met.ofW (cc := cX0_ways) (maxL := 5) (ret := (some .long)) (by decide) rfl ?_
  intro p e s m args below meth c s₁ B hml hv
  obtain ⟨rfl, -⟩ := hv
  have hx := B.exec
  have hb := B.bytes
  have hr := B.returns
  have hts := atoms_spec (ws := wsX0_ways) B.pre
  have hown : s.vm.findClass RX0 = some m.cls := findClass_of_methodNamed B.named
  have hlocks := B.notSynchronized
  have hl := lv_entry ([.int a0, .int a1] : List Value) (n := 5) (Nat.le_of_ble_eq_true rfl)
  rw [lg_entry_eq]
  generalize (lg_sl ([.int a0, .int a1] : List Value) ++ List.replicate (5 - (lg_sl ([.int a0, .int a1] : List Value)).length) Slot.unset).toArray = ls at hl ⊢
  have hl : lv_has ls 5 [(0, .int a0), (1, .int a1)] := hl
  refine lv_lconst (v := 1) hx hb dX0_ways_0 (by decide) ?_
  refine lv_lstore_n (lv' := [(2, .long _), (0, .int _), (1, .int _)]) hx hb dX0_ways_1 rfl hl (by decide) rfl (fun ls hl => ?_)
  refine lv_iconst (v := 1) hx hb dX0_ways_2 (by decide) ?_
  refine lv_istore (lv' := [(4, .int _), (2, .long _), (0, .int _), (1, .int _)]) hx hb dX0_ways_3 hl (by decide) rfl (fun ls hl => ?_)
  have L5 : ∀ (n5 : Nat) (k : Nat), a1.toNatClampNeg + 1 ≤ k + n5 → (k ≤ a1.toNatClampNeg) → ∀ (ls : Array Slot), lv_has ls 5 [(0, .int a0), (1, .int a1), (2, .long (f_ways a0 a1 k)), (4, .int (nI (k + 1)))] → W p l e { frames := 0, cells := 0, slots := 0, locals := 0 } s m ([.int a0, .int a1] : List Value).toArray below meth c s.heap [] 0 0 (MQ below (qL (f_ways a0 a1 a1.toNatClampNeg)) ([.int a0, .int a1] : List Value).toArray s 0 0 (fun _ => False)) (F0 m 5 ls []) := by
    intro n5
    induction n5 with
    | zero =>
      intro k hf5 hk
      exact absurd hf5 (by omega)
    | succ n5 ih5 =>
      intro k hf5 hk ls hl
      refine lv_iload hx hb dX0_ways_5 (lv_at hl 3 rfl) ?_
      refine lv_iload_n hx hb dX0_ways_7 rfl (lv_at hl 1 rfl) ?_
      refine lv_icmp_gt (tgt := 31) hx hb dX0_ways_8 (by decide) (fun c_8 => ?_) (fun c_8 => ?_)
      · skip
        refine lv_lload_n hx hb dX0_ways_31 rfl (lv_at hl 2 rfl) ?_
        exact W.lret hx hb hr (fun t ht _ => rl (by rw [cl_end1 hc hk c_8]) ht) no_locs dX0_ways_32
      · skip
        refine lv_lload_n hx hb dX0_ways_11 rfl (lv_at hl 2 rfl) ?_
        refine lv_iload_n hx hb dX0_ways_12 rfl (lv_at hl 0 rfl) ?_
        refine lv_iload_n hx hb dX0_ways_13 rfl (lv_at hl 1 rfl) ?_
        refine lv_isub hx hb dX0_ways_14 ?_
        refine lv_iload hx hb dX0_ways_15 (lv_at hl 3 rfl) ?_
        refine lv_iadd hx hb dX0_ways_17 ?_
        refine lv_i2l hx hb dX0_ways_18 rfl ?_
        refine lv_lmul hx hb dX0_ways_19 ?_
        refine lv_iload hx hb dX0_ways_20 (lv_at hl 3 rfl) ?_
        refine lv_i2l hx hb dX0_ways_22 rfl ?_
        refine lv_ldiv hx hb dX0_ways_23 (nI_L_ne (by omega)) ?_
        refine lv_lstore_n (lv' := [(2, .long _), (0, .int _), (1, .int _), (4, .int _)]) hx hb dX0_ways_24 rfl hl (by decide) rfl (fun ls hl => ?_)
        refine lv_iinc (lv' := [(4, .int (nI ((k + 1) + 1))), (2, .long _), (0, .int _), (1, .int _)]) hx hb dX0_ways_25 hl (k := 3) rfl (nI_1 _) (by decide) rfl (fun ls hl => ?_)
        refine lv_goto (tgt := 5) hx hb dX0_ways_28 (by decide) ?_
        exact ih5 (k + 1) (by have := cl_go1 hc hk c_8; omega) (cl_go1 hc hk c_8) ls (lv_sub hl [2, 3, 1, 0] rfl)
  exact L5 (a1.toNatClampNeg + 1) 0 (by omega) (Nat.zero_le _) ls (lv_sub hl [2, 3, 1, 0] rfl)
theorem kd_X3_in : yX3_in.cls ≠ "java/lang/invoke/MethodHandle" ∧ yX3_in.cls ≠ "java/lang/invoke/VarHandle" ∧ (parseMethodDescriptor yX3_in.desc).map (fun d => d.parameters.length) = some 3 := by decide +kernel
set_option maxHeartbeats 4000000 in
set_option maxRecDepth 100000 in
theorem c_X3_in (l : Launch) {a0 a1 a2 : Int64} : Met l yX3_in wsX3_in ({ frames := 0, cells := 0, slots := 0, locals := 0 }) (va_Pc ([.long a0, .long a1, .long a2] : List Value) (fun _ => True)) (QcRead (bI (a1 ≤ a0 ∧ a0 ≤ a2))) 0 0 (fun _ => False) := by
  refine Met.ofW (cc := cX3_in) (maxL := 6) (ret := (some .boolean)) (by decide) rfl ?_
  intro p e s m args below meth c s₁ B hml hv
  obtain ⟨rfl, -⟩ := hv
  have hx := B.exec
  have hb := B.bytes
  have hr := B.returns
  have hts := atoms_spec (ws := wsX3_in) B.pre
  have hown : s.vm.findClass RX3 = some m.cls := findClass_of_methodNamed B.named
  have hlocks := B.notSynchronized
  have hl := lv_entry ([.long a0, .long a1, .long a2] : List Value) (n := 6) (Nat.le_of_ble_eq_true rfl)
  rw [lg_entry_eq]
  generalize (lg_sl ([.long a0, .long a1, .long a2] : List Value) ++ List.replicate (6 - (lg_sl ([.long a0, .long a1, .long a2] : List Value)).length) Slot.unset).toArray = ls at hl ⊢
  have hl : lv_has ls 6 [(0, .long a0), (2, .long a1), (4, .long a2)] := hl
  refine lv_lload_n hx hb dX3_in_0 rfl (lv_at hl 0 rfl) ?_
  refine lv_lload_n hx hb dX3_in_1 rfl (lv_at hl 1 rfl) ?_
  refine W.lcmp hx hb dX3_in_2 ?_
  refine lv_if_lt (tgt := 17) hx hb dX3_in_3 (by decide) (fun c_3 => ?_) (fun c_3 => ?_)
  · skip
    have c_3 := (lg_cmp_lt _ _).mp c_3
    refine lv_iconst (v := 0) hx hb dX3_in_17 (by decide) ?_
    exact W.zret hx hb hr (by first | rfl | exact bI_nar) (fun t ht _ => ri (by first | exact (bI_t ⟨Int64.not_lt.mp c_3, Int64.not_lt.mp c_10⟩).symm | exact (bI_f (fun h => Int64.not_lt.mpr h.2 c_10)).symm | exact (bI_f (fun h => Int64.not_lt.mpr h.1 c_3)).symm) ht) no_locs dX3_in_18
  · skip
    have c_3 := fun h => c_3 ((lg_cmp_lt _ _).mpr h)
    refine lv_lload_n hx hb dX3_in_6 rfl (lv_at hl 0 rfl) ?_
    refine lv_lload hx hb dX3_in_7 (lv_at hl 2 rfl) ?_
    refine W.lcmp hx hb dX3_in_9 ?_
    refine lv_if_gt (tgt := 17) hx hb dX3_in_10 (by decide) (fun c_10 => ?_) (fun c_10 => ?_)
    · skip
      have c_10 := (lg_cmp_gt _ _).mp c_10
      refine lv_iconst (v := 0) hx hb dX3_in_17 (by decide) ?_
      exact W.zret hx hb hr (by first | rfl | exact bI_nar) (fun t ht _ => ri (by first | exact (bI_t ⟨Int64.not_lt.mp c_3, Int64.not_lt.mp c_10⟩).symm | exact (bI_f (fun h => Int64.not_lt.mpr h.2 c_10)).symm | exact (bI_f (fun h => Int64.not_lt.mpr h.1 c_3)).symm) ht) no_locs dX3_in_18
    · skip
      have c_10 := fun h => c_10 ((lg_cmp_gt _ _).mpr h)
      refine lv_iconst (v := 1) hx hb dX3_in_13 (by decide) ?_
      refine lv_goto (tgt := 18) hx hb dX3_in_14 (by decide) ?_
      exact W.zret hx hb hr (by first | rfl | exact bI_nar) (fun t ht _ => ri (by first | exact (bI_t ⟨Int64.not_lt.mp c_3, Int64.not_lt.mp c_10⟩).symm | exact (bI_f (fun h => Int64.not_lt.mpr h.2 c_10)).symm | exact (bI_f (fun h => Int64.not_lt.mpr h.1 c_3)).symm) ht) no_locs dX3_in_18
theorem kd_X3_isStream : yX3_isStream.cls ≠ "java/lang/invoke/MethodHandle" ∧ yX3_isStream.cls ≠ "java/lang/invoke/VarHandle" ∧ (parseMethodDescriptor yX3_isStream.desc).map (fun d => d.parameters.length) = some 1 := by decide +kernel
set_option maxHeartbeats 4000000 in
set_option maxRecDepth 100000 in
theorem c_X3_isStream (l : Launch) {a0 : Int32} : Met l yX3_isStream wsX3_isStream ({ frames := 1, cells := 0, slots := 0, locals := 25 }) (va_Pc ([.int a0] : List Value) (fun _ => True)) (QcRead (bI (0 ≤ a0 ∧ a0 ≤ 11))) 0 0 (fun _ => False) := by
  refine Met.ofW (cc := cX3_isStream) (maxL := 1) (ret := (some .boolean)) (by decide) rfl ?_
  intro p e s m args below meth c s₁ B hml hv
  obtain ⟨rfl, -⟩ := hv
  have hx := B.exec
  have hb := B.bytes
  have hr := B.returns
  have hts := atoms_spec (ws := wsX3_isStream) B.pre
  have hown : s.vm.findClass RX3 = some m.cls := findClass_of_methodNamed B.named
  have hlocks := B.notSynchronized
  have hw0 := hts (.constantLong RX3 33 (11)) (by decide +kernel)
  have hl := lv_entry ([.int a0] : List Value) (n := 1) (Nat.le_of_ble_eq_true rfl)
  rw [lg_entry_eq]
  generalize (lg_sl ([.int a0] : List Value) ++ List.replicate (1 - (lg_sl ([.int a0] : List Value)).length) Slot.unset).toArray = ls at hl ⊢
  have hl : lv_has ls 1 [(0, .int a0)] := hl
  refine lv_iload_n hx hb dX3_isStream_0 rfl (lv_at hl 0 rfl) ?_
  refine lv_i2l hx hb dX3_isStream_1 rfl ?_
  refine lv_lconst (v := 0) hx hb dX3_isStream_2 (by decide) ?_
  refine lv_ldc2 (v := 11) hx hb hown hw0 dX3_isStream_3 ?_
  refine ro_i (va_runS ⟨hx, hb, hml, hown, hts⟩ (c_X3_in l ) (va_cwS 3 hts gX3_isStream_X3_in rfl rfl rfl kd_X3_in ⟨Nat.le_of_ble_eq_true rfl, Nat.le_of_ble_eq_true rfl⟩) preS0 rfl rfl hl.1 rfl (lv_room (Nat.le_of_ble_eq_true rfl)) dX3_isStream_6 ⟨Nat.zero_le _, Nat.zero_le _⟩) ?_
  exact W.zret hx hb hr (by first | rfl | exact bI_nar) (fun t ht _ => ri (by refine bI_congr (and_congr (fa_wide_le 0 a0) (fa_wide_le a0 11))) ht) no_locs dX3_isStream_9
theorem kd_X3_gated : yX3_gated.cls ≠ "java/lang/invoke/MethodHandle" ∧ yX3_gated.cls ≠ "java/lang/invoke/VarHandle" ∧ (parseMethodDescriptor yX3_gated.desc).map (fun d => d.parameters.length) = some 4 := by decide +kernel
set_option maxHeartbeats 4000000 in
set_option maxRecDepth 100000 in
theorem c_X3_gated (l : Launch) {a0 a1 a2 a3 : Int32} : Met l yX3_gated wsX3_gated ({ frames := 0, cells := 0, slots := 0, locals := 0 }) (va_Pc ([.int a0, .int a1, .int a2, .int a3] : List Value) (fun _ => True)) (QcRead (g_gated a0 a1 a2 a3)) 0 0 (fun _ => False) := by
  refine Met.ofW (cc := cX3_gated) (maxL := 4) (ret := (some .int)) (by decide) rfl ?_
  intro p e s m args below meth c s₁ B hml hv
  obtain ⟨rfl, -⟩ := hv
  have hx := B.exec
  have hb := B.bytes
  have hr := B.returns
  have hts := atoms_spec (ws := wsX3_gated) B.pre
  have hown : s.vm.findClass RX3 = some m.cls := findClass_of_methodNamed B.named
  have hlocks := B.notSynchronized
  have hl := lv_entry ([.int a0, .int a1, .int a2, .int a3] : List Value) (n := 4) (Nat.le_of_ble_eq_true rfl)
  rw [lg_entry_eq]
  generalize (lg_sl ([.int a0, .int a1, .int a2, .int a3] : List Value) ++ List.replicate (4 - (lg_sl ([.int a0, .int a1, .int a2, .int a3] : List Value)).length) Slot.unset).toArray = ls at hl ⊢
  have hl : lv_has ls 4 [(0, .int a0), (1, .int a1), (2, .int a2), (3, .int a3)] := hl
  refine lv_iload_n hx hb dX3_gated_0 rfl (lv_at hl 0 rfl) ?_
  refine lv_topi (fun z_1 e_1 => ?_)
  by_cases n_1_0 : z_1 = 0
  · subst n_1_0
    refine lv_tableIn (off := 39) (tgt := 40) hx hb dX3_gated_1 (by decide) (by decide) (by decide) (by decide) ?_
    refine lv_iload_n hx hb dX3_gated_40 rfl (lv_at hl 1 rfl) ?_
    refine lv_iload_n hx hb dX3_gated_41 rfl (lv_at hl 2 rfl) ?_
    refine lv_imul hx hb dX3_gated_42 ?_
    exact W.iret hx hb hr (fun t ht _ => ri (by rw [← e_1]; rfl) ht) no_locs dX3_gated_43
  by_cases n_1_1 : z_1 = 1
  · subst n_1_1
    refine lv_tableIn (off := 43) (tgt := 44) hx hb dX3_gated_1 (by decide) (by decide) (by decide) (by decide) ?_
    refine lv_iload_n hx hb dX3_gated_44 rfl (lv_at hl 1 rfl) ?_
    refine lv_iload_n hx hb dX3_gated_45 rfl (lv_at hl 2 rfl) ?_
    refine lv_iadd hx hb dX3_gated_46 ?_
    refine lv_if_le (tgt := 54) hx hb dX3_gated_47 (by decide) (fun c_47 => ?_) (fun c_47 => ?_)
    · skip
      refine lv_iconst (v := 0) hx hb dX3_gated_54 (by decide) ?_
      exact W.iret hx hb hr (fun t ht _ => ri (by rw [← e_1]; show _ = (if a1 + a2 ≤ 0 then (0 : Int32) else 1); first | rw [if_pos c_47] | rw [if_neg c_47]) ht) no_locs dX3_gated_55
    · skip
      refine lv_iconst (v := 1) hx hb dX3_gated_50 (by decide) ?_
      refine lv_goto (tgt := 55) hx hb dX3_gated_51 (by decide) ?_
      exact W.iret hx hb hr (fun t ht _ => ri (by rw [← e_1]; show _ = (if a1 + a2 ≤ 0 then (0 : Int32) else 1); first | rw [if_pos c_47] | rw [if_neg c_47]) ht) no_locs dX3_gated_55
  by_cases n_1_2 : z_1 = 2
  · subst n_1_2
    refine lv_tableIn (off := 55) (tgt := 56) hx hb dX3_gated_1 (by decide) (by decide) (by decide) (by decide) ?_
    refine lv_iload_n hx hb dX3_gated_56 rfl (lv_at hl 1 rfl) ?_
    refine lv_iload_n hx hb dX3_gated_57 rfl (lv_at hl 2 rfl) ?_
    refine lv_icmp_ne (tgt := 65) hx hb dX3_gated_58 (by decide) (fun c_58 => ?_) (fun c_58 => ?_)
    · skip
      refine lv_iconst (v := 1) hx hb dX3_gated_65 (by decide) ?_
      exact W.iret hx hb hr (fun t ht _ => ri (by rw [← e_1]; show _ = (if a1 = a2 then (0 : Int32) else 1); first | rw [if_pos c_58] | rw [if_neg c_58]) ht) no_locs dX3_gated_66
    · skip
      refine lv_iconst (v := 0) hx hb dX3_gated_61 (by decide) ?_
      refine lv_goto (tgt := 66) hx hb dX3_gated_62 (by decide) ?_
      exact W.iret hx hb hr (fun t ht _ => ri (by rw [← e_1]; show _ = (if a1 = a2 then (0 : Int32) else 1); first | rw [if_pos c_58] | rw [if_neg c_58]) ht) no_locs dX3_gated_66
  by_cases n_1_3 : z_1 = 3
  · subst n_1_3
    refine lv_tableIn (off := 66) (tgt := 67) hx hb dX3_gated_1 (by decide) (by decide) (by decide) (by decide) ?_
    refine lv_iload_n hx hb dX3_gated_67 rfl (lv_at hl 1 rfl) ?_
    refine lv_iload_n hx hb dX3_gated_68 rfl (lv_at hl 2 rfl) ?_
    refine lv_icmp_ne (tgt := 76) hx hb dX3_gated_69 (by decide) (fun c_69 => ?_) (fun c_69 => ?_)
    · skip
      refine lv_iconst (v := 0) hx hb dX3_gated_76 (by decide) ?_
      exact W.iret hx hb hr (fun t ht _ => ri (by rw [← e_1]; show _ = (if a1 = a2 then (1 : Int32) else 0); first | rw [if_pos c_69] | rw [if_neg c_69]) ht) no_locs dX3_gated_77
    · skip
      refine lv_iconst (v := 1) hx hb dX3_gated_72 (by decide) ?_
      refine lv_goto (tgt := 77) hx hb dX3_gated_73 (by decide) ?_
      exact W.iret hx hb hr (fun t ht _ => ri (by rw [← e_1]; show _ = (if a1 = a2 then (1 : Int32) else 0); first | rw [if_pos c_69] | rw [if_neg c_69]) ht) no_locs dX3_gated_77
  by_cases n_1_4 : z_1 = 4
  · subst n_1_4
    refine lv_tableIn (off := 77) (tgt := 78) hx hb dX3_gated_1 (by decide) (by decide) (by decide) (by decide) ?_
    refine lv_iload_n hx hb dX3_gated_78 rfl (lv_at hl 1 rfl) ?_
    refine lv_iconst (v := 1) hx hb dX3_gated_79 (by decide) ?_
    refine lv_icmp_ne (tgt := 91) hx hb dX3_gated_80 (by decide) (fun c_80 => ?_) (fun c_80 => ?_)
    · skip
      refine lv_iconst (v := 0) hx hb dX3_gated_91 (by decide) ?_
      exact W.iret hx hb hr (fun t ht _ => ri (by rw [← e_1]; show _ = (if a1 = 1 ∧ a2 = 0 then (1 : Int32) else 0); first | exact (if_pos ⟨c_80, c_84⟩).symm | exact (if_neg (fun h => c_84 h.2)).symm | exact (if_neg (fun h => c_80 h.1)).symm) ht) no_locs dX3_gated_92
    · skip
      refine lv_iload_n hx hb dX3_gated_83 rfl (lv_at hl 2 rfl) ?_
      refine lv_if_ne (tgt := 91) hx hb dX3_gated_84 (by decide) (fun c_84 => ?_) (fun c_84 => ?_)
      · skip
        refine lv_iconst (v := 0) hx hb dX3_gated_91 (by decide) ?_
        exact W.iret hx hb hr (fun t ht _ => ri (by rw [← e_1]; show _ = (if a1 = 1 ∧ a2 = 0 then (1 : Int32) else 0); first | exact (if_pos ⟨c_80, c_84⟩).symm | exact (if_neg (fun h => c_84 h.2)).symm | exact (if_neg (fun h => c_80 h.1)).symm) ht) no_locs dX3_gated_92
      · skip
        refine lv_iconst (v := 1) hx hb dX3_gated_87 (by decide) ?_
        refine lv_goto (tgt := 92) hx hb dX3_gated_88 (by decide) ?_
        exact W.iret hx hb hr (fun t ht _ => ri (by rw [← e_1]; show _ = (if a1 = 1 ∧ a2 = 0 then (1 : Int32) else 0); first | exact (if_pos ⟨c_80, c_84⟩).symm | exact (if_neg (fun h => c_84 h.2)).symm | exact (if_neg (fun h => c_80 h.1)).symm) ht) no_locs dX3_gated_92
  by_cases n_1_5 : z_1 = 5
  · subst n_1_5
    refine lv_tableIn (off := 92) (tgt := 93) hx hb dX3_gated_1 (by decide) (by decide) (by decide) (by decide) ?_
    refine lv_iload_n hx hb dX3_gated_93 rfl (lv_at hl 3 rfl) ?_
    refine lv_iconst (v := 1) hx hb dX3_gated_94 (by decide) ?_
    refine lv_icmp_ne (tgt := 102) hx hb dX3_gated_95 (by decide) (fun c_95 => ?_) (fun c_95 => ?_)
    · skip
      refine lv_iload_n hx hb dX3_gated_102 rfl (lv_at hl 1 rfl) ?_
      exact W.iret hx hb hr (fun t ht _ => ri (by rw [← e_1]; show _ = (if a3 = 1 then a2 else a1); first | rw [if_pos c_95] | rw [if_neg c_95]) ht) no_locs dX3_gated_103
    · skip
      refine lv_iload_n hx hb dX3_gated_98 rfl (lv_at hl 2 rfl) ?_
      refine lv_goto (tgt := 103) hx hb dX3_gated_99 (by decide) ?_
      exact W.iret hx hb hr (fun t ht _ => ri (by rw [← e_1]; show _ = (if a3 = 1 then a2 else a1); first | rw [if_pos c_95] | rw [if_neg c_95]) ht) no_locs dX3_gated_103
  have nb_1 : z_1.toInt < 0 ∨ 5 < z_1.toInt := by
    have q0 := lv_neT (a := 0) n_1_0 (by decide)
    have q1 := lv_neT (a := 1) n_1_1 (by decide)
    have q2 := lv_neT (a := 2) n_1_2 (by decide)
    have q3 := lv_neT (a := 3) n_1_3 (by decide)
    have q4 := lv_neT (a := 4) n_1_4 (by decide)
    have q5 := lv_neT (a := 5) n_1_5 (by decide)
    omega
  refine lv_tableOut (tgt := 104) hx hb dX3_gated_1 nb_1 (by decide) ?_
  refine lv_iload_n hx hb dX3_gated_104 rfl (lv_at hl 1 rfl) ?_
  refine lv_iload_n hx hb dX3_gated_105 rfl (lv_at hl 2 rfl) ?_
  refine lv_iadd hx hb dX3_gated_106 ?_
  refine lv_iload_n hx hb dX3_gated_107 rfl (lv_at hl 3 rfl) ?_
  refine lv_iadd hx hb dX3_gated_108 ?_
  refine lv_iconst (v := 1) hx hb dX3_gated_109 (by decide) ?_
  refine lv_icmp_le (tgt := 117) hx hb dX3_gated_110 (by decide) (fun c_110 => ?_) (fun c_110 => ?_)
  · skip
    refine lv_iconst (v := 0) hx hb dX3_gated_117 (by decide) ?_
    exact W.iret hx hb hr (fun t ht _ => ri (by rw [← e_1]; unfold g_gated; rw [if_neg n_1_0, if_neg n_1_1, if_neg n_1_2, if_neg n_1_3, if_neg n_1_4, if_neg n_1_5]; first | rw [if_pos c_110] | rw [if_neg c_110]) ht) no_locs dX3_gated_118
  · skip
    refine lv_iconst (v := 1) hx hb dX3_gated_113 (by decide) ?_
    refine lv_goto (tgt := 118) hx hb dX3_gated_114 (by decide) ?_
    exact W.iret hx hb hr (fun t ht _ => ri (by rw [← e_1]; unfold g_gated; rw [if_neg n_1_0, if_neg n_1_1, if_neg n_1_2, if_neg n_1_3, if_neg n_1_4, if_neg n_1_5]; first | rw [if_pos c_110] | rw [if_neg c_110]) ht) no_locs dX3_gated_118
theorem kd_X3_isMachine : yX3_isMachine.cls ≠ "java/lang/invoke/MethodHandle" ∧ yX3_isMachine.cls ≠ "java/lang/invoke/VarHandle" ∧ (parseMethodDescriptor yX3_isMachine.desc).map (fun d => d.parameters.length) = some 1 := by decide +kernel
set_option maxHeartbeats 4000000 in
set_option maxRecDepth 100000 in
theorem c_X3_isMachine (l : Launch) {a0 : Int32} : Met l yX3_isMachine wsX3_isMachine ({ frames := 1, cells := 0, slots := 0, locals := 25 }) (va_Pc ([.int a0] : List Value) (fun _ => True)) (QcRead (bI ((2 ≤ a0 ∧ a0 ≤ 8) ∧ remI a0 2 = 0))) 0 0 (fun _ => False) := by
  refine Met.ofW (cc := cX3_isMachine) (maxL := 1) (ret := (some .boolean)) (by decide) rfl ?_
  intro p e s m args below meth c s₁ B hml hv
  obtain ⟨rfl, -⟩ := hv
  have hx := B.exec
  have hb := B.bytes
  have hr := B.returns
  have hts := atoms_spec (ws := wsX3_isMachine) B.pre
  have hown : s.vm.findClass RX3 = some m.cls := findClass_of_methodNamed B.named
  have hlocks := B.notSynchronized
  have hw0 := hts (.constantLong RX3 104 (2)) (by decide +kernel)
  have hw1 := hts (.constantLong RX3 106 (8)) (by decide +kernel)
  have hl := lv_entry ([.int a0] : List Value) (n := 1) (Nat.le_of_ble_eq_true rfl)
  rw [lg_entry_eq]
  generalize (lg_sl ([.int a0] : List Value) ++ List.replicate (1 - (lg_sl ([.int a0] : List Value)).length) Slot.unset).toArray = ls at hl ⊢
  have hl : lv_has ls 1 [(0, .int a0)] := hl
  refine lv_iload_n hx hb dX3_isMachine_0 rfl (lv_at hl 0 rfl) ?_
  refine lv_i2l hx hb dX3_isMachine_1 rfl ?_
  refine lv_ldc2 (v := 2) hx hb hown hw0 dX3_isMachine_2 ?_
  refine lv_ldc2 (v := 8) hx hb hown hw1 dX3_isMachine_5 ?_
  refine ro_i (va_runS ⟨hx, hb, hml, hown, hts⟩ (c_X3_in l ) (va_cwS 3 hts gX3_isMachine_X3_in rfl rfl rfl kd_X3_in ⟨Nat.le_of_ble_eq_true rfl, Nat.le_of_ble_eq_true rfl⟩) preS0 rfl rfl hl.1 rfl (lv_room (Nat.le_of_ble_eq_true rfl)) dX3_isMachine_8 ⟨Nat.zero_le _, Nat.zero_le _⟩) ?_
  refine lv_if_eq (tgt := 24) hx hb dX3_isMachine_11 (by decide) (fun c_11 => ?_) (fun c_11 => ?_)
  · skip
    have c_11 := bI_eq.mp c_11
    have c_11 : ¬ (2 ≤ a0 ∧ a0 ≤ 8) := fun h => c_11 ⟨(fa_wide_le 2 a0).mpr h.1, (fa_wide_le a0 8).mpr h.2⟩
    refine lv_iconst (v := 0) hx hb dX3_isMachine_24 (by decide) ?_
    exact W.zret hx hb hr (by first | rfl | exact bI_nar) (fun t ht _ => ri (by first | exact (bI_t ⟨c_11, c_17⟩).symm | exact (bI_f (fun h => c_17 h.2)).symm | exact (bI_f (fun h => c_11 h.1)).symm) ht) no_locs dX3_isMachine_25
  · skip
    have c_11 := bI_ne.mp c_11
    have c_11 : 2 ≤ a0 ∧ a0 ≤ 8 := ⟨(fa_wide_le 2 a0).mp c_11.1, (fa_wide_le a0 8).mp c_11.2⟩
    refine lv_iload_n hx hb dX3_isMachine_14 rfl (lv_at hl 0 rfl) ?_
    refine lv_iconst (v := 2) hx hb dX3_isMachine_15 (by decide) ?_
    refine lv_irem hx hb dX3_isMachine_16 (by decide) ?_
    refine lv_if_ne (tgt := 24) hx hb dX3_isMachine_17 (by decide) (fun c_17 => ?_) (fun c_17 => ?_)
    · skip
      refine lv_iconst (v := 0) hx hb dX3_isMachine_24 (by decide) ?_
      exact W.zret hx hb hr (by first | rfl | exact bI_nar) (fun t ht _ => ri (by first | exact (bI_t ⟨c_11, c_17⟩).symm | exact (bI_f (fun h => c_17 h.2)).symm | exact (bI_f (fun h => c_11 h.1)).symm) ht) no_locs dX3_isMachine_25
    · skip
      refine lv_iconst (v := 1) hx hb dX3_isMachine_20 (by decide) ?_
      refine lv_goto (tgt := 25) hx hb dX3_isMachine_21 (by decide) ?_
      exact W.zret hx hb hr (by first | rfl | exact bI_nar) (fun t ht _ => ri (by first | exact (bI_t ⟨c_11, c_17⟩).symm | exact (bI_f (fun h => c_17 h.2)).symm | exact (bI_f (fun h => c_11 h.1)).symm) ht) no_locs dX3_isMachine_25
theorem kd_X3_power : yX3_power.cls ≠ "java/lang/invoke/MethodHandle" ∧ yX3_power.cls ≠ "java/lang/invoke/VarHandle" ∧ (parseMethodDescriptor yX3_power.desc).map (fun d => d.parameters.length) = some 2 := by decide +kernel
set_option maxHeartbeats 4000000 in
set_option maxRecDepth 100000 in
theorem c_X3_power (l : Launch) {a0 : Int64} {a1 : Int32} : Met l yX3_power wsX3_power ({ frames := 0, cells := 0, slots := 0, locals := 0 }) (va_Pc ([.long a0, .int a1] : List Value) (fun _ => True)) (qL (f_power a0 a1.toNatClampNeg)) 0 0 (fun _ => False) := by
  refine Met.ofW (cc := cX3_power) (maxL := 6) (ret := (some .long)) (by decide) rfl ?_
  intro p e s m args below meth c s₁ B hml hv
  obtain ⟨rfl, -⟩ := hv
  have hx := B.exec
  have hb := B.bytes
  have hr := B.returns
  have hts := atoms_spec (ws := wsX3_power) B.pre
  have hown : s.vm.findClass RX3 = some m.cls := findClass_of_methodNamed B.named
  have hlocks := B.notSynchronized
  have hl := lv_entry ([.long a0, .int a1] : List Value) (n := 6) (Nat.le_of_ble_eq_true rfl)
  rw [lg_entry_eq]
  generalize (lg_sl ([.long a0, .int a1] : List Value) ++ List.replicate (6 - (lg_sl ([.long a0, .int a1] : List Value)).length) Slot.unset).toArray = ls at hl ⊢
  have hl : lv_has ls 6 [(0, .long a0), (2, .int a1)] := hl
  refine lv_lconst (v := 1) hx hb dX3_power_0 (by decide) ?_
  refine lv_lstore_n (lv' := [(3, .long _), (0, .long _), (2, .int _)]) hx hb dX3_power_1 rfl hl (by decide) rfl (fun ls hl => ?_)
  refine lv_iconst (v := 0) hx hb dX3_power_2 (by decide) ?_
  refine lv_istore (lv' := [(5, .int _), (3, .long _), (0, .long _), (2, .int _)]) hx hb dX3_power_3 hl (by decide) rfl (fun ls hl => ?_)
  have L5 : ∀ (n5 : Nat) (k : Nat), a1.toNatClampNeg + 1 ≤ k + n5 → (k ≤ a1.toNatClampNeg) → ∀ (ls : Array Slot), lv_has ls 6 [(0, .long a0), (2, .int a1), (3, .long (f_power a0 k)), (5, .int (nI k))] → W p l e { frames := 0, cells := 0, slots := 0, locals := 0 } s m ([.long a0, .int a1] : List Value).toArray below meth c s.heap [] 0 0 (MQ below (qL (f_power a0 a1.toNatClampNeg)) ([.long a0, .int a1] : List Value).toArray s 0 0 (fun _ => False)) (F0 m 5 ls []) := by
    intro n5
    induction n5 with
    | zero =>
      intro k hf5 hk
      exact absurd hf5 (by omega)
    | succ n5 ih5 =>
      intro k hf5 hk ls hl
      refine lv_iload hx hb dX3_power_5 (lv_at hl 3 rfl) ?_
      refine lv_iload_n hx hb dX3_power_7 rfl (lv_at hl 1 rfl) ?_
      refine lv_icmp_ge (tgt := 21) hx hb dX3_power_8 (by decide) (fun c_8 => ?_) (fun c_8 => ?_)
      · skip
        refine lv_lload_n hx hb dX3_power_21 rfl (lv_at hl 2 rfl) ?_
        exact W.lret hx hb hr (fun t ht _ => rl (by rw [cl_end hk c_8]) ht) no_locs dX3_power_22
      · skip
        refine lv_lload_n hx hb dX3_power_11 rfl (lv_at hl 2 rfl) ?_
        refine lv_lload_n hx hb dX3_power_12 rfl (lv_at hl 0 rfl) ?_
        refine lv_lmul hx hb dX3_power_13 ?_
        refine lv_lstore_n (lv' := [(3, .long _), (0, .long _), (2, .int _), (5, .int _)]) hx hb dX3_power_14 rfl hl (by decide) rfl (fun ls hl => ?_)
        refine lv_iinc (lv' := [(5, .int (nI (k + 1))), (3, .long _), (0, .long _), (2, .int _)]) hx hb dX3_power_15 hl (k := 3) rfl (nI_1 _) (by decide) rfl (fun ls hl => ?_)
        refine lv_goto (tgt := 5) hx hb dX3_power_18 (by decide) ?_
        exact ih5 (k + 1) (by have := cl_go hk c_8; omega) (cl_go hk c_8) ls (lv_sub hl [2, 3, 1, 0] rfl)
  exact L5 (a1.toNatClampNeg + 1) 0 (by omega) (Nat.zero_le _) ls (lv_sub hl [2, 3, 1, 0] rfl)
theorem kd_X3_common : yX3_common.cls ≠ "java/lang/invoke/MethodHandle" ∧ yX3_common.cls ≠ "java/lang/invoke/VarHandle" ∧ (parseMethodDescriptor yX3_common.desc).map (fun d => d.parameters.length) = some 2 := by decide +kernel
set_option maxHeartbeats 4000000 in
set_option maxRecDepth 100000 in
theorem c_X3_common (l : Launch) {a0 : Int64} {X Y : Nat} (hX : g_abs a0 = lN X) (hXb : X < 2 ^ 63) (hYb : Y < 2 ^ 63) : Met l yX3_common wsX3_common ({ frames := 0, cells := 0, slots := 0, locals := 0 }) (va_Pc ([.long a0, .long (lN Y)] : List Value) (fun _ => True)) (qL (lN (Nat.gcd X Y))) 0 0 (fun _ => False) := by
  refine Met.ofW (cc := cX3_common) (maxL := 10) (ret := (some .long)) (by decide) rfl ?_
  intro p e s m args below meth c s₁ B hml hv
  obtain ⟨rfl, -⟩ := hv
  have hx := B.exec
  have hb := B.bytes
  have hr := B.returns
  have hts := atoms_spec (ws := wsX3_common) B.pre
  have hown : s.vm.findClass RX3 = some m.cls := findClass_of_methodNamed B.named
  have hlocks := B.notSynchronized
  have hl := lv_entry ([.long a0, .long (lN Y)] : List Value) (n := 10) (Nat.le_of_ble_eq_true rfl)
  rw [lg_entry_eq]
  generalize (lg_sl ([.long a0, .long (lN Y)] : List Value) ++ List.replicate (10 - (lg_sl ([.long a0, .long (lN Y)] : List Value)).length) Slot.unset).toArray = ls at hl ⊢
  have hl : lv_has ls 10 [(0, .long a0), (2, .long (lN Y))] := hl
  refine lv_lload_n hx hb dX3_common_0 rfl (lv_at hl 0 rfl) ?_
  refine lv_lconst (v := 0) hx hb dX3_common_1 (by decide) ?_
  refine W.lcmp hx hb dX3_common_2 ?_
  refine lv_if_ge (tgt := 11) hx hb dX3_common_3 (by decide) (fun c_3 => ?_) (fun c_3 => ?_)
  · skip
    have c_3 := (lg_cmp_ge _ _).mp c_3
    have ha : a0 = lN X := by rw [← hX]; unfold g_abs; rw [if_pos c_3]
    refine lv_lload_n hx hb dX3_common_11 rfl (lv_at hl 0 rfl) ?_
    refine st_l (v := lN X) ha ?_
    refine lv_lstore (lv' := [(4, .long _), (0, .long _), (2, .long _)]) hx hb dX3_common_12 hl (by decide) rfl (fun ls hl => ?_)
    refine lv_lload_n hx hb dX3_common_14 rfl (lv_at hl 2 rfl) ?_
    refine lv_lstore (lv' := [(6, .long _), (4, .long _), (0, .long _), (2, .long _)]) hx hb dX3_common_15 hl (by decide) rfl (fun ls hl => ?_)
    have L17 : ∀ (n17 : Nat) (u v : Nat), u < n17 → (u < 2 ^ 63) → (v < 2 ^ 63) → (Nat.gcd u v = Nat.gcd X Y) → ∀ (ls : Array Slot), lv_has ls 10 [(4, .long (lN u)), (6, .long (lN v))] → W p l e { frames := 0, cells := 0, slots := 0, locals := 0 } s m ([.long a0, .long (lN Y)] : List Value).toArray below meth c s.heap [] 0 0 (MQ below (qL (lN (Nat.gcd X Y))) ([.long a0, .long (lN Y)] : List Value).toArray s 0 0 (fun _ => False)) (F0 m 17 ls []) := by
      intro n17
      induction n17 with
      | zero =>
        intro u v hf17 hu hv he
        exact absurd hf17 (by omega)
      | succ n17 ih17 =>
        intro u v hf17 hu hv he ls hl
        refine lv_lload hx hb dX3_common_17 (lv_at hl 0 rfl) ?_
        refine lv_lconst (v := 0) hx hb dX3_common_19 (by decide) ?_
        refine W.lcmp hx hb dX3_common_20 ?_
        refine lv_if_le (tgt := 42) hx hb dX3_common_21 (by decide) (fun c_21 => ?_) (fun c_21 => ?_)
        · skip
          have c_21 := (lg_cmp_le _ _).mp c_21
          have hu0 : u = 0 := by have := (pk_lLE (a := u) (b := 0) hu (by omega)).mp c_21; omega
          refine lv_lload hx hb dX3_common_42 (lv_at hl 1 rfl) ?_
          exact W.lret hx hb hr (fun t ht _ => rl (by rw [← he, hu0, Nat.gcd_zero_left]) ht) no_locs dX3_common_44
        · skip
          have c_21 := fun h => c_21 ((lg_cmp_le _ _).mpr h)
          have hu0 : 0 < u := by have := mt (pk_lLE (a := u) (b := 0) hu (by omega)).mpr c_21; omega
          refine lv_lload hx hb dX3_common_24 (lv_at hl 1 rfl) ?_
          refine lv_lload hx hb dX3_common_26 (lv_at hl 0 rfl) ?_
          refine lv_lrem hx hb dX3_common_28 (fun q => absurd ((pk_lEQ (a := u) (b := 0) hu (by omega)).mp q) (by omega)) ?_
          refine st_l (v := lN (v % u)) (pk_lRem hv hu0 hu) ?_
          refine lv_lstore (lv' := [(8, .long _), (4, .long _), (6, .long _)]) hx hb dX3_common_29 hl (by decide) rfl (fun ls hl => ?_)
          refine lv_lload hx hb dX3_common_31 (lv_at hl 1 rfl) ?_
          refine lv_lstore (lv' := [(6, .long _), (8, .long _), (4, .long _)]) hx hb dX3_common_33 hl (by decide) rfl (fun ls hl => ?_)
          refine lv_lload hx hb dX3_common_35 (lv_at hl 1 rfl) ?_
          refine lv_lstore (lv' := [(4, .long _), (6, .long _), (8, .long _)]) hx hb dX3_common_37 hl (by decide) rfl (fun ls hl => ?_)
          refine lv_goto (tgt := 17) hx hb dX3_common_39 (by decide) ?_
          exact ih17 (v % u) u (by have := Nat.mod_lt v hu0; omega) (by have := Nat.mod_lt v hu0; omega) hu (by rw [← he, Nat.gcd_comm (v % u) u, Nat.gcd_comm u v, Nat.gcd_comm u (v % u), ← Nat.gcd_rec u v, Nat.gcd_comm]) ls (lv_sub hl [0, 1] rfl)
    exact L17 (X + 1) X Y (Nat.lt_succ_self X) hXb hYb rfl ls (lv_sub hl [1, 0] rfl)
  · skip
    have c_3 := fun h => c_3 ((lg_cmp_ge _ _).mpr h)
    have ha : -a0 = lN X := by rw [← hX]; unfold g_abs; rw [if_neg c_3]
    refine lv_lload_n hx hb dX3_common_6 rfl (lv_at hl 0 rfl) ?_
    refine lv_lneg hx hb dX3_common_7 ?_
    refine lv_goto (tgt := 12) hx hb dX3_common_8 (by decide) ?_
    refine st_l (v := lN X) ha ?_
    refine lv_lstore (lv' := [(4, .long _), (0, .long _), (2, .long _)]) hx hb dX3_common_12 hl (by decide) rfl (fun ls hl => ?_)
    refine lv_lload_n hx hb dX3_common_14 rfl (lv_at hl 2 rfl) ?_
    refine lv_lstore (lv' := [(6, .long _), (4, .long _), (0, .long _), (2, .long _)]) hx hb dX3_common_15 hl (by decide) rfl (fun ls hl => ?_)
    have L17 : ∀ (n17 : Nat) (u v : Nat), u < n17 → (u < 2 ^ 63) → (v < 2 ^ 63) → (Nat.gcd u v = Nat.gcd X Y) → ∀ (ls : Array Slot), lv_has ls 10 [(4, .long (lN u)), (6, .long (lN v))] → W p l e { frames := 0, cells := 0, slots := 0, locals := 0 } s m ([.long a0, .long (lN Y)] : List Value).toArray below meth c s.heap [] 0 0 (MQ below (qL (lN (Nat.gcd X Y))) ([.long a0, .long (lN Y)] : List Value).toArray s 0 0 (fun _ => False)) (F0 m 17 ls []) := by
      intro n17
      induction n17 with
      | zero =>
        intro u v hf17 hu hv he
        exact absurd hf17 (by omega)
      | succ n17 ih17 =>
        intro u v hf17 hu hv he ls hl
        refine lv_lload hx hb dX3_common_17 (lv_at hl 0 rfl) ?_
        refine lv_lconst (v := 0) hx hb dX3_common_19 (by decide) ?_
        refine W.lcmp hx hb dX3_common_20 ?_
        refine lv_if_le (tgt := 42) hx hb dX3_common_21 (by decide) (fun c_21 => ?_) (fun c_21 => ?_)
        · skip
          have c_21 := (lg_cmp_le _ _).mp c_21
          have hu0 : u = 0 := by have := (pk_lLE (a := u) (b := 0) hu (by omega)).mp c_21; omega
          refine lv_lload hx hb dX3_common_42 (lv_at hl 1 rfl) ?_
          exact W.lret hx hb hr (fun t ht _ => rl (by rw [← he, hu0, Nat.gcd_zero_left]) ht) no_locs dX3_common_44
        · skip
          have c_21 := fun h => c_21 ((lg_cmp_le _ _).mpr h)
          have hu0 : 0 < u := by have := mt (pk_lLE (a := u) (b := 0) hu (by omega)).mpr c_21; omega
          refine lv_lload hx hb dX3_common_24 (lv_at hl 1 rfl) ?_
          refine lv_lload hx hb dX3_common_26 (lv_at hl 0 rfl) ?_
          refine lv_lrem hx hb dX3_common_28 (fun q => absurd ((pk_lEQ (a := u) (b := 0) hu (by omega)).mp q) (by omega)) ?_
          refine st_l (v := lN (v % u)) (pk_lRem hv hu0 hu) ?_
          refine lv_lstore (lv' := [(8, .long _), (4, .long _), (6, .long _)]) hx hb dX3_common_29 hl (by decide) rfl (fun ls hl => ?_)
          refine lv_lload hx hb dX3_common_31 (lv_at hl 1 rfl) ?_
          refine lv_lstore (lv' := [(6, .long _), (8, .long _), (4, .long _)]) hx hb dX3_common_33 hl (by decide) rfl (fun ls hl => ?_)
          refine lv_lload hx hb dX3_common_35 (lv_at hl 1 rfl) ?_
          refine lv_lstore (lv' := [(4, .long _), (6, .long _), (8, .long _)]) hx hb dX3_common_37 hl (by decide) rfl (fun ls hl => ?_)
          refine lv_goto (tgt := 17) hx hb dX3_common_39 (by decide) ?_
          exact ih17 (v % u) u (by have := Nat.mod_lt v hu0; omega) (by have := Nat.mod_lt v hu0; omega) hu (by rw [← he, Nat.gcd_comm (v % u) u, Nat.gcd_comm u v, Nat.gcd_comm u (v % u), ← Nat.gcd_rec u v, Nat.gcd_comm]) ls (lv_sub hl [0, 1] rfl)
    exact L17 (X + 1) X Y (Nat.lt_succ_self X) hXb hYb rfl ls (lv_sub hl [1, 0] rfl)
theorem kd_X3_chosen : yX3_chosen.cls ≠ "java/lang/invoke/MethodHandle" ∧ yX3_chosen.cls ≠ "java/lang/invoke/VarHandle" ∧ (parseMethodDescriptor yX3_chosen.desc).map (fun d => d.parameters.length) = some 2 := by decide +kernel
set_option maxHeartbeats 4000000 in
set_option maxRecDepth 100000 in
theorem c_X3_chosen (l : Launch) {a0 a1 : Int32} : Met l yX3_chosen wsX3_chosen ({ frames := 0, cells := 0, slots := 0, locals := 0 }) (va_Pc ([.int a0, .int a1] : List Value) (fun _ => True)) (qL (g_chosen a0 a1.toNatClampNeg)) 0 0 (fun _ => False) := by
  refine Met.ofW (cc := cX3_chosen) (maxL := 5) (ret := (some .long)) (by decide) rfl ?_
  intro p e s m args below meth c s₁ B hml hv
  obtain ⟨rfl, -⟩ := hv
  have hx := B.exec
  have hb := B.bytes
  have hr := B.returns
  have hts := atoms_spec (ws := wsX3_chosen) B.pre
  have hown : s.vm.findClass RX3 = some m.cls := findClass_of_methodNamed B.named
  have hlocks := B.notSynchronized
  have hl := lv_entry ([.int a0, .int a1] : List Value) (n := 5) (Nat.le_of_ble_eq_true rfl)
  rw [lg_entry_eq]
  generalize (lg_sl ([.int a0, .int a1] : List Value) ++ List.replicate (5 - (lg_sl ([.int a0, .int a1] : List Value)).length) Slot.unset).toArray = ls at hl ⊢
  have hl : lv_has ls 5 [(0, .int a0), (1, .int a1)] := hl
  refine lv_lconst (v := 1) hx hb dX3_chosen_0 (by decide) ?_
  refine lv_lstore_n (lv' := [(2, .long _), (0, .int _), (1, .int _)]) hx hb dX3_chosen_1 rfl hl (by decide) rfl (fun ls hl => ?_)
  refine lv_iconst (v := 0) hx hb dX3_chosen_2 (by decide) ?_
  refine lv_istore (lv' := [(4, .int _), (2, .long _), (0, .int _), (1, .int _)]) hx hb dX3_chosen_3 hl (by decide) rfl (fun ls hl => ?_)
  have L5 : ∀ (n5 : Nat) (k : Nat), a1.toNatClampNeg + 1 ≤ k + n5 → (k ≤ a1.toNatClampNeg) → ∀ (ls : Array Slot), lv_has ls 5 [(0, .int a0), (1, .int a1), (2, .long (g_chosen a0 k)), (4, .int (nI k))] → W p l e { frames := 0, cells := 0, slots := 0, locals := 0 } s m ([.int a0, .int a1] : List Value).toArray below meth c s.heap [] 0 0 (MQ below (qL (g_chosen a0 a1.toNatClampNeg)) ([.int a0, .int a1] : List Value).toArray s 0 0 (fun _ => False)) (F0 m 5 ls []) := by
    intro n5
    induction n5 with
    | zero =>
      intro k hf5 hk
      exact absurd hf5 (by omega)
    | succ n5 ih5 =>
      intro k hf5 hk ls hl
      refine lv_iload hx hb dX3_chosen_5 (lv_at hl 3 rfl) ?_
      refine lv_iload_n hx hb dX3_chosen_7 rfl (lv_at hl 1 rfl) ?_
      refine lv_icmp_ge (tgt := 31) hx hb dX3_chosen_8 (by decide) (fun c_8 => ?_) (fun c_8 => ?_)
      · skip
        refine lv_lload_n hx hb dX3_chosen_31 rfl (lv_at hl 2 rfl) ?_
        exact W.lret hx hb hr (fun t ht _ => rl (by rw [cl_end hk c_8]) ht) no_locs dX3_chosen_32
      · skip
        refine lv_lload_n hx hb dX3_chosen_11 rfl (lv_at hl 2 rfl) ?_
        refine lv_iload_n hx hb dX3_chosen_12 rfl (lv_at hl 0 rfl) ?_
        refine lv_iload hx hb dX3_chosen_13 (lv_at hl 3 rfl) ?_
        refine lv_isub hx hb dX3_chosen_15 ?_
        refine lv_i2l hx hb dX3_chosen_16 rfl ?_
        refine lv_lmul hx hb dX3_chosen_17 ?_
        refine lv_iload hx hb dX3_chosen_18 (lv_at hl 3 rfl) ?_
        refine lv_iconst (v := 1) hx hb dX3_chosen_20 (by decide) ?_
        refine lv_iadd hx hb dX3_chosen_21 ?_
        refine lv_i2l hx hb dX3_chosen_22 rfl ?_
        refine lv_ldiv hx hb dX3_chosen_23 (by rw [nI_1]; exact nI_L_ne (by have := cl_go hk c_8; have := cl_lt (a := a1); omega)) ?_
        refine lv_lstore_n (lv' := [(2, .long _), (0, .int _), (1, .int _), (4, .int _)]) hx hb dX3_chosen_24 rfl hl (by decide) rfl (fun ls hl => ?_)
        refine lv_iinc (lv' := [(4, .int (nI (k + 1))), (2, .long _), (0, .int _), (1, .int _)]) hx hb dX3_chosen_25 hl (k := 3) rfl (nI_1 _) (by decide) rfl (fun ls hl => ?_)
        refine lv_goto (tgt := 5) hx hb dX3_chosen_28 (by decide) ?_
        exact ih5 (k + 1) (by have := cl_go hk c_8; omega) (cl_go hk c_8) ls (lv_sub hl [2, 3, 1, 0] rfl)
  exact L5 (a1.toNatClampNeg + 1) 0 (by omega) (Nat.zero_le _) ls (lv_sub hl [2, 3, 1, 0] rfl)
theorem kd_J6_bitCount_0f7a4 : yJ6_bitCount_0f7a4.cls ≠ "java/lang/invoke/MethodHandle" ∧ yJ6_bitCount_0f7a4.cls ≠ "java/lang/invoke/VarHandle" ∧ (parseMethodDescriptor yJ6_bitCount_0f7a4.desc).map (fun d => d.parameters.length) = some 1 := by decide +kernel
set_option maxHeartbeats 4000000 in
set_option maxRecDepth 100000 in
theorem c_J6_bitCount_0f7a4 (l : Launch) {a0 : Int32} : Met l yJ6_bitCount_0f7a4 wsJ6_bitCount_0f7a4 ({ frames := 0, cells := 0, slots := 0, locals := 0 }) (va_Pc ([.int a0] : List Value) (fun _ => True)) (QcRead (f_bci a0)) 0 0 (fun _ => False) := by
  refine met_ofW (cc := cJ6_bitCount_0f7a4) (maxL := 1) (ret := (some .int)) (by decide +kernel) rfl ?_
  intro p e s m args below meth c s₁ B hml hv
  obtain ⟨rfl, -⟩ := hv
  have hx := B.exec
  have hb := B.bytes
  have hr := B.returns
  have hts := atoms_spec (ws := wsJ6_bitCount_0f7a4) B.pre
  have hown : s.vm.findClass RJ6 = some m.cls := findClass_of_methodNamed B.named
  have hlocks := B.notSynchronized
  have hw0 := hts (.constant RJ6 265 (1431655765)) (by decide +kernel)
  have hw1 := hts (.constant RJ6 266 (858993459)) (by decide +kernel)
  have hw2 := hts (.constant RJ6 267 (252645135)) (by decide +kernel)
  have hl := lv_entry ([.int a0] : List Value) (n := 1) (Nat.le_of_ble_eq_true rfl)
  rw [lg_entry_eq]
  generalize (lg_sl ([.int a0] : List Value) ++ List.replicate (1 - (lg_sl ([.int a0] : List Value)).length) Slot.unset).toArray = ls at hl ⊢
  have hl : lv_has ls 1 [(0, .int a0)] := hl
  refine lv_iload_n hx hb dJ6_bitCount_0f7a4_0 rfl (lv_at hl 0 rfl) ?_
  refine lv_iload_n hx hb dJ6_bitCount_0f7a4_1 rfl (lv_at hl 0 rfl) ?_
  refine lv_iconst (v := 1) hx hb dJ6_bitCount_0f7a4_2 (by decide) ?_
  refine lv_iushr hx hb dJ6_bitCount_0f7a4_3 rfl ?_
  refine lv_ldcw (v := 1431655765) hx hb hown hw0 dJ6_bitCount_0f7a4_4 ?_
  refine lv_iand hx hb dJ6_bitCount_0f7a4_7 ?_
  refine lv_isub hx hb dJ6_bitCount_0f7a4_8 ?_
  refine lv_topi (fun x1 e1 => ?_)
  refine lv_istore_n (lv' := [(0, .int _)]) hx hb dJ6_bitCount_0f7a4_9 rfl hl (by decide) rfl (fun ls hl => ?_)
  refine lv_iload_n hx hb dJ6_bitCount_0f7a4_10 rfl (lv_at hl 0 rfl) ?_
  refine lv_ldcw (v := 858993459) hx hb hown hw1 dJ6_bitCount_0f7a4_11 ?_
  refine lv_iand hx hb dJ6_bitCount_0f7a4_14 ?_
  refine lv_iload_n hx hb dJ6_bitCount_0f7a4_15 rfl (lv_at hl 0 rfl) ?_
  refine lv_iconst (v := 2) hx hb dJ6_bitCount_0f7a4_16 (by decide) ?_
  refine lv_iushr hx hb dJ6_bitCount_0f7a4_17 rfl ?_
  refine lv_ldcw (v := 858993459) hx hb hown hw1 dJ6_bitCount_0f7a4_18 ?_
  refine lv_iand hx hb dJ6_bitCount_0f7a4_21 ?_
  refine lv_iadd hx hb dJ6_bitCount_0f7a4_22 ?_
  refine lv_topi (fun x2 e2 => ?_)
  refine lv_istore_n (lv' := [(0, .int _)]) hx hb dJ6_bitCount_0f7a4_23 rfl hl (by decide) rfl (fun ls hl => ?_)
  refine lv_iload_n hx hb dJ6_bitCount_0f7a4_24 rfl (lv_at hl 0 rfl) ?_
  refine lv_iload_n hx hb dJ6_bitCount_0f7a4_25 rfl (lv_at hl 0 rfl) ?_
  refine lv_iconst (v := 4) hx hb dJ6_bitCount_0f7a4_26 (by decide) ?_
  refine lv_iushr hx hb dJ6_bitCount_0f7a4_27 rfl ?_
  refine lv_iadd hx hb dJ6_bitCount_0f7a4_28 ?_
  refine lv_ldcw (v := 252645135) hx hb hown hw2 dJ6_bitCount_0f7a4_29 ?_
  refine lv_iand hx hb dJ6_bitCount_0f7a4_32 ?_
  refine lv_topi (fun x3 e3 => ?_)
  refine lv_istore_n (lv' := [(0, .int _)]) hx hb dJ6_bitCount_0f7a4_33 rfl hl (by decide) rfl (fun ls hl => ?_)
  refine lv_iload_n hx hb dJ6_bitCount_0f7a4_34 rfl (lv_at hl 0 rfl) ?_
  refine lv_iload_n hx hb dJ6_bitCount_0f7a4_35 rfl (lv_at hl 0 rfl) ?_
  refine lv_bipush (v := 8) hx hb dJ6_bitCount_0f7a4_36 (by decide) ?_
  refine lv_iushr hx hb dJ6_bitCount_0f7a4_38 rfl ?_
  refine lv_iadd hx hb dJ6_bitCount_0f7a4_39 ?_
  refine lv_topi (fun x4 e4 => ?_)
  refine lv_istore_n (lv' := [(0, .int _)]) hx hb dJ6_bitCount_0f7a4_40 rfl hl (by decide) rfl (fun ls hl => ?_)
  refine lv_iload_n hx hb dJ6_bitCount_0f7a4_41 rfl (lv_at hl 0 rfl) ?_
  refine lv_iload_n hx hb dJ6_bitCount_0f7a4_42 rfl (lv_at hl 0 rfl) ?_
  refine lv_bipush (v := 16) hx hb dJ6_bitCount_0f7a4_43 (by decide) ?_
  refine lv_iushr hx hb dJ6_bitCount_0f7a4_45 rfl ?_
  refine lv_iadd hx hb dJ6_bitCount_0f7a4_46 ?_
  refine lv_topi (fun x5 e5 => ?_)
  refine lv_istore_n (lv' := [(0, .int _)]) hx hb dJ6_bitCount_0f7a4_47 rfl hl (by decide) rfl (fun ls hl => ?_)
  refine lv_iload_n hx hb dJ6_bitCount_0f7a4_48 rfl (lv_at hl 0 rfl) ?_
  refine lv_bipush (v := 63) hx hb dJ6_bitCount_0f7a4_49 (by decide) ?_
  refine lv_iand hx hb dJ6_bitCount_0f7a4_51 ?_
  exact W.iret hx hb hr (fun t ht _ => ri (by rw [e5, e4, e3, e2, e1]; rfl) ht) no_locs dJ6_bitCount_0f7a4_52
theorem kd_J13_bitCount_95d88 : yJ13_bitCount_95d88.cls ≠ "java/lang/invoke/MethodHandle" ∧ yJ13_bitCount_95d88.cls ≠ "java/lang/invoke/VarHandle" ∧ (parseMethodDescriptor yJ13_bitCount_95d88.desc).map (fun d => d.parameters.length) = some 1 := by decide +kernel
set_option maxHeartbeats 4000000 in
set_option maxRecDepth 100000 in
theorem c_J13_bitCount_95d88 (l : Launch) {a0 : Int64} : Met l yJ13_bitCount_95d88 wsJ13_bitCount_95d88 ({ frames := 0, cells := 0, slots := 0, locals := 0 }) (va_Pc ([.long a0] : List Value) (fun _ => True)) (QcRead (f_bc a0)) 0 0 (fun _ => False) := by
  refine met_ofW (cc := cJ13_bitCount_95d88) (maxL := 2) (ret := (some .int)) (by decide +kernel) rfl ?_
  intro p e s m args below meth c s₁ B hml hv
  obtain ⟨rfl, -⟩ := hv
  have hx := B.exec
  have hb := B.bytes
  have hr := B.returns
  have hts := atoms_spec (ws := wsJ13_bitCount_95d88) B.pre
  have hown : s.vm.findClass RJ13 = some m.cls := findClass_of_methodNamed B.named
  have hlocks := B.notSynchronized
  have hw0 := hts (.constantLong RJ13 314 (6148914691236517205)) (by decide +kernel)
  have hw1 := hts (.constantLong RJ13 316 (3689348814741910323)) (by decide +kernel)
  have hw2 := hts (.constantLong RJ13 318 (1085102592571150095)) (by decide +kernel)
  have hl := lv_entry ([.long a0] : List Value) (n := 2) (Nat.le_of_ble_eq_true rfl)
  rw [lg_entry_eq]
  generalize (lg_sl ([.long a0] : List Value) ++ List.replicate (2 - (lg_sl ([.long a0] : List Value)).length) Slot.unset).toArray = ls at hl ⊢
  have hl : lv_has ls 2 [(0, .long a0)] := hl
  refine lv_lload_n hx hb dJ13_bitCount_95d88_0 rfl (lv_at hl 0 rfl) ?_
  refine lv_lload_n hx hb dJ13_bitCount_95d88_1 rfl (lv_at hl 0 rfl) ?_
  refine lv_iconst (v := 1) hx hb dJ13_bitCount_95d88_2 (by decide) ?_
  refine lv_lushr hx hb dJ13_bitCount_95d88_3 rfl ?_
  refine lv_ldc2 (v := 6148914691236517205) hx hb hown hw0 dJ13_bitCount_95d88_4 ?_
  refine lv_land hx hb dJ13_bitCount_95d88_7 ?_
  refine lv_lsub hx hb dJ13_bitCount_95d88_8 ?_
  refine lv_topl (fun x1 e1 => ?_)
  refine lv_lstore_n (lv' := [(0, .long _)]) hx hb dJ13_bitCount_95d88_9 rfl hl (by decide) rfl (fun ls hl => ?_)
  refine lv_lload_n hx hb dJ13_bitCount_95d88_10 rfl (lv_at hl 0 rfl) ?_
  refine lv_ldc2 (v := 3689348814741910323) hx hb hown hw1 dJ13_bitCount_95d88_11 ?_
  refine lv_land hx hb dJ13_bitCount_95d88_14 ?_
  refine lv_lload_n hx hb dJ13_bitCount_95d88_15 rfl (lv_at hl 0 rfl) ?_
  refine lv_iconst (v := 2) hx hb dJ13_bitCount_95d88_16 (by decide) ?_
  refine lv_lushr hx hb dJ13_bitCount_95d88_17 rfl ?_
  refine lv_ldc2 (v := 3689348814741910323) hx hb hown hw1 dJ13_bitCount_95d88_18 ?_
  refine lv_land hx hb dJ13_bitCount_95d88_21 ?_
  refine lv_ladd hx hb dJ13_bitCount_95d88_22 ?_
  refine lv_topl (fun x2 e2 => ?_)
  refine lv_lstore_n (lv' := [(0, .long _)]) hx hb dJ13_bitCount_95d88_23 rfl hl (by decide) rfl (fun ls hl => ?_)
  refine lv_lload_n hx hb dJ13_bitCount_95d88_24 rfl (lv_at hl 0 rfl) ?_
  refine lv_lload_n hx hb dJ13_bitCount_95d88_25 rfl (lv_at hl 0 rfl) ?_
  refine lv_iconst (v := 4) hx hb dJ13_bitCount_95d88_26 (by decide) ?_
  refine lv_lushr hx hb dJ13_bitCount_95d88_27 rfl ?_
  refine lv_ladd hx hb dJ13_bitCount_95d88_28 ?_
  refine lv_ldc2 (v := 1085102592571150095) hx hb hown hw2 dJ13_bitCount_95d88_29 ?_
  refine lv_land hx hb dJ13_bitCount_95d88_32 ?_
  refine lv_topl (fun x3 e3 => ?_)
  refine lv_lstore_n (lv' := [(0, .long _)]) hx hb dJ13_bitCount_95d88_33 rfl hl (by decide) rfl (fun ls hl => ?_)
  refine lv_lload_n hx hb dJ13_bitCount_95d88_34 rfl (lv_at hl 0 rfl) ?_
  refine lv_lload_n hx hb dJ13_bitCount_95d88_35 rfl (lv_at hl 0 rfl) ?_
  refine lv_bipush (v := 8) hx hb dJ13_bitCount_95d88_36 (by decide) ?_
  refine lv_lushr hx hb dJ13_bitCount_95d88_38 rfl ?_
  refine lv_ladd hx hb dJ13_bitCount_95d88_39 ?_
  refine lv_topl (fun x4 e4 => ?_)
  refine lv_lstore_n (lv' := [(0, .long _)]) hx hb dJ13_bitCount_95d88_40 rfl hl (by decide) rfl (fun ls hl => ?_)
  refine lv_lload_n hx hb dJ13_bitCount_95d88_41 rfl (lv_at hl 0 rfl) ?_
  refine lv_lload_n hx hb dJ13_bitCount_95d88_42 rfl (lv_at hl 0 rfl) ?_
  refine lv_bipush (v := 16) hx hb dJ13_bitCount_95d88_43 (by decide) ?_
  refine lv_lushr hx hb dJ13_bitCount_95d88_45 rfl ?_
  refine lv_ladd hx hb dJ13_bitCount_95d88_46 ?_
  refine lv_topl (fun x5 e5 => ?_)
  refine lv_lstore_n (lv' := [(0, .long _)]) hx hb dJ13_bitCount_95d88_47 rfl hl (by decide) rfl (fun ls hl => ?_)
  refine lv_lload_n hx hb dJ13_bitCount_95d88_48 rfl (lv_at hl 0 rfl) ?_
  refine lv_lload_n hx hb dJ13_bitCount_95d88_49 rfl (lv_at hl 0 rfl) ?_
  refine lv_bipush (v := 32) hx hb dJ13_bitCount_95d88_50 (by decide) ?_
  refine lv_lushr hx hb dJ13_bitCount_95d88_52 rfl ?_
  refine lv_ladd hx hb dJ13_bitCount_95d88_53 ?_
  refine lv_topl (fun x6 e6 => ?_)
  refine lv_lstore_n (lv' := [(0, .long _)]) hx hb dJ13_bitCount_95d88_54 rfl hl (by decide) rfl (fun ls hl => ?_)
  refine lv_lload_n hx hb dJ13_bitCount_95d88_55 rfl (lv_at hl 0 rfl) ?_
  refine lv_l2i hx hb dJ13_bitCount_95d88_56 rfl ?_
  refine lv_bipush (v := 127) hx hb dJ13_bitCount_95d88_57 (by decide) ?_
  refine lv_iand hx hb dJ13_bitCount_95d88_59 ?_
  exact W.iret hx hb hr (fun t ht _ => ri (by rw [e6, e5, e4, e3, e2, e1]; rfl) ht) no_locs dJ13_bitCount_95d88_60
theorem kd_J9_floorDiv_f86c9 : yJ9_floorDiv_f86c9.cls ≠ "java/lang/invoke/MethodHandle" ∧ yJ9_floorDiv_f86c9.cls ≠ "java/lang/invoke/VarHandle" ∧ (parseMethodDescriptor yJ9_floorDiv_f86c9.desc).map (fun d => d.parameters.length) = some 2 := by decide +kernel
set_option maxHeartbeats 4000000 in
set_option maxRecDepth 100000 in
theorem c_J9_floorDiv_f86c9 (l : Launch) {a0 a1 : Int64} (hy : ¬ a1 = 0) : Met l yJ9_floorDiv_f86c9 wsJ9_floorDiv_f86c9 ({ frames := 0, cells := 0, slots := 0, locals := 0 }) (va_Pc ([.long a0, .long a1] : List Value) (fun _ => True)) (qL (f_floorDiv a0 a1)) 0 0 (fun _ => False) := by
  refine met_ofW (cc := cJ9_floorDiv_f86c9) (maxL := 6) (ret := (some .long)) (by decide +kernel) rfl ?_
  intro p e s m args below meth c s₁ B hml hv
  obtain ⟨rfl, -⟩ := hv
  have hx := B.exec
  have hb := B.bytes
  have hr := B.returns
  have hts := atoms_spec (ws := wsJ9_floorDiv_f86c9) B.pre
  have hown : s.vm.findClass RJ9 = some m.cls := findClass_of_methodNamed B.named
  have hlocks := B.notSynchronized
  have hl := lv_entry ([.long a0, .long a1] : List Value) (n := 6) (Nat.le_of_ble_eq_true rfl)
  rw [lg_entry_eq]
  generalize (lg_sl ([.long a0, .long a1] : List Value) ++ List.replicate (6 - (lg_sl ([.long a0, .long a1] : List Value)).length) Slot.unset).toArray = ls at hl ⊢
  have hl : lv_has ls 6 [(0, .long a0), (2, .long a1)] := hl
  refine lv_lload_n hx hb dJ9_floorDiv_f86c9_0 rfl (lv_at hl 0 rfl) ?_
  refine lv_lload_n hx hb dJ9_floorDiv_f86c9_1 rfl (lv_at hl 1 rfl) ?_
  refine lv_ldiv hx hb dJ9_floorDiv_f86c9_2 (hy) ?_
  refine lv_lstore (lv' := [(4, .long _), (0, .long _), (2, .long _)]) hx hb dJ9_floorDiv_f86c9_3 hl (by decide) rfl (fun ls hl => ?_)
  refine lv_lload_n hx hb dJ9_floorDiv_f86c9_5 rfl (lv_at hl 1 rfl) ?_
  refine lv_lload_n hx hb dJ9_floorDiv_f86c9_6 rfl (lv_at hl 2 rfl) ?_
  refine lv_lxor hx hb dJ9_floorDiv_f86c9_7 ?_
  refine lv_lconst (v := 0) hx hb dJ9_floorDiv_f86c9_8 (by decide) ?_
  refine W.lcmp hx hb dJ9_floorDiv_f86c9_9 ?_
  refine lv_if_ge (tgt := 27) hx hb dJ9_floorDiv_f86c9_10 (by decide) (fun c_10 => ?_) (fun c_10 => ?_)
  · skip
    have c_10 := (lg_cmp_ge _ _).mp c_10
    refine lv_lload hx hb dJ9_floorDiv_f86c9_27 (lv_at hl 0 rfl) ?_
    exact W.lret hx hb hr (fun t ht _ => rl (by unfold f_floorDiv; first | rw [if_pos c_10] | rw [if_neg c_10, if_pos c_19] | rw [if_neg c_10, if_neg c_19]) ht) no_locs dJ9_floorDiv_f86c9_29
  · skip
    have c_10 := fun h => c_10 ((lg_cmp_ge _ _).mpr h)
    refine lv_lload hx hb dJ9_floorDiv_f86c9_13 (lv_at hl 0 rfl) ?_
    refine lv_lload_n hx hb dJ9_floorDiv_f86c9_15 rfl (lv_at hl 2 rfl) ?_
    refine lv_lmul hx hb dJ9_floorDiv_f86c9_16 ?_
    refine lv_lload_n hx hb dJ9_floorDiv_f86c9_17 rfl (lv_at hl 1 rfl) ?_
    refine W.lcmp hx hb dJ9_floorDiv_f86c9_18 ?_
    refine lv_if_eq (tgt := 27) hx hb dJ9_floorDiv_f86c9_19 (by decide) (fun c_19 => ?_) (fun c_19 => ?_)
    · skip
      have c_19 := (lg_cmp_eq _ _).mp c_19
      refine lv_lload hx hb dJ9_floorDiv_f86c9_27 (lv_at hl 0 rfl) ?_
      exact W.lret hx hb hr (fun t ht _ => rl (by unfold f_floorDiv; first | rw [if_pos c_10] | rw [if_neg c_10, if_pos c_19] | rw [if_neg c_10, if_neg c_19]) ht) no_locs dJ9_floorDiv_f86c9_29
    · skip
      have c_19 := fun h => c_19 ((lg_cmp_eq _ _).mpr h)
      refine lv_lload hx hb dJ9_floorDiv_f86c9_22 (lv_at hl 0 rfl) ?_
      refine lv_lconst (v := 1) hx hb dJ9_floorDiv_f86c9_24 (by decide) ?_
      refine lv_lsub hx hb dJ9_floorDiv_f86c9_25 ?_
      exact W.lret hx hb hr (fun t ht _ => rl (by unfold f_floorDiv; first | rw [if_pos c_10] | rw [if_neg c_10, if_pos c_19] | rw [if_neg c_10, if_neg c_19]) ht) no_locs dJ9_floorDiv_f86c9_26
