theorem kd_X2_isBit : yX2_isBit.cls ≠ "java/lang/invoke/MethodHandle" ∧ yX2_isBit.cls ≠ "java/lang/invoke/VarHandle" ∧ (parseMethodDescriptor yX2_isBit.desc).map (fun d => d.parameters.length) = some 1 := by decide +kernel
set_option maxHeartbeats 4000000 in
set_option maxRecDepth 100000 in
theorem c_X2_isBit (l : Launch) {dC : Nat → ClassId} {dI : Nat → Nat → Nat} {ad : Nat → Nat} {cI cJ : ClassId} {ln : Int32} {fg : Int32} {dg : Int32} {sc : Int32} {ms : Int32} {mi : Int32} {mv : Int32} {mw : Int32} {st : (Nat → Int64)} {fr : (Nat → Int64)} {sr : (Nat → Int64)} {pa : (Nat → Int64)} {nu : (Nat → Int32)} {a0 : Int32} : Met l yX2_isBit wsX2_isBit ({ frames := 1, cells := 0, slots := 0, locals := 22 }) (va_Pc ([.ref (ad 0), .int a0] : List Value) (gB (dC, dI) (tyw cI cJ) (xw ad cI cJ ln fg dg sc ms mi mv mw st fr sr pa nu))) (QcRead (bI (0 ≤ a0 ∧ a0 ≤ ln - 1))) 0 0 (fun _ => False) := by
  refine Met.ofW (cc := cX2_isBit) (maxL := 2) (ret := (some .boolean)) (by decide) rfl ?_
  intro p e s m args below meth c s₁ B hml hv
  obtain ⟨rfl, hnw, hK, hP⟩ := hv
  have hx := B.exec
  have hb := B.bytes
  have hr := B.returns
  have hts := atoms_spec (ws := wsX2_isBit) B.pre
  have hown : s.vm.findClass RX2 = some m.cls := findClass_of_methodNamed B.named
  have hlocks := B.notSynchronized
  have hw0 := hts (.fieldLink RX2 10 "BitStreams" "rows" "LBitStreams$Rows;") (by decide +kernel)
  have inX1 : ∀ w ∈ wsX10, w ∈ wsX2_isBit := by decide +kernel
  have inX2 : ∀ w ∈ wsX20, w ∈ wsX2_isBit := by decide +kernel
  have hl := lv_entry ([.ref (ad 0), .int a0] : List Value) (n := 2) (Nat.le_of_ble_eq_true rfl)
  rw [lg_entry_eq]
  generalize (lg_sl ([.ref (ad 0), .int a0] : List Value) ++ List.replicate (2 - (lg_sl ([.ref (ad 0), .int a0] : List Value)).length) Slot.unset).toArray = ls at hl ⊢
  have hl : lv_has ls 2 [(0, .ref (ad 0)), (1, .int a0)] := hl
  refine lv_iload_n hx hb dX2_isBit_0 rfl (lv_at hl 1 rfl) ?_
  refine lv_iconst (v := 0) hx hb dX2_isBit_1 (by decide) ?_
  refine lv_aload_n hx hb dX2_isBit_2 rfl (lv_at hl 0 rfl) ?_
  refine va_get (D := (dC, dI)) (ci := 2) (C := RX2) (T := TX2) (N := 10) hx hb hts inX2 hown hK hP 0 rfl rfl 0 (by decide) hw0 (fun _ h9 => h9) rfl dX2_isBit_3 ?_
  refine va_getN (D := (dC, dI)) (ci := 1) (C := RX1) (T := TX1) (N := 2) hx hb hts inX1 hown hK hP 1 rfl rfl 0 (by decide) (hnw.use 1 rfl) (fun _ h9 => h9) rfl dX2_isBit_6 ?_
  refine lv_iconst (v := 1) hx hb dX2_isBit_9 (by decide) ?_
  refine lv_isub hx hb dX2_isBit_10 ?_
  refine ro_i (va_runS ⟨hx, hb, hml, hown, hts⟩ (c_X2_isWithin l ) (va_cwS 3 hts gX2_isBit_X2_isWithin rfl rfl rfl kd_X2_isWithin ⟨Nat.le_of_ble_eq_true rfl, Nat.le_of_ble_eq_true rfl⟩) preS0 rfl rfl hl.1 rfl (lv_room (Nat.le_of_ble_eq_true rfl)) dX2_isBit_11 ⟨Nat.zero_le _, Nat.zero_le _⟩) ?_
  exact W.zret hx hb hr (by first | rfl | exact bI_nar) (fun t ht _ => ri rfl ht) no_locs dX2_isBit_14
theorem kd_X2_isValue : yX2_isValue.cls ≠ "java/lang/invoke/MethodHandle" ∧ yX2_isValue.cls ≠ "java/lang/invoke/VarHandle" ∧ (parseMethodDescriptor yX2_isValue.desc).map (fun d => d.parameters.length) = some 1 := by decide +kernel
set_option maxHeartbeats 4000000 in
set_option maxRecDepth 100000 in
theorem c_X2_isValue (l : Launch) {dC : Nat → ClassId} {dI : Nat → Nat → Nat} {ad : Nat → Nat} {cI cJ : ClassId} {ln : Int32} {fg : Int32} {dg : Int32} {sc : Int32} {ms : Int32} {mi : Int32} {mv : Int32} {mw : Int32} {st : (Nat → Int64)} {fr : (Nat → Int64)} {sr : (Nat → Int64)} {pa : (Nat → Int64)} {nu : (Nat → Int32)} {a0 : Int32} : Met l yX2_isValue wsX2_isValue ({ frames := 1, cells := 0, slots := 0, locals := 22 }) (va_Pc ([.ref (ad 0), .int a0] : List Value) (gB (dC, dI) (tyw cI cJ) (xw ad cI cJ ln fg dg sc ms mi mv mw st fr sr pa nu))) (QcRead (bI (0 ≤ a0 ∧ a0 ≤ ln))) 0 0 (fun _ => False) := by
  refine Met.ofW (cc := cX2_isValue) (maxL := 2) (ret := (some .boolean)) (by decide) rfl ?_
  intro p e s m args below meth c s₁ B hml hv
  obtain ⟨rfl, hnw, hK, hP⟩ := hv
  have hx := B.exec
  have hb := B.bytes
  have hr := B.returns
  have hts := atoms_spec (ws := wsX2_isValue) B.pre
  have hown : s.vm.findClass RX2 = some m.cls := findClass_of_methodNamed B.named
  have hlocks := B.notSynchronized
  have hw0 := hts (.fieldLink RX2 10 "BitStreams" "rows" "LBitStreams$Rows;") (by decide +kernel)
  have inX1 : ∀ w ∈ wsX10, w ∈ wsX2_isValue := by decide +kernel
  have inX2 : ∀ w ∈ wsX20, w ∈ wsX2_isValue := by decide +kernel
  have hl := lv_entry ([.ref (ad 0), .int a0] : List Value) (n := 2) (Nat.le_of_ble_eq_true rfl)
  rw [lg_entry_eq]
  generalize (lg_sl ([.ref (ad 0), .int a0] : List Value) ++ List.replicate (2 - (lg_sl ([.ref (ad 0), .int a0] : List Value)).length) Slot.unset).toArray = ls at hl ⊢
  have hl : lv_has ls 2 [(0, .ref (ad 0)), (1, .int a0)] := hl
  refine lv_iload_n hx hb dX2_isValue_0 rfl (lv_at hl 1 rfl) ?_
  refine lv_iconst (v := 0) hx hb dX2_isValue_1 (by decide) ?_
  refine lv_aload_n hx hb dX2_isValue_2 rfl (lv_at hl 0 rfl) ?_
  refine va_get (D := (dC, dI)) (ci := 2) (C := RX2) (T := TX2) (N := 10) hx hb hts inX2 hown hK hP 0 rfl rfl 0 (by decide) hw0 (fun _ h9 => h9) rfl dX2_isValue_3 ?_
  refine va_getN (D := (dC, dI)) (ci := 1) (C := RX1) (T := TX1) (N := 2) hx hb hts inX1 hown hK hP 1 rfl rfl 0 (by decide) (hnw.use 1 rfl) (fun _ h9 => h9) rfl dX2_isValue_6 ?_
  refine ro_i (va_runS ⟨hx, hb, hml, hown, hts⟩ (c_X2_isWithin l ) (va_cwS 3 hts gX2_isValue_X2_isWithin rfl rfl rfl kd_X2_isWithin ⟨Nat.le_of_ble_eq_true rfl, Nat.le_of_ble_eq_true rfl⟩) preS0 rfl rfl hl.1 rfl (lv_room (Nat.le_of_ble_eq_true rfl)) dX2_isValue_9 ⟨Nat.zero_le _, Nat.zero_le _⟩) ?_
  exact W.zret hx hb hr (by first | rfl | exact bI_nar) (fun t ht _ => ri rfl ht) no_locs dX2_isValue_12
theorem kd_X2_onesOfSort : yX2_onesOfSort.cls ≠ "java/lang/invoke/MethodHandle" ∧ yX2_onesOfSort.cls ≠ "java/lang/invoke/VarHandle" ∧ (parseMethodDescriptor yX2_onesOfSort.desc).map (fun d => d.parameters.length) = some 3 := by decide +kernel
set_option maxHeartbeats 4000000 in
set_option maxRecDepth 100000 in
theorem c_X2_onesOfSort (l : Launch) {dC : Nat → ClassId} {dI : Nat → Nat → Nat} {ad : Nat → Nat} {cI cJ : ClassId} {ln : Int32} {fg : Int32} {dg : Int32} {sc : Int32} {ms : Int32} {mi : Int32} {mv : Int32} {mw : Int32} {st : (Nat → Int64)} {fr : (Nat → Int64)} {sr : (Nat → Int64)} {pa : (Nat → Int64)} {nu : (Nat → Int32)} {a0 a1 : Int64} {a2 : Int32} : Met l yX2_onesOfSort wsX2_onesOfSort ({ frames := 1, cells := 0, slots := 0, locals := 21 }) (va_Pc ([.ref (ad 0), .long a0, .long a1, .int a2] : List Value) (gB (dC, dI) (tyw cI cJ) (xw ad cI cJ ln fg dg sc ms mi mv mw st fr sr pa nu))) (QcRead (f_sort ln a0 a1 a2)) 0 0 (fun _ => False) := by
  refine Met.ofW (cc := cX2_onesOfSort) (maxL := 10) (ret := (some .int)) (by decide) rfl ?_
  intro p e s m args below meth c s₁ B hml hv
  obtain ⟨rfl, hnw, hK, hP⟩ := hv
  have hx := B.exec
  have hb := B.bytes
  have hr := B.returns
  have hts := atoms_spec (ws := wsX2_onesOfSort) B.pre
  have hown : s.vm.findClass RX2 = some m.cls := findClass_of_methodNamed B.named
  have hlocks := B.notSynchronized
  have hw0 := hts (.fieldLink RX2 10 "BitStreams" "rows" "LBitStreams$Rows;") (by decide +kernel)
  have hw1 := hts (.constantLong RX2 81 (-1)) (by decide +kernel)
  have inX1 : ∀ w ∈ wsX10, w ∈ wsX2_onesOfSort := by decide +kernel
  have inX2 : ∀ w ∈ wsX20, w ∈ wsX2_onesOfSort := by decide +kernel
  have hl := lv_entry ([.ref (ad 0), .long a0, .long a1, .int a2] : List Value) (n := 10) (Nat.le_of_ble_eq_true rfl)
  rw [lg_entry_eq]
  generalize (lg_sl ([.ref (ad 0), .long a0, .long a1, .int a2] : List Value) ++ List.replicate (10 - (lg_sl ([.ref (ad 0), .long a0, .long a1, .int a2] : List Value)).length) Slot.unset).toArray = ls at hl ⊢
  have hl : lv_has ls 10 [(0, .ref (ad 0)), (1, .long a0), (3, .long a1), (5, .int a2)] := hl
  refine lv_iload hx hb dX2_onesOfSort_0 (lv_at hl 3 rfl) ?_
  refine lv_if_eq (tgt := 11) hx hb dX2_onesOfSort_2 (by decide) (fun c_2 => ?_) (fun c_2 => ?_)
  · skip
    have hs1 : a2 = 0 ∨ a2 = 1 := Or.inl c_2
    refine lv_lload_n hx hb dX2_onesOfSort_11 rfl (lv_at hl 1 rfl) ?_
    refine lv_goto (tgt := 20) hx hb dX2_onesOfSort_12 (by decide) ?_
    refine lv_lstore (lv' := [(6, .long _), (0, .ref _), (1, .long _), (3, .long _), (5, .int _)]) hx hb dX2_onesOfSort_20 hl (by decide) rfl (fun ls hl => ?_)
    refine lv_iload hx hb dX2_onesOfSort_22 (lv_at hl 4 rfl) ?_
    refine lv_if_eq (tgt := 33) hx hb dX2_onesOfSort_24 (by decide) (fun c_24 => ?_) (fun c_24 => ?_)
    · skip
      have hs2 : a2 = 0 ∨ a2 = 2 := Or.inl c_24
      refine lv_lload_n hx hb dX2_onesOfSort_33 rfl (lv_at hl 3 rfl) ?_
      refine lv_goto (tgt := 42) hx hb dX2_onesOfSort_34 (by decide) ?_
      refine lv_lstore (lv' := [(8, .long _), (6, .long _), (0, .ref _), (1, .long _), (3, .long _), (5, .int _)]) hx hb dX2_onesOfSort_42 hl (by decide) rfl (fun ls hl => ?_)
      refine lv_lload hx hb dX2_onesOfSort_44 (lv_at hl 1 rfl) ?_
      refine lv_lload hx hb dX2_onesOfSort_46 (lv_at hl 0 rfl) ?_
      refine lv_land hx hb dX2_onesOfSort_48 ?_
      refine lv_aload_n hx hb dX2_onesOfSort_49 rfl (lv_at hl 2 rfl) ?_
      refine va_get (D := (dC, dI)) (ci := 2) (C := RX2) (T := TX2) (N := 10) hx hb hts inX2 hown hK hP 0 rfl rfl 0 (by decide) hw0 (fun _ h9 => h9) rfl dX2_onesOfSort_50 ?_
      refine va_getN (D := (dC, dI)) (ci := 1) (C := RX1) (T := TX1) (N := 2) hx hb hts inX1 hown hK hP 1 rfl rfl 0 (by decide) (hnw.use 1 rfl) (fun _ h9 => h9) rfl dX2_onesOfSort_53 ?_
      refine ro_l (va_runS ⟨hx, hb, hml, hown, hts⟩ (c_X2_lowBits l ) (va_cwS 1 hts gX2_onesOfSort_X2_lowBits rfl rfl rfl kd_X2_lowBits ⟨Nat.le_of_ble_eq_true rfl, Nat.le_of_ble_eq_true rfl⟩) preS0 rfl rfl hl.1 rfl (lv_room (Nat.le_of_ble_eq_true rfl)) dX2_onesOfSort_56 ⟨Nat.zero_le _, Nat.zero_le _⟩) ?_
      refine lv_land hx hb dX2_onesOfSort_59 ?_
      refine ro_i (va_runS ⟨hx, hb, hml, hown, hts⟩ (c_J13_bitCount_95d88 l ) (va_cwS 1 hts gX2_onesOfSort_J13_bitCount_95d88 rfl rfl rfl kd_J13_bitCount_95d88 ⟨Nat.le_of_ble_eq_true rfl, Nat.le_of_ble_eq_true rfl⟩) preS0 rfl rfl hl.1 rfl (lv_room (Nat.le_of_ble_eq_true rfl)) dX2_onesOfSort_60 ⟨Nat.zero_le _, Nat.zero_le _⟩) ?_
      exact W.iret hx hb hr (fun t ht _ => ri (by unfold f_sort; first | rw [if_pos hs1, if_pos hs2] | rw [if_pos hs1, if_neg hs2] | rw [if_neg hs1, if_pos hs2] | rw [if_neg hs1, if_neg hs2]) ht) no_locs dX2_onesOfSort_63
    · skip
      refine lv_iload hx hb dX2_onesOfSort_27 (lv_at hl 4 rfl) ?_
      refine lv_iconst (v := 2) hx hb dX2_onesOfSort_29 (by decide) ?_
      refine lv_icmp_ne (tgt := 37) hx hb dX2_onesOfSort_30 (by decide) (fun c_30 => ?_) (fun c_30 => ?_)
      · skip
        have hs2 : ¬ (a2 = 0 ∨ a2 = 2) := fun h => h.elim c_24 c_30
        refine lv_lload_n hx hb dX2_onesOfSort_37 rfl (lv_at hl 3 rfl) ?_
        refine lv_ldc2 (v := (-1)) hx hb hown hw1 dX2_onesOfSort_38 ?_
        refine lv_lxor hx hb dX2_onesOfSort_41 ?_
        refine lv_lstore (lv' := [(8, .long _), (6, .long _), (0, .ref _), (1, .long _), (3, .long _), (5, .int _)]) hx hb dX2_onesOfSort_42 hl (by decide) rfl (fun ls hl => ?_)
        refine lv_lload hx hb dX2_onesOfSort_44 (lv_at hl 1 rfl) ?_
        refine lv_lload hx hb dX2_onesOfSort_46 (lv_at hl 0 rfl) ?_
        refine lv_land hx hb dX2_onesOfSort_48 ?_
        refine lv_aload_n hx hb dX2_onesOfSort_49 rfl (lv_at hl 2 rfl) ?_
        refine va_get (D := (dC, dI)) (ci := 2) (C := RX2) (T := TX2) (N := 10) hx hb hts inX2 hown hK hP 0 rfl rfl 0 (by decide) hw0 (fun _ h9 => h9) rfl dX2_onesOfSort_50 ?_
        refine va_getN (D := (dC, dI)) (ci := 1) (C := RX1) (T := TX1) (N := 2) hx hb hts inX1 hown hK hP 1 rfl rfl 0 (by decide) (hnw.use 1 rfl) (fun _ h9 => h9) rfl dX2_onesOfSort_53 ?_
        refine ro_l (va_runS ⟨hx, hb, hml, hown, hts⟩ (c_X2_lowBits l ) (va_cwS 1 hts gX2_onesOfSort_X2_lowBits rfl rfl rfl kd_X2_lowBits ⟨Nat.le_of_ble_eq_true rfl, Nat.le_of_ble_eq_true rfl⟩) preS0 rfl rfl hl.1 rfl (lv_room (Nat.le_of_ble_eq_true rfl)) dX2_onesOfSort_56 ⟨Nat.zero_le _, Nat.zero_le _⟩) ?_
        refine lv_land hx hb dX2_onesOfSort_59 ?_
        refine ro_i (va_runS ⟨hx, hb, hml, hown, hts⟩ (c_J13_bitCount_95d88 l ) (va_cwS 1 hts gX2_onesOfSort_J13_bitCount_95d88 rfl rfl rfl kd_J13_bitCount_95d88 ⟨Nat.le_of_ble_eq_true rfl, Nat.le_of_ble_eq_true rfl⟩) preS0 rfl rfl hl.1 rfl (lv_room (Nat.le_of_ble_eq_true rfl)) dX2_onesOfSort_60 ⟨Nat.zero_le _, Nat.zero_le _⟩) ?_
        exact W.iret hx hb hr (fun t ht _ => ri (by unfold f_sort; first | rw [if_pos hs1, if_pos hs2] | rw [if_pos hs1, if_neg hs2] | rw [if_neg hs1, if_pos hs2] | rw [if_neg hs1, if_neg hs2]) ht) no_locs dX2_onesOfSort_63
      · skip
        have hs2 : a2 = 0 ∨ a2 = 2 := Or.inr c_30
        refine lv_lload_n hx hb dX2_onesOfSort_33 rfl (lv_at hl 3 rfl) ?_
        refine lv_goto (tgt := 42) hx hb dX2_onesOfSort_34 (by decide) ?_
        refine lv_lstore (lv' := [(8, .long _), (6, .long _), (0, .ref _), (1, .long _), (3, .long _), (5, .int _)]) hx hb dX2_onesOfSort_42 hl (by decide) rfl (fun ls hl => ?_)
        refine lv_lload hx hb dX2_onesOfSort_44 (lv_at hl 1 rfl) ?_
        refine lv_lload hx hb dX2_onesOfSort_46 (lv_at hl 0 rfl) ?_
        refine lv_land hx hb dX2_onesOfSort_48 ?_
        refine lv_aload_n hx hb dX2_onesOfSort_49 rfl (lv_at hl 2 rfl) ?_
        refine va_get (D := (dC, dI)) (ci := 2) (C := RX2) (T := TX2) (N := 10) hx hb hts inX2 hown hK hP 0 rfl rfl 0 (by decide) hw0 (fun _ h9 => h9) rfl dX2_onesOfSort_50 ?_
        refine va_getN (D := (dC, dI)) (ci := 1) (C := RX1) (T := TX1) (N := 2) hx hb hts inX1 hown hK hP 1 rfl rfl 0 (by decide) (hnw.use 1 rfl) (fun _ h9 => h9) rfl dX2_onesOfSort_53 ?_
        refine ro_l (va_runS ⟨hx, hb, hml, hown, hts⟩ (c_X2_lowBits l ) (va_cwS 1 hts gX2_onesOfSort_X2_lowBits rfl rfl rfl kd_X2_lowBits ⟨Nat.le_of_ble_eq_true rfl, Nat.le_of_ble_eq_true rfl⟩) preS0 rfl rfl hl.1 rfl (lv_room (Nat.le_of_ble_eq_true rfl)) dX2_onesOfSort_56 ⟨Nat.zero_le _, Nat.zero_le _⟩) ?_
        refine lv_land hx hb dX2_onesOfSort_59 ?_
        refine ro_i (va_runS ⟨hx, hb, hml, hown, hts⟩ (c_J13_bitCount_95d88 l ) (va_cwS 1 hts gX2_onesOfSort_J13_bitCount_95d88 rfl rfl rfl kd_J13_bitCount_95d88 ⟨Nat.le_of_ble_eq_true rfl, Nat.le_of_ble_eq_true rfl⟩) preS0 rfl rfl hl.1 rfl (lv_room (Nat.le_of_ble_eq_true rfl)) dX2_onesOfSort_60 ⟨Nat.zero_le _, Nat.zero_le _⟩) ?_
        exact W.iret hx hb hr (fun t ht _ => ri (by unfold f_sort; first | rw [if_pos hs1, if_pos hs2] | rw [if_pos hs1, if_neg hs2] | rw [if_neg hs1, if_pos hs2] | rw [if_neg hs1, if_neg hs2]) ht) no_locs dX2_onesOfSort_63
  · skip
    refine lv_iload hx hb dX2_onesOfSort_5 (lv_at hl 3 rfl) ?_
    refine lv_iconst (v := 1) hx hb dX2_onesOfSort_7 (by decide) ?_
    refine lv_icmp_ne (tgt := 15) hx hb dX2_onesOfSort_8 (by decide) (fun c_8 => ?_) (fun c_8 => ?_)
    · skip
      have hs1 : ¬ (a2 = 0 ∨ a2 = 1) := fun h => h.elim c_2 c_8
      refine lv_lload_n hx hb dX2_onesOfSort_15 rfl (lv_at hl 1 rfl) ?_
      refine lv_ldc2 (v := (-1)) hx hb hown hw1 dX2_onesOfSort_16 ?_
      refine lv_lxor hx hb dX2_onesOfSort_19 ?_
      refine lv_lstore (lv' := [(6, .long _), (0, .ref _), (1, .long _), (3, .long _), (5, .int _)]) hx hb dX2_onesOfSort_20 hl (by decide) rfl (fun ls hl => ?_)
      refine lv_iload hx hb dX2_onesOfSort_22 (lv_at hl 4 rfl) ?_
      refine lv_if_eq (tgt := 33) hx hb dX2_onesOfSort_24 (by decide) (fun c_24 => ?_) (fun c_24 => ?_)
      · skip
        have hs2 : a2 = 0 ∨ a2 = 2 := Or.inl c_24
        refine lv_lload_n hx hb dX2_onesOfSort_33 rfl (lv_at hl 3 rfl) ?_
        refine lv_goto (tgt := 42) hx hb dX2_onesOfSort_34 (by decide) ?_
        refine lv_lstore (lv' := [(8, .long _), (6, .long _), (0, .ref _), (1, .long _), (3, .long _), (5, .int _)]) hx hb dX2_onesOfSort_42 hl (by decide) rfl (fun ls hl => ?_)
        refine lv_lload hx hb dX2_onesOfSort_44 (lv_at hl 1 rfl) ?_
        refine lv_lload hx hb dX2_onesOfSort_46 (lv_at hl 0 rfl) ?_
        refine lv_land hx hb dX2_onesOfSort_48 ?_
        refine lv_aload_n hx hb dX2_onesOfSort_49 rfl (lv_at hl 2 rfl) ?_
        refine va_get (D := (dC, dI)) (ci := 2) (C := RX2) (T := TX2) (N := 10) hx hb hts inX2 hown hK hP 0 rfl rfl 0 (by decide) hw0 (fun _ h9 => h9) rfl dX2_onesOfSort_50 ?_
        refine va_getN (D := (dC, dI)) (ci := 1) (C := RX1) (T := TX1) (N := 2) hx hb hts inX1 hown hK hP 1 rfl rfl 0 (by decide) (hnw.use 1 rfl) (fun _ h9 => h9) rfl dX2_onesOfSort_53 ?_
        refine ro_l (va_runS ⟨hx, hb, hml, hown, hts⟩ (c_X2_lowBits l ) (va_cwS 1 hts gX2_onesOfSort_X2_lowBits rfl rfl rfl kd_X2_lowBits ⟨Nat.le_of_ble_eq_true rfl, Nat.le_of_ble_eq_true rfl⟩) preS0 rfl rfl hl.1 rfl (lv_room (Nat.le_of_ble_eq_true rfl)) dX2_onesOfSort_56 ⟨Nat.zero_le _, Nat.zero_le _⟩) ?_
        refine lv_land hx hb dX2_onesOfSort_59 ?_
        refine ro_i (va_runS ⟨hx, hb, hml, hown, hts⟩ (c_J13_bitCount_95d88 l ) (va_cwS 1 hts gX2_onesOfSort_J13_bitCount_95d88 rfl rfl rfl kd_J13_bitCount_95d88 ⟨Nat.le_of_ble_eq_true rfl, Nat.le_of_ble_eq_true rfl⟩) preS0 rfl rfl hl.1 rfl (lv_room (Nat.le_of_ble_eq_true rfl)) dX2_onesOfSort_60 ⟨Nat.zero_le _, Nat.zero_le _⟩) ?_
        exact W.iret hx hb hr (fun t ht _ => ri (by unfold f_sort; first | rw [if_pos hs1, if_pos hs2] | rw [if_pos hs1, if_neg hs2] | rw [if_neg hs1, if_pos hs2] | rw [if_neg hs1, if_neg hs2]) ht) no_locs dX2_onesOfSort_63
      · skip
        refine lv_iload hx hb dX2_onesOfSort_27 (lv_at hl 4 rfl) ?_
        refine lv_iconst (v := 2) hx hb dX2_onesOfSort_29 (by decide) ?_
        refine lv_icmp_ne (tgt := 37) hx hb dX2_onesOfSort_30 (by decide) (fun c_30 => ?_) (fun c_30 => ?_)
        · skip
          have hs2 : ¬ (a2 = 0 ∨ a2 = 2) := fun h => h.elim c_24 c_30
          refine lv_lload_n hx hb dX2_onesOfSort_37 rfl (lv_at hl 3 rfl) ?_
          refine lv_ldc2 (v := (-1)) hx hb hown hw1 dX2_onesOfSort_38 ?_
          refine lv_lxor hx hb dX2_onesOfSort_41 ?_
          refine lv_lstore (lv' := [(8, .long _), (6, .long _), (0, .ref _), (1, .long _), (3, .long _), (5, .int _)]) hx hb dX2_onesOfSort_42 hl (by decide) rfl (fun ls hl => ?_)
          refine lv_lload hx hb dX2_onesOfSort_44 (lv_at hl 1 rfl) ?_
          refine lv_lload hx hb dX2_onesOfSort_46 (lv_at hl 0 rfl) ?_
          refine lv_land hx hb dX2_onesOfSort_48 ?_
          refine lv_aload_n hx hb dX2_onesOfSort_49 rfl (lv_at hl 2 rfl) ?_
          refine va_get (D := (dC, dI)) (ci := 2) (C := RX2) (T := TX2) (N := 10) hx hb hts inX2 hown hK hP 0 rfl rfl 0 (by decide) hw0 (fun _ h9 => h9) rfl dX2_onesOfSort_50 ?_
          refine va_getN (D := (dC, dI)) (ci := 1) (C := RX1) (T := TX1) (N := 2) hx hb hts inX1 hown hK hP 1 rfl rfl 0 (by decide) (hnw.use 1 rfl) (fun _ h9 => h9) rfl dX2_onesOfSort_53 ?_
          refine ro_l (va_runS ⟨hx, hb, hml, hown, hts⟩ (c_X2_lowBits l ) (va_cwS 1 hts gX2_onesOfSort_X2_lowBits rfl rfl rfl kd_X2_lowBits ⟨Nat.le_of_ble_eq_true rfl, Nat.le_of_ble_eq_true rfl⟩) preS0 rfl rfl hl.1 rfl (lv_room (Nat.le_of_ble_eq_true rfl)) dX2_onesOfSort_56 ⟨Nat.zero_le _, Nat.zero_le _⟩) ?_
          refine lv_land hx hb dX2_onesOfSort_59 ?_
          refine ro_i (va_runS ⟨hx, hb, hml, hown, hts⟩ (c_J13_bitCount_95d88 l ) (va_cwS 1 hts gX2_onesOfSort_J13_bitCount_95d88 rfl rfl rfl kd_J13_bitCount_95d88 ⟨Nat.le_of_ble_eq_true rfl, Nat.le_of_ble_eq_true rfl⟩) preS0 rfl rfl hl.1 rfl (lv_room (Nat.le_of_ble_eq_true rfl)) dX2_onesOfSort_60 ⟨Nat.zero_le _, Nat.zero_le _⟩) ?_
          exact W.iret hx hb hr (fun t ht _ => ri (by unfold f_sort; first | rw [if_pos hs1, if_pos hs2] | rw [if_pos hs1, if_neg hs2] | rw [if_neg hs1, if_pos hs2] | rw [if_neg hs1, if_neg hs2]) ht) no_locs dX2_onesOfSort_63
        · skip
          have hs2 : a2 = 0 ∨ a2 = 2 := Or.inr c_30
          refine lv_lload_n hx hb dX2_onesOfSort_33 rfl (lv_at hl 3 rfl) ?_
          refine lv_goto (tgt := 42) hx hb dX2_onesOfSort_34 (by decide) ?_
          refine lv_lstore (lv' := [(8, .long _), (6, .long _), (0, .ref _), (1, .long _), (3, .long _), (5, .int _)]) hx hb dX2_onesOfSort_42 hl (by decide) rfl (fun ls hl => ?_)
          refine lv_lload hx hb dX2_onesOfSort_44 (lv_at hl 1 rfl) ?_
          refine lv_lload hx hb dX2_onesOfSort_46 (lv_at hl 0 rfl) ?_
          refine lv_land hx hb dX2_onesOfSort_48 ?_
          refine lv_aload_n hx hb dX2_onesOfSort_49 rfl (lv_at hl 2 rfl) ?_
          refine va_get (D := (dC, dI)) (ci := 2) (C := RX2) (T := TX2) (N := 10) hx hb hts inX2 hown hK hP 0 rfl rfl 0 (by decide) hw0 (fun _ h9 => h9) rfl dX2_onesOfSort_50 ?_
          refine va_getN (D := (dC, dI)) (ci := 1) (C := RX1) (T := TX1) (N := 2) hx hb hts inX1 hown hK hP 1 rfl rfl 0 (by decide) (hnw.use 1 rfl) (fun _ h9 => h9) rfl dX2_onesOfSort_53 ?_
          refine ro_l (va_runS ⟨hx, hb, hml, hown, hts⟩ (c_X2_lowBits l ) (va_cwS 1 hts gX2_onesOfSort_X2_lowBits rfl rfl rfl kd_X2_lowBits ⟨Nat.le_of_ble_eq_true rfl, Nat.le_of_ble_eq_true rfl⟩) preS0 rfl rfl hl.1 rfl (lv_room (Nat.le_of_ble_eq_true rfl)) dX2_onesOfSort_56 ⟨Nat.zero_le _, Nat.zero_le _⟩) ?_
          refine lv_land hx hb dX2_onesOfSort_59 ?_
          refine ro_i (va_runS ⟨hx, hb, hml, hown, hts⟩ (c_J13_bitCount_95d88 l ) (va_cwS 1 hts gX2_onesOfSort_J13_bitCount_95d88 rfl rfl rfl kd_J13_bitCount_95d88 ⟨Nat.le_of_ble_eq_true rfl, Nat.le_of_ble_eq_true rfl⟩) preS0 rfl rfl hl.1 rfl (lv_room (Nat.le_of_ble_eq_true rfl)) dX2_onesOfSort_60 ⟨Nat.zero_le _, Nat.zero_le _⟩) ?_
          exact W.iret hx hb hr (fun t ht _ => ri (by unfold f_sort; first | rw [if_pos hs1, if_pos hs2] | rw [if_pos hs1, if_neg hs2] | rw [if_neg hs1, if_pos hs2] | rw [if_neg hs1, if_neg hs2]) ht) no_locs dX2_onesOfSort_63
    · skip
      have hs1 : a2 = 0 ∨ a2 = 1 := Or.inr c_8
      refine lv_lload_n hx hb dX2_onesOfSort_11 rfl (lv_at hl 1 rfl) ?_
      refine lv_goto (tgt := 20) hx hb dX2_onesOfSort_12 (by decide) ?_
      refine lv_lstore (lv' := [(6, .long _), (0, .ref _), (1, .long _), (3, .long _), (5, .int _)]) hx hb dX2_onesOfSort_20 hl (by decide) rfl (fun ls hl => ?_)
      refine lv_iload hx hb dX2_onesOfSort_22 (lv_at hl 4 rfl) ?_
      refine lv_if_eq (tgt := 33) hx hb dX2_onesOfSort_24 (by decide) (fun c_24 => ?_) (fun c_24 => ?_)
      · skip
        have hs2 : a2 = 0 ∨ a2 = 2 := Or.inl c_24
        refine lv_lload_n hx hb dX2_onesOfSort_33 rfl (lv_at hl 3 rfl) ?_
        refine lv_goto (tgt := 42) hx hb dX2_onesOfSort_34 (by decide) ?_
        refine lv_lstore (lv' := [(8, .long _), (6, .long _), (0, .ref _), (1, .long _), (3, .long _), (5, .int _)]) hx hb dX2_onesOfSort_42 hl (by decide) rfl (fun ls hl => ?_)
        refine lv_lload hx hb dX2_onesOfSort_44 (lv_at hl 1 rfl) ?_
        refine lv_lload hx hb dX2_onesOfSort_46 (lv_at hl 0 rfl) ?_
        refine lv_land hx hb dX2_onesOfSort_48 ?_
        refine lv_aload_n hx hb dX2_onesOfSort_49 rfl (lv_at hl 2 rfl) ?_
        refine va_get (D := (dC, dI)) (ci := 2) (C := RX2) (T := TX2) (N := 10) hx hb hts inX2 hown hK hP 0 rfl rfl 0 (by decide) hw0 (fun _ h9 => h9) rfl dX2_onesOfSort_50 ?_
        refine va_getN (D := (dC, dI)) (ci := 1) (C := RX1) (T := TX1) (N := 2) hx hb hts inX1 hown hK hP 1 rfl rfl 0 (by decide) (hnw.use 1 rfl) (fun _ h9 => h9) rfl dX2_onesOfSort_53 ?_
        refine ro_l (va_runS ⟨hx, hb, hml, hown, hts⟩ (c_X2_lowBits l ) (va_cwS 1 hts gX2_onesOfSort_X2_lowBits rfl rfl rfl kd_X2_lowBits ⟨Nat.le_of_ble_eq_true rfl, Nat.le_of_ble_eq_true rfl⟩) preS0 rfl rfl hl.1 rfl (lv_room (Nat.le_of_ble_eq_true rfl)) dX2_onesOfSort_56 ⟨Nat.zero_le _, Nat.zero_le _⟩) ?_
        refine lv_land hx hb dX2_onesOfSort_59 ?_
        refine ro_i (va_runS ⟨hx, hb, hml, hown, hts⟩ (c_J13_bitCount_95d88 l ) (va_cwS 1 hts gX2_onesOfSort_J13_bitCount_95d88 rfl rfl rfl kd_J13_bitCount_95d88 ⟨Nat.le_of_ble_eq_true rfl, Nat.le_of_ble_eq_true rfl⟩) preS0 rfl rfl hl.1 rfl (lv_room (Nat.le_of_ble_eq_true rfl)) dX2_onesOfSort_60 ⟨Nat.zero_le _, Nat.zero_le _⟩) ?_
        exact W.iret hx hb hr (fun t ht _ => ri (by unfold f_sort; first | rw [if_pos hs1, if_pos hs2] | rw [if_pos hs1, if_neg hs2] | rw [if_neg hs1, if_pos hs2] | rw [if_neg hs1, if_neg hs2]) ht) no_locs dX2_onesOfSort_63
      · skip
        refine lv_iload hx hb dX2_onesOfSort_27 (lv_at hl 4 rfl) ?_
        refine lv_iconst (v := 2) hx hb dX2_onesOfSort_29 (by decide) ?_
        refine lv_icmp_ne (tgt := 37) hx hb dX2_onesOfSort_30 (by decide) (fun c_30 => ?_) (fun c_30 => ?_)
        · skip
          have hs2 : ¬ (a2 = 0 ∨ a2 = 2) := fun h => h.elim c_24 c_30
          refine lv_lload_n hx hb dX2_onesOfSort_37 rfl (lv_at hl 3 rfl) ?_
          refine lv_ldc2 (v := (-1)) hx hb hown hw1 dX2_onesOfSort_38 ?_
          refine lv_lxor hx hb dX2_onesOfSort_41 ?_
          refine lv_lstore (lv' := [(8, .long _), (6, .long _), (0, .ref _), (1, .long _), (3, .long _), (5, .int _)]) hx hb dX2_onesOfSort_42 hl (by decide) rfl (fun ls hl => ?_)
          refine lv_lload hx hb dX2_onesOfSort_44 (lv_at hl 1 rfl) ?_
          refine lv_lload hx hb dX2_onesOfSort_46 (lv_at hl 0 rfl) ?_
          refine lv_land hx hb dX2_onesOfSort_48 ?_
          refine lv_aload_n hx hb dX2_onesOfSort_49 rfl (lv_at hl 2 rfl) ?_
          refine va_get (D := (dC, dI)) (ci := 2) (C := RX2) (T := TX2) (N := 10) hx hb hts inX2 hown hK hP 0 rfl rfl 0 (by decide) hw0 (fun _ h9 => h9) rfl dX2_onesOfSort_50 ?_
          refine va_getN (D := (dC, dI)) (ci := 1) (C := RX1) (T := TX1) (N := 2) hx hb hts inX1 hown hK hP 1 rfl rfl 0 (by decide) (hnw.use 1 rfl) (fun _ h9 => h9) rfl dX2_onesOfSort_53 ?_
          refine ro_l (va_runS ⟨hx, hb, hml, hown, hts⟩ (c_X2_lowBits l ) (va_cwS 1 hts gX2_onesOfSort_X2_lowBits rfl rfl rfl kd_X2_lowBits ⟨Nat.le_of_ble_eq_true rfl, Nat.le_of_ble_eq_true rfl⟩) preS0 rfl rfl hl.1 rfl (lv_room (Nat.le_of_ble_eq_true rfl)) dX2_onesOfSort_56 ⟨Nat.zero_le _, Nat.zero_le _⟩) ?_
          refine lv_land hx hb dX2_onesOfSort_59 ?_
          refine ro_i (va_runS ⟨hx, hb, hml, hown, hts⟩ (c_J13_bitCount_95d88 l ) (va_cwS 1 hts gX2_onesOfSort_J13_bitCount_95d88 rfl rfl rfl kd_J13_bitCount_95d88 ⟨Nat.le_of_ble_eq_true rfl, Nat.le_of_ble_eq_true rfl⟩) preS0 rfl rfl hl.1 rfl (lv_room (Nat.le_of_ble_eq_true rfl)) dX2_onesOfSort_60 ⟨Nat.zero_le _, Nat.zero_le _⟩) ?_
          exact W.iret hx hb hr (fun t ht _ => ri (by unfold f_sort; first | rw [if_pos hs1, if_pos hs2] | rw [if_pos hs1, if_neg hs2] | rw [if_neg hs1, if_pos hs2] | rw [if_neg hs1, if_neg hs2]) ht) no_locs dX2_onesOfSort_63
        · skip
          have hs2 : a2 = 0 ∨ a2 = 2 := Or.inr c_30
          refine lv_lload_n hx hb dX2_onesOfSort_33 rfl (lv_at hl 3 rfl) ?_
          refine lv_goto (tgt := 42) hx hb dX2_onesOfSort_34 (by decide) ?_
          refine lv_lstore (lv' := [(8, .long _), (6, .long _), (0, .ref _), (1, .long _), (3, .long _), (5, .int _)]) hx hb dX2_onesOfSort_42 hl (by decide) rfl (fun ls hl => ?_)
          refine lv_lload hx hb dX2_onesOfSort_44 (lv_at hl 1 rfl) ?_
          refine lv_lload hx hb dX2_onesOfSort_46 (lv_at hl 0 rfl) ?_
          refine lv_land hx hb dX2_onesOfSort_48 ?_
          refine lv_aload_n hx hb dX2_onesOfSort_49 rfl (lv_at hl 2 rfl) ?_
          refine va_get (D := (dC, dI)) (ci := 2) (C := RX2) (T := TX2) (N := 10) hx hb hts inX2 hown hK hP 0 rfl rfl 0 (by decide) hw0 (fun _ h9 => h9) rfl dX2_onesOfSort_50 ?_
          refine va_getN (D := (dC, dI)) (ci := 1) (C := RX1) (T := TX1) (N := 2) hx hb hts inX1 hown hK hP 1 rfl rfl 0 (by decide) (hnw.use 1 rfl) (fun _ h9 => h9) rfl dX2_onesOfSort_53 ?_
          refine ro_l (va_runS ⟨hx, hb, hml, hown, hts⟩ (c_X2_lowBits l ) (va_cwS 1 hts gX2_onesOfSort_X2_lowBits rfl rfl rfl kd_X2_lowBits ⟨Nat.le_of_ble_eq_true rfl, Nat.le_of_ble_eq_true rfl⟩) preS0 rfl rfl hl.1 rfl (lv_room (Nat.le_of_ble_eq_true rfl)) dX2_onesOfSort_56 ⟨Nat.zero_le _, Nat.zero_le _⟩) ?_
          refine lv_land hx hb dX2_onesOfSort_59 ?_
          refine ro_i (va_runS ⟨hx, hb, hml, hown, hts⟩ (c_J13_bitCount_95d88 l ) (va_cwS 1 hts gX2_onesOfSort_J13_bitCount_95d88 rfl rfl rfl kd_J13_bitCount_95d88 ⟨Nat.le_of_ble_eq_true rfl, Nat.le_of_ble_eq_true rfl⟩) preS0 rfl rfl hl.1 rfl (lv_room (Nat.le_of_ble_eq_true rfl)) dX2_onesOfSort_60 ⟨Nat.zero_le _, Nat.zero_le _⟩) ?_
          exact W.iret hx hb hr (fun t ht _ => ri (by unfold f_sort; first | rw [if_pos hs1, if_pos hs2] | rw [if_pos hs1, if_neg hs2] | rw [if_neg hs1, if_pos hs2] | rw [if_neg hs1, if_neg hs2]) ht) no_locs dX2_onesOfSort_63
theorem kd_X2_dueOnes : yX2_dueOnes.cls ≠ "java/lang/invoke/MethodHandle" ∧ yX2_dueOnes.cls ≠ "java/lang/invoke/VarHandle" ∧ (parseMethodDescriptor yX2_dueOnes.desc).map (fun d => d.parameters.length) = some 3 := by decide +kernel
set_option maxHeartbeats 4000000 in
set_option maxRecDepth 100000 in
theorem c_X2_dueOnes (l : Launch) {dC : Nat → ClassId} {dI : Nat → Nat → Nat} {ad : Nat → Nat} {cI cJ : ClassId} {ln : Int32} {fg : Int32} {dg : Int32} {sc : Int32} {ms : Int32} {mi : Int32} {mv : Int32} {mw : Int32} {st : (Nat → Int64)} {fr : (Nat → Int64)} {sr : (Nat → Int64)} {pa : (Nat → Int64)} {nu : (Nat → Int32)} {a0 a1 a2 : Int32} : Met l yX2_dueOnes wsX2_dueOnes ({ frames := 0, cells := 0, slots := 0, locals := 0 }) (va_Pc ([.ref (ad 0), .int a0, .int a1, .int a2] : List Value) (gB (dC, dI) (tyw cI cJ) (xw ad cI cJ ln fg dg sc ms mi mv mw st fr sr pa nu))) (QcRead (f_due ln a0 a1 a2)) 0 0 (fun _ => False) := by
  refine Met.ofW (cc := cX2_dueOnes) (maxL := 5) (ret := (some .int)) (by decide) rfl ?_
  intro p e s m args below meth c s₁ B hml hv
  obtain ⟨rfl, hnw, hK, hP⟩ := hv
  have hx := B.exec
  have hb := B.bytes
  have hr := B.returns
  have hts := atoms_spec (ws := wsX2_dueOnes) B.pre
  have hown : s.vm.findClass RX2 = some m.cls := findClass_of_methodNamed B.named
  have hlocks := B.notSynchronized
  have hw0 := hts (.fieldLink RX2 10 "BitStreams" "rows" "LBitStreams$Rows;") (by decide +kernel)
  have inX1 : ∀ w ∈ wsX10, w ∈ wsX2_dueOnes := by decide +kernel
  have inX2 : ∀ w ∈ wsX20, w ∈ wsX2_dueOnes := by decide +kernel
  have hl := lv_entry ([.ref (ad 0), .int a0, .int a1, .int a2] : List Value) (n := 5) (Nat.le_of_ble_eq_true rfl)
  rw [lg_entry_eq]
  generalize (lg_sl ([.ref (ad 0), .int a0, .int a1, .int a2] : List Value) ++ List.replicate (5 - (lg_sl ([.ref (ad 0), .int a0, .int a1, .int a2] : List Value)).length) Slot.unset).toArray = ls at hl ⊢
  have hl : lv_has ls 5 [(0, .ref (ad 0)), (1, .int a0), (2, .int a1), (3, .int a2)] := hl
  refine lv_aload_n hx hb dX2_dueOnes_0 rfl (lv_at hl 0 rfl) ?_
  refine va_get (D := (dC, dI)) (ci := 2) (C := RX2) (T := TX2) (N := 10) hx hb hts inX2 hown hK hP 0 rfl rfl 0 (by decide) hw0 (fun _ h9 => h9) rfl dX2_dueOnes_1 ?_
  refine va_getN (D := (dC, dI)) (ci := 1) (C := RX1) (T := TX1) (N := 2) hx hb hts inX1 hown hK hP 1 rfl rfl 0 (by decide) (hnw.use 1 rfl) (fun _ h9 => h9) rfl dX2_dueOnes_4 ?_
  refine lv_istore (lv' := [(4, .int _), (0, .ref _), (1, .int _), (2, .int _), (3, .int _)]) hx hb dX2_dueOnes_7 hl (by decide) rfl (fun ls hl => ?_)
  refine lv_iload_n hx hb dX2_dueOnes_9 rfl (lv_at hl 2 rfl) ?_
  refine lv_topi (fun z_10 e_10 => ?_)
  by_cases n_10_0 : z_10 = 0
  · subst n_10_0
    refine lv_tableIn (off := 26) (tgt := 36) hx hb dX2_dueOnes_10 (by decide) (by decide) (by decide) (by decide) ?_
    refine lv_iload_n hx hb dX2_dueOnes_36 rfl (lv_at hl 3 rfl) ?_
    refine lv_iload_n hx hb dX2_dueOnes_37 rfl (lv_at hl 4 rfl) ?_
    refine lv_imul hx hb dX2_dueOnes_38 ?_
    exact W.iret hx hb hr (fun t ht _ => ri (by rw [← e_10]; first | rfl | (unfold f_due; rw [if_neg n_10_0, if_neg n_10_1, if_neg n_10_2])) ht) no_locs dX2_dueOnes_39
  by_cases n_10_1 : z_10 = 1
  · subst n_10_1
    refine lv_tableIn (off := 30) (tgt := 40) hx hb dX2_dueOnes_10 (by decide) (by decide) (by decide) (by decide) ?_
    refine lv_iload hx hb dX2_dueOnes_40 (lv_at hl 0 rfl) ?_
    refine lv_iload_n hx hb dX2_dueOnes_42 rfl (lv_at hl 3 rfl) ?_
    refine lv_iload_n hx hb dX2_dueOnes_43 rfl (lv_at hl 4 rfl) ?_
    refine lv_iadd hx hb dX2_dueOnes_44 ?_
    refine lv_imul hx hb dX2_dueOnes_45 ?_
    refine lv_iload_n hx hb dX2_dueOnes_46 rfl (lv_at hl 3 rfl) ?_
    refine lv_iload_n hx hb dX2_dueOnes_47 rfl (lv_at hl 4 rfl) ?_
    refine lv_imul hx hb dX2_dueOnes_48 ?_
    refine lv_isub hx hb dX2_dueOnes_49 ?_
    exact W.iret hx hb hr (fun t ht _ => ri (by rw [← e_10]; first | rfl | (unfold f_due; rw [if_neg n_10_0, if_neg n_10_1, if_neg n_10_2])) ht) no_locs dX2_dueOnes_50
  by_cases n_10_2 : z_10 = 2
  · subst n_10_2
    refine lv_tableIn (off := 41) (tgt := 51) hx hb dX2_dueOnes_10 (by decide) (by decide) (by decide) (by decide) ?_
    refine lv_iload hx hb dX2_dueOnes_51 (lv_at hl 0 rfl) ?_
    refine lv_iload_n hx hb dX2_dueOnes_53 rfl (lv_at hl 3 rfl) ?_
    refine lv_iload_n hx hb dX2_dueOnes_54 rfl (lv_at hl 4 rfl) ?_
    refine lv_iadd hx hb dX2_dueOnes_55 ?_
    refine lv_imul hx hb dX2_dueOnes_56 ?_
    refine lv_iconst (v := 2) hx hb dX2_dueOnes_57 (by decide) ?_
    refine lv_iload_n hx hb dX2_dueOnes_58 rfl (lv_at hl 3 rfl) ?_
    refine lv_imul hx hb dX2_dueOnes_59 ?_
    refine lv_iload_n hx hb dX2_dueOnes_60 rfl (lv_at hl 4 rfl) ?_
    refine lv_imul hx hb dX2_dueOnes_61 ?_
    refine lv_isub hx hb dX2_dueOnes_62 ?_
    exact W.iret hx hb hr (fun t ht _ => ri (by rw [← e_10]; first | rfl | (unfold f_due; rw [if_neg n_10_0, if_neg n_10_1, if_neg n_10_2])) ht) no_locs dX2_dueOnes_63
  have nb_10 : z_10.toInt < 0 ∨ 2 < z_10.toInt := by
    have q0 := lv_neT (a := 0) n_10_0 (by decide)
    have q1 := lv_neT (a := 1) n_10_1 (by decide)
    have q2 := lv_neT (a := 2) n_10_2 (by decide)
    omega
  refine lv_tableOut (tgt := 64) hx hb dX2_dueOnes_10 nb_10 (by decide) ?_
  refine lv_iload hx hb dX2_dueOnes_64 (lv_at hl 0 rfl) ?_
  refine lv_iload hx hb dX2_dueOnes_66 (lv_at hl 0 rfl) ?_
  refine lv_imul hx hb dX2_dueOnes_68 ?_
  refine lv_iload hx hb dX2_dueOnes_69 (lv_at hl 0 rfl) ?_
  refine lv_iload_n hx hb dX2_dueOnes_71 rfl (lv_at hl 3 rfl) ?_
  refine lv_iload_n hx hb dX2_dueOnes_72 rfl (lv_at hl 4 rfl) ?_
  refine lv_iadd hx hb dX2_dueOnes_73 ?_
  refine lv_imul hx hb dX2_dueOnes_74 ?_
  refine lv_iconst (v := 2) hx hb dX2_dueOnes_75 (by decide) ?_
  refine lv_iload_n hx hb dX2_dueOnes_76 rfl (lv_at hl 3 rfl) ?_
  refine lv_imul hx hb dX2_dueOnes_77 ?_
  refine lv_iload_n hx hb dX2_dueOnes_78 rfl (lv_at hl 4 rfl) ?_
  refine lv_imul hx hb dX2_dueOnes_79 ?_
  refine lv_isub hx hb dX2_dueOnes_80 ?_
  refine lv_isub hx hb dX2_dueOnes_81 ?_
  exact W.iret hx hb hr (fun t ht _ => ri (by rw [← e_10]; first | rfl | (unfold f_due; rw [if_neg n_10_0, if_neg n_10_1, if_neg n_10_2])) ht) no_locs dX2_dueOnes_82
theorem kd_X1_setLength : yX1_setLength.cls ≠ "java/lang/invoke/MethodHandle" ∧ yX1_setLength.cls ≠ "java/lang/invoke/VarHandle" ∧ (parseMethodDescriptor yX1_setLength.desc).map (fun d => d.parameters.length) = some 1 := by decide +kernel
set_option maxHeartbeats 4000000 in
set_option maxRecDepth 100000 in
theorem c_X1_setLength (l : Launch) {dC : Nat → ClassId} {dI : Nat → Nat → Nat} {ad : Nat → Nat} {cI cJ : ClassId} {ln : Int32} {fg : Int32} {dg : Int32} {sc : Int32} {ms : Int32} {mi : Int32} {mv : Int32} {mw : Int32} {st : (Nat → Int64)} {fr : (Nat → Int64)} {sr : (Nat → Int64)} {pa : (Nat → Int64)} {nu : (Nat → Int32)} {sz : Nat} {a0 : Int32} : Met l yX1_setLength wsX1_setLength ({ frames := 1, cells := 0, slots := 0, locals := 20 }) (va_Pc ([.ref (ad 1), .int a0] : List Value) (gW sz (dC, dI) (tyw cI cJ) (xw ad cI cJ ln fg dg sc ms mi mv mw st fr sr pa nu))) (va_Qv (fun _u : Unit => True) (fun _u t => va_P (dC, dI) vwCl (xw ad cI cJ a0 (f_bci (a0 - 1)) dg sc ms mi mv mw st fr sr pa nu) t.heap) (va_A (xw ad cI cJ ln fg dg sc ms mi mv mw st fr sr pa nu) sz)) 0 0 (va_A (xw ad cI cJ ln fg dg sc ms mi mv mw st fr sr pa nu) sz) := by
  refine Met.ofW (cc := cX1_setLength) (maxL := 2) (ret := none) (by decide) rfl ?_
  intro p e s m args below meth c s₁ B hml hv
  obtain ⟨rfl, hsz, ⟨hnw, hK, hP⟩, hD0⟩ := hv
  have hx := B.exec
  have hb := B.bytes
  have hr := B.returns
  have hts := atoms_spec (ws := wsX1_setLength) B.pre
  have hown : s.vm.findClass RX1 = some m.cls := findClass_of_methodNamed B.named
  have hlocks := B.notSynchronized
  subst hsz
  have hD := hD0.self (sz := s.heap.size)
  generalize hAe : va_A (xw ad cI cJ ln fg dg sc ms mi mv mw st fr sr pa nu) s.heap.size = A at hD ⊢
  have hA : ∀ q : Nat, s.heap.size ≤ q → A q := fun q h => by rw [← hAe]; exact Or.inr h
  have hS : va_S A s.heap s.heap [] := va_S.rf
  have hw0 := hts (.fieldLink RX1 9 "BitStreams$Rows" "length" "I") (by decide +kernel)
  have hw1 := hts (.fieldLink RX1 21 "BitStreams$Rows" "figures" "I") (by decide +kernel)
  have inX1 : ∀ w ∈ wsX10, w ∈ wsX1_setLength := by decide +kernel
  have hl := lv_entry ([.ref (ad 1), .int a0] : List Value) (n := 2) (Nat.le_of_ble_eq_true rfl)
  rw [lg_entry_eq]
  generalize (lg_sl ([.ref (ad 1), .int a0] : List Value) ++ List.replicate (2 - (lg_sl ([.ref (ad 1), .int a0] : List Value)).length) Slot.unset).toArray = ls at hl ⊢
  have hl : lv_has ls 2 [(0, .ref (ad 1)), (1, .int a0)] := hl
  refine lv_aload_n hx hb dX1_setLength_0 rfl (lv_at hl 0 rfl) ?_
  refine lv_iload_n hx hb dX1_setLength_1 rfl (lv_at hl 1 rfl) ?_
  refine va_put (D := (dC, dI)) (ci := 1) (ty := .int) (C := RX1) (T := TX1) (N := 2) hx hb hts inX1 tyX1 tyX1_ok nmX1 hown hK hP hD hS 1 rfl rfl 0 (by decide) hw0 (fun _ h9 => h9) rfl (by decide +kernel) rfl rfl (Nat.le_of_ble_eq_true rfl) dX1_setLength_2 (fun H locs hP hD hS => ?_)
  have hP : va_P (dC, dI) vwCl (xw ad cI cJ _ fg dg sc ms mi mv mw st fr sr pa nu) H := hP
  have hD : va_D A (xw ad cI cJ _ fg dg sc ms mi mv mw st fr sr pa nu) := va_D_addr hD rfl
  refine lv_aload_n hx hb dX1_setLength_5 rfl (lv_at hl 0 rfl) ?_
  refine lv_iload_n hx hb dX1_setLength_6 rfl (lv_at hl 1 rfl) ?_
  refine lv_iconst (v := 1) hx hb dX1_setLength_7 (by decide) ?_
  refine lv_isub hx hb dX1_setLength_8 ?_
  refine ro_i (va_runS ⟨hx, hb, hml, hown, hts⟩ (c_J6_bitCount_0f7a4 l ) (va_cwS 1 hts gX1_setLength_J6_bitCount_0f7a4 rfl rfl rfl kd_J6_bitCount_0f7a4 ⟨Nat.le_of_ble_eq_true rfl, Nat.le_of_ble_eq_true rfl⟩) preS0 rfl rfl hl.1 rfl (lv_room (Nat.le_of_ble_eq_true rfl)) dX1_setLength_9 ⟨Nat.zero_le _, Nat.zero_le _⟩) ?_
  refine va_put (D := (dC, dI)) (ci := 1) (ty := .int) (C := RX1) (T := TX1) (N := 2) hx hb hts inX1 tyX1 tyX1_ok nmX1 hown hK hP hD hS 1 rfl rfl 1 (by decide) hw1 (fun _ h9 => h9) rfl (by decide +kernel) rfl rfl (Nat.le_of_ble_eq_true rfl) dX1_setLength_12 (fun H locs hP hD hS => ?_)
  have hP : va_P (dC, dI) vwCl (xw ad cI cJ _ _ dg sc ms mi mv mw st fr sr pa nu) H := hP
  have hD : va_D A (xw ad cI cJ _ _ dg sc ms mi mv mw st fr sr pa nu) := va_D_addr hD rfl
  exact W.vret hx hb hr (fun t ht _ => ⟨⟨(), rfl, trivial, wpost ht hP⟩, hS.F ht⟩) hS.2.2 dX1_setLength_15
theorem kd_X0_setDegree : yX0_setDegree.cls ≠ "java/lang/invoke/MethodHandle" ∧ yX0_setDegree.cls ≠ "java/lang/invoke/VarHandle" ∧ (parseMethodDescriptor yX0_setDegree.desc).map (fun d => d.parameters.length) = some 2 := by decide +kernel
set_option maxHeartbeats 4000000 in
set_option maxRecDepth 100000 in
theorem c_X0_setDegree (l : Launch) {dC : Nat → ClassId} {dI : Nat → Nat → Nat} {ad : Nat → Nat} {cI cJ : ClassId} {ln : Int32} {fg : Int32} {dg : Int32} {sc : Int32} {ms : Int32} {mi : Int32} {mv : Int32} {mw : Int32} {st : (Nat → Int64)} {fr : (Nat → Int64)} {sr : (Nat → Int64)} {pa : (Nat → Int64)} {nu : (Nat → Int32)} {sz : Nat} {a1 : Int32} {d : Nat} (hd : d ≤ 4) : Met l yX0_setDegree wsX0_setDegree ({ frames := 0, cells := 0, slots := 0, locals := 0 }) (va_Pc ([.ref (ad 2), .int (nI d), .int a1] : List Value) (gW sz (dC, dI) (tyw cI cJ) (xw ad cI cJ ln fg dg sc ms mi mv mw st fr sr pa nu))) (va_Qv (fun u : (Nat → Int32) => ∀ i, u i = if d < i ∧ i < 5 then 0 else nu i) (fun u t => va_P (dC, dI) vwCl (xw ad cI cJ ln fg (nI d) a1 ms mi mv mw st fr sr pa u) t.heap) (va_A (xw ad cI cJ ln fg dg sc ms mi mv mw st fr sr pa nu) sz)) 0 0 (va_A (xw ad cI cJ ln fg dg sc ms mi mv mw st fr sr pa nu) sz) := by
  refine Met.ofW (cc := cX0_setDegree) (maxL := 4) (ret := none) (by decide) rfl ?_
  intro p e s m args below meth c s₁ B hml hv
  obtain ⟨rfl, hsz, ⟨hnw, hK, hP⟩, hD0⟩ := hv
  have hx := B.exec
  have hb := B.bytes
  have hr := B.returns
  have hts := atoms_spec (ws := wsX0_setDegree) B.pre
  have hown : s.vm.findClass RX0 = some m.cls := findClass_of_methodNamed B.named
  have hlocks := B.notSynchronized
  subst hsz
  have hD := hD0.self (sz := s.heap.size)
  generalize hAe : va_A (xw ad cI cJ ln fg dg sc ms mi mv mw st fr sr pa nu) s.heap.size = A at hD ⊢
  have hA : ∀ q : Nat, s.heap.size ≤ q → A q := fun q h => by rw [← hAe]; exact Or.inr h
  have hS : va_S A s.heap s.heap [] := va_S.rf
  have hw0 := hts (.fieldLink RX0 15 "BitStreams$Form" "degree" "I") (by decide +kernel)
  have hw1 := hts (.fieldLink RX0 19 "BitStreams$Form" "scale" "I") (by decide +kernel)
  have hw2 := hts (.fieldLink RX0 9 "BitStreams$Form" "numbers" "[I") (by decide +kernel)
  have inX0 : ∀ w ∈ wsX00, w ∈ wsX0_setDegree := by decide +kernel
  have hl := lv_entry ([.ref (ad 2), .int (nI d), .int a1] : List Value) (n := 4) (Nat.le_of_ble_eq_true rfl)
  rw [lg_entry_eq]
  generalize (lg_sl ([.ref (ad 2), .int (nI d), .int a1] : List Value) ++ List.replicate (4 - (lg_sl ([.ref (ad 2), .int (nI d), .int a1] : List Value)).length) Slot.unset).toArray = ls at hl ⊢
  have hl : lv_has ls 4 [(0, .ref (ad 2)), (1, .int (nI d)), (2, .int a1)] := hl
  refine lv_aload_n hx hb dX0_setDegree_0 rfl (lv_at hl 0 rfl) ?_
  refine lv_iload_n hx hb dX0_setDegree_1 rfl (lv_at hl 1 rfl) ?_
  refine va_put (D := (dC, dI)) (ci := 0) (ty := .int) (C := RX0) (T := TX0) (N := 3) hx hb hts inX0 tyX0 tyX0_ok nmX0 hown hK hP hD hS 2 rfl rfl 1 (by decide) hw0 (fun _ h9 => h9) rfl (by decide +kernel) rfl rfl (Nat.le_of_ble_eq_true rfl) dX0_setDegree_2 (fun H locs hP hD hS => ?_)
  have hP : va_P (dC, dI) vwCl (xw ad cI cJ ln fg (nI d) sc ms mi mv mw st fr sr pa nu) H := hP
  have hD : va_D A (xw ad cI cJ ln fg (nI d) sc ms mi mv mw st fr sr pa nu) := va_D_addr hD rfl
  refine lv_aload_n hx hb dX0_setDegree_5 rfl (lv_at hl 0 rfl) ?_
  refine lv_iload_n hx hb dX0_setDegree_6 rfl (lv_at hl 2 rfl) ?_
  refine va_put (D := (dC, dI)) (ci := 0) (ty := .int) (C := RX0) (T := TX0) (N := 3) hx hb hts inX0 tyX0 tyX0_ok nmX0 hown hK hP hD hS 2 rfl rfl 2 (by decide) hw1 (fun _ h9 => h9) rfl (by decide +kernel) rfl rfl (Nat.le_of_ble_eq_true rfl) dX0_setDegree_7 (fun H locs hP hD hS => ?_)
  have hP : va_P (dC, dI) vwCl (xw ad cI cJ ln fg (nI d) a1 ms mi mv mw st fr sr pa nu) H := hP
  have hD : va_D A (xw ad cI cJ ln fg (nI d) a1 ms mi mv mw st fr sr pa nu) := va_D_addr hD rfl
  refine lv_iload_n hx hb dX0_setDegree_10 rfl (lv_at hl 1 rfl) ?_
  refine lv_iconst (v := 1) hx hb dX0_setDegree_11 (by decide) ?_
  refine lv_iadd hx hb dX0_setDegree_12 ?_
  refine st_i (v := nI (d + 1)) (nI_1 _) ?_
  refine lv_istore_n (lv' := [(3, .int _), (0, .ref _), (1, .int _), (2, .int _)]) hx hb dX0_setDegree_13 rfl hl (by decide) rfl (fun ls hl => ?_)
  have L14 : ∀ (n14 : Nat) (k : Nat) (u : Nat → Int32), 6 ≤ k + n14 → (k ≤ 5) → (d + 1 ≤ k) → (∀ i, u i = if d < i ∧ i < k then 0 else nu i) → ∀ (H : Heap) (locs : List Loc), va_P (dC, dI) vwCl (xw ad cI cJ ln fg (nI d) a1 ms mi mv mw st fr sr pa u) H → va_S A s.heap H locs → ∀ (ls : Array Slot), lv_has ls 4 [(0, .ref (ad 2)), (1, .int (nI d)), (2, .int a1), (3, .int (nI k))] → W p l e { frames := 0, cells := 0, slots := 0, locals := 0 } s m ([.ref (ad 2), .int (nI d), .int a1] : List Value).toArray below meth c H locs 0 0 (MQ below (va_Qv (fun u : (Nat → Int32) => ∀ i, u i = if d < i ∧ i < 5 then 0 else nu i) (fun u t => va_P (dC, dI) vwCl (xw ad cI cJ ln fg (nI d) a1 ms mi mv mw st fr sr pa u) t.heap) A) ([.ref (ad 2), .int (nI d), .int a1] : List Value).toArray s 0 0 (A)) (F0 m 14 ls []) := by
    intro n14
    induction n14 with
    | zero =>
      intro k u hf14 hk hk0 hu
      exact absurd hf14 (by omega)
    | succ n14 ih14 =>
      intro k u hf14 hk hk0 hu H locs hP hS ls hl
      have hD : va_D A (xw ad cI cJ ln fg (nI d) a1 ms mi mv mw st fr sr pa u) := va_D_addr hD rfl
      refine lv_iload_n hx hb dX0_setDegree_14 rfl (lv_at hl 3 rfl) ?_
      refine lv_iconst (v := 4) hx hb dX0_setDegree_15 (by decide) ?_
      refine lv_icmp_gt (tgt := 32) hx hb dX0_setDegree_16 (by decide) (fun c_16 => ?_) (fun c_16 => ?_)
      · skip
        have hz : k = 5 := nI_nlt_end (k := k) (n := 4) (by omega) (by omega) c_16
        exact W.vret hx hb hr (fun t ht _ => ⟨⟨u, rfl, (by rw [← hz]; exact hu), wpost ht hP⟩, hS.F ht⟩) hS.2.2 dX0_setDegree_32
      · skip
        have hz : k ≤ 4 := nI_nlt_go (k := k) (n := 4) (by omega) (by omega) c_16
        refine lv_aload_n hx hb dX0_setDegree_19 rfl (lv_at hl 0 rfl) ?_
        refine va_get (D := (dC, dI)) (ci := 0) (C := RX0) (T := TX0) (N := 3) hx hb hts inX0 hown hK hP 2 rfl rfl 0 (by decide) hw2 (fun _ h9 => h9) rfl dX0_setDegree_20 ?_
        refine lv_iload_n hx hb dX0_setDegree_23 rfl (lv_at hl 3 rfl) ?_
        refine lv_iconst (v := 0) hx hb dX0_setDegree_24 (by decide) ?_
        refine va_iast hx hb hK hP hD hS 7 0 rfl rfl (vp_in_nI (by omega) (by omega)) dX0_setDegree_25 (fun H locs hP hD hS => ?_)
        have hP : va_P (dC, dI) vwCl (xw ad cI cJ ln fg (nI d) a1 ms mi mv mw st fr sr pa _) H := hP
        have hD : va_D A (xw ad cI cJ ln fg (nI d) a1 ms mi mv mw st fr sr pa _) := va_D_addr hD rfl
        refine lv_iinc (lv' := [(3, .int (nI (k + 1))), (0, .ref _), (1, .int _), (2, .int _)]) hx hb dX0_setDegree_26 hl (k := 3) rfl (nI_1 _) (by decide) rfl (fun ls hl => ?_)
        refine lv_goto (tgt := 14) hx hb dX0_setDegree_29 (by decide) ?_
        exact ih14 (k + 1) _ (by omega) (by omega) (by omega) (fun i => by rw [nI_cl (by omega)]; exact sd_step (by omega) hu i) _ _ hP hS ls (lv_sub hl [1, 2, 3, 0] rfl)
  exact L14 6 (d + 1) nu (by omega) (by omega) (by omega) (fun i => by rw [if_neg (by omega)]) _ _ hP hS ls (lv_sub hl [1, 2, 3, 0] rfl)
theorem kd_X2_setStream : yX2_setStream.cls ≠ "java/lang/invoke/MethodHandle" ∧ yX2_setStream.cls ≠ "java/lang/invoke/VarHandle" ∧ (parseMethodDescriptor yX2_setStream.desc).map (fun d => d.parameters.length) = some 2 := by decide +kernel
set_option maxHeartbeats 4000000 in
set_option maxRecDepth 100000 in
theorem c_X2_setStream (l : Launch) {dC : Nat → ClassId} {dI : Nat → Nat → Nat} {ad : Nat → Nat} {cI cJ : ClassId} {ln : Int32} {fg : Int32} {dg : Int32} {sc : Int32} {ms : Int32} {mi : Int32} {mv : Int32} {mw : Int32} {st : (Nat → Int64)} {fr : (Nat → Int64)} {sr : (Nat → Int64)} {pa : (Nat → Int64)} {nu : (Nat → Int32)} {sz : Nat} {a0 : Int32} {a1 : Int64} (ht : vp_in a0 12) : Met l yX2_setStream wsX2_setStream ({ frames := 1, cells := 0, slots := 0, locals := 21 }) (va_Pc ([.ref (ad 0), .int a0, .long a1] : List Value) (gW sz (dC, dI) (tyw cI cJ) (xw ad cI cJ ln fg dg sc ms mi mv mw st fr sr pa nu))) (va_Qi (fun r (_u : Unit) => r = f_bc (a1 &&& f_low ln)) (fun _u t => va_P (dC, dI) vwCl (xw ad cI cJ ln fg dg sc ms mi mv mw (vp_updL st a0.toNatClampNeg (a1 &&& f_low ln)) fr sr pa nu) t.heap) (va_A (xw ad cI cJ ln fg dg sc ms mi mv mw st fr sr pa nu) sz)) 0 0 (va_A (xw ad cI cJ ln fg dg sc ms mi mv mw st fr sr pa nu) sz) := by
  refine Met.ofW (cc := cX2_setStream) (maxL := 4) (ret := (some .int)) (by decide) rfl ?_
  intro p e s m args below meth c s₁ B hml hv
  obtain ⟨rfl, hsz, ⟨hnw, hK, hP⟩, hD0⟩ := hv
  have hx := B.exec
  have hb := B.bytes
  have hr := B.returns
  have hts := atoms_spec (ws := wsX2_setStream) B.pre
  have hown : s.vm.findClass RX2 = some m.cls := findClass_of_methodNamed B.named
  have hlocks := B.notSynchronized
  subst hsz
  have hD := hD0.self (sz := s.heap.size)
  generalize hAe : va_A (xw ad cI cJ ln fg dg sc ms mi mv mw st fr sr pa nu) s.heap.size = A at hD ⊢
  have hA : ∀ q : Nat, s.heap.size ≤ q → A q := fun q h => by rw [← hAe]; exact Or.inr h
  have hS : va_S A s.heap s.heap [] := va_S.rf
  have hw0 := hts (.fieldLink RX2 23 "BitStreams" "streams" "[J") (by decide +kernel)
  have hw1 := hts (.fieldLink RX2 10 "BitStreams" "rows" "LBitStreams$Rows;") (by decide +kernel)
  have inX1 : ∀ w ∈ wsX10, w ∈ wsX2_setStream := by decide +kernel
  have inX2 : ∀ w ∈ wsX20, w ∈ wsX2_setStream := by decide +kernel
  have hl := lv_entry ([.ref (ad 0), .int a0, .long a1] : List Value) (n := 4) (Nat.le_of_ble_eq_true rfl)
  rw [lg_entry_eq]
  generalize (lg_sl ([.ref (ad 0), .int a0, .long a1] : List Value) ++ List.replicate (4 - (lg_sl ([.ref (ad 0), .int a0, .long a1] : List Value)).length) Slot.unset).toArray = ls at hl ⊢
  have hl : lv_has ls 4 [(0, .ref (ad 0)), (1, .int a0), (2, .long a1)] := hl
  refine lv_aload_n hx hb dX2_setStream_0 rfl (lv_at hl 0 rfl) ?_
  refine va_get (D := (dC, dI)) (ci := 2) (C := RX2) (T := TX2) (N := 10) hx hb hts inX2 hown hK hP 0 rfl rfl 2 (by decide) hw0 (fun _ h9 => h9) rfl dX2_setStream_1 ?_
  refine lv_iload_n hx hb dX2_setStream_4 rfl (lv_at hl 1 rfl) ?_
  refine lv_lload_n hx hb dX2_setStream_5 rfl (lv_at hl 2 rfl) ?_
  refine lv_aload_n hx hb dX2_setStream_6 rfl (lv_at hl 0 rfl) ?_
  refine va_get (D := (dC, dI)) (ci := 2) (C := RX2) (T := TX2) (N := 10) hx hb hts inX2 hown hK hP 0 rfl rfl 0 (by decide) hw1 (fun _ h9 => h9) rfl dX2_setStream_7 ?_
  refine va_getN (D := (dC, dI)) (ci := 1) (C := RX1) (T := TX1) (N := 2) hx hb hts inX1 hown hK hP 1 rfl rfl 0 (by decide) (hnw.use 1 rfl) (fun _ h9 => h9) rfl dX2_setStream_10 ?_
  refine ro_l (va_runS ⟨hx, hb, hml, hown, hts⟩ (c_X2_lowBits l ) (va_cwS 1 hts gX2_setStream_X2_lowBits rfl rfl rfl kd_X2_lowBits ⟨Nat.le_of_ble_eq_true rfl, Nat.le_of_ble_eq_true rfl⟩) preS0 rfl rfl hl.1 rfl (lv_room (Nat.le_of_ble_eq_true rfl)) dX2_setStream_13 ⟨Nat.zero_le _, Nat.zero_le _⟩) ?_
  refine lv_land hx hb dX2_setStream_16 ?_
  refine va_last hx hb hK hP hD hS 3 1 rfl rfl (ht) dX2_setStream_17 (fun H locs hP hD hS => ?_)
  have hP : va_P (dC, dI) vwCl (xw ad cI cJ ln fg dg sc ms mi mv mw _ fr sr pa nu) H := hP
  have hD : va_D A (xw ad cI cJ ln fg dg sc ms mi mv mw _ fr sr pa nu) := va_D_addr hD rfl
  refine lv_aload_n hx hb dX2_setStream_18 rfl (lv_at hl 0 rfl) ?_
  refine va_get (D := (dC, dI)) (ci := 2) (C := RX2) (T := TX2) (N := 10) hx hb hts inX2 hown hK hP 0 rfl rfl 2 (by decide) hw0 (fun _ h9 => h9) rfl dX2_setStream_19 ?_
  refine lv_iload_n hx hb dX2_setStream_22 rfl (lv_at hl 1 rfl) ?_
  refine va_lald hx hb hK hP 3 1 rfl rfl (ht) dX2_setStream_23 ?_
  refine st_l (v := a1 &&& f_low ln) (pk_uLs) ?_
  refine ro_i (va_runS ⟨hx, hb, hml, hown, hts⟩ (c_J13_bitCount_95d88 l ) (va_cwS 1 hts gX2_setStream_J13_bitCount_95d88 rfl rfl rfl kd_J13_bitCount_95d88 ⟨Nat.le_of_ble_eq_true rfl, Nat.le_of_ble_eq_true rfl⟩) preS0 rfl rfl hl.1 rfl (lv_room (Nat.le_of_ble_eq_true rfl)) dX2_setStream_24 ⟨Nat.zero_le _, Nat.zero_le _⟩) ?_
  exact W.iret hx hb hr (fun t ht _ => ⟨⟨_, (), rfl, rfl, wpost ht hP⟩, hS.F ht⟩) hS.2.2 dX2_setStream_27
theorem kd_X2_ranThrough : yX2_ranThrough.cls ≠ "java/lang/invoke/MethodHandle" ∧ yX2_ranThrough.cls ≠ "java/lang/invoke/VarHandle" ∧ (parseMethodDescriptor yX2_ranThrough.desc).map (fun d => d.parameters.length) = some 2 := by decide +kernel
set_option maxHeartbeats 4000000 in
set_option maxRecDepth 100000 in
theorem c_X2_ranThrough (l : Launch) {dC : Nat → ClassId} {dI : Nat → Nat → Nat} {ad : Nat → Nat} {cI cJ : ClassId} {ln : Int32} {fg : Int32} {dg : Int32} {sc : Int32} {ms : Int32} {mi : Int32} {mv : Int32} {mw : Int32} {st : (Nat → Int64)} {fr : (Nat → Int64)} {sr : (Nat → Int64)} {pa : (Nat → Int64)} {nu : (Nat → Int32)} {sz : Nat} {a0 : Int64} {a1 : Int32} : Met l yX2_ranThrough wsX2_ranThrough ({ frames := 1, cells := 0, slots := 0, locals := 23 }) (va_Pc ([.ref (ad 0), .long a0, .int a1] : List Value) (gW sz (dC, dI) (tyw cI cJ) (xw ad cI cJ ln fg dg sc ms mi mv mw st fr sr pa nu))) (va_Ql (fun r (_u : Unit) => r = f_mrow a0 a1 ln.toNatClampNeg) (fun _u t => va_P (dC, dI) vwCl (xw ad cI cJ ln fg dg sc (f_mst a0 a1 ln.toNatClampNeg) mi mv mw st fr sr pa nu) t.heap) (va_A (xw ad cI cJ ln fg dg sc ms mi mv mw st fr sr pa nu) sz)) 0 0 (va_A (xw ad cI cJ ln fg dg sc ms mi mv mw st fr sr pa nu) sz) := by
  refine Met.ofW (cc := cX2_ranThrough) (maxL := 8) (ret := (some .long)) (by decide) rfl ?_
  intro p e s m args below meth c s₁ B hml hv
  obtain ⟨rfl, hsz, ⟨hnw, hK, hP⟩, hD0⟩ := hv
  have hx := B.exec
  have hb := B.bytes
  have hr := B.returns
  have hts := atoms_spec (ws := wsX2_ranThrough) B.pre
  have hown : s.vm.findClass RX2 = some m.cls := findClass_of_methodNamed B.named
  have hlocks := B.notSynchronized
  subst hsz
  have hD := hD0.self (sz := s.heap.size)
  generalize hAe : va_A (xw ad cI cJ ln fg dg sc ms mi mv mw st fr sr pa nu) s.heap.size = A at hD ⊢
  have hA : ∀ q : Nat, s.heap.size ≤ q → A q := fun q h => by rw [← hAe]; exact Or.inr h
  have hS : va_S A s.heap s.heap [] := va_S.rf
  have hw0 := hts (.fieldLink RX2 10 "BitStreams" "rows" "LBitStreams$Rows;") (by decide +kernel)
  have hw1 := hts (.fieldLink RX2 36 "BitStreams" "machineState" "I") (by decide +kernel)
  have hw2 := hts (.methodLink RX2 116 Lib.Math.max.name) (by decide +kernel)
  have hw3 := hts (.static Lib.Math.max.name) (by decide +kernel)
  have hw4 := hts (.initialized "java/lang/Math") (by decide +kernel)
  have hw5 := hts (.code Lib.Math.max.name Lib.Math.max.code 2 (some .int)) (by decide +kernel)
  have hw6 := hts (.methodLink RX2 110 Lib.Math.min.name) (by decide +kernel)
  have hw7 := hts (.static Lib.Math.min.name) (by decide +kernel)
  have hw8 := hts (.code Lib.Math.min.name Lib.Math.min.code 2 (some .int)) (by decide +kernel)
  have inX1 : ∀ w ∈ wsX10, w ∈ wsX2_ranThrough := by decide +kernel
  have inX2 : ∀ w ∈ wsX20, w ∈ wsX2_ranThrough := by decide +kernel
  have hl := lv_entry ([.ref (ad 0), .long a0, .int a1] : List Value) (n := 8) (Nat.le_of_ble_eq_true rfl)
  rw [lg_entry_eq]
  generalize (lg_sl ([.ref (ad 0), .long a0, .int a1] : List Value) ++ List.replicate (8 - (lg_sl ([.ref (ad 0), .long a0, .int a1] : List Value)).length) Slot.unset).toArray = ls at hl ⊢
  have hl : lv_has ls 8 [(0, .ref (ad 0)), (1, .long a0), (3, .int a1)] := hl
  refine lv_iload_n hx hb dX2_ranThrough_0 rfl (lv_at hl 2 rfl) ?_
  refine lv_iconst (v := 2) hx hb dX2_ranThrough_1 (by decide) ?_
  refine lv_idiv hx hb dX2_ranThrough_2 (by decide) ?_
  refine lv_iconst (v := 1) hx hb dX2_ranThrough_3 (by decide) ?_
  refine lv_isub hx hb dX2_ranThrough_4 ?_
  refine lv_istore (lv' := [(4, .int _), (0, .ref _), (1, .long _), (3, .int _)]) hx hb dX2_ranThrough_5 hl (by decide) rfl (fun ls hl => ?_)
  refine lv_lconst (v := 0) hx hb dX2_ranThrough_7 (by decide) ?_
  refine lv_lstore (lv' := [(5, .long _), (4, .int _), (0, .ref _), (1, .long _), (3, .int _)]) hx hb dX2_ranThrough_8 hl (by decide) rfl (fun ls hl => ?_)
  refine lv_iconst (v := 0) hx hb dX2_ranThrough_10 (by decide) ?_
  refine lv_istore (lv' := [(7, .int _), (5, .long _), (4, .int _), (0, .ref _), (1, .long _), (3, .int _)]) hx hb dX2_ranThrough_11 hl (by decide) rfl (fun ls hl => ?_)
  have L13 : ∀ (n13 : Nat) (k : Nat) (now : Int32) (own : Int64), ln.toNatClampNeg + 1 ≤ k + n13 → (k ≤ ln.toNatClampNeg) → (now = f_mst a0 a1 k) → (own = f_mrow a0 a1 k) → ∀ (H : Heap) (locs : List Loc), va_P (dC, dI) vwCl (xw ad cI cJ ln fg dg sc ms mi mv mw st fr sr pa nu) H → va_S A s.heap H locs → ∀ (ls : Array Slot), lv_has ls 8 [(0, .ref (ad 0)), (1, .long a0), (3, .int a1), (4, .int now), (5, .long own), (7, .int (nI k))] → W p l e { frames := 1, cells := 0, slots := 0, locals := 23 } s m ([.ref (ad 0), .long a0, .int a1] : List Value).toArray below meth c H locs 0 0 (MQ below (va_Ql (fun r (_u : Unit) => r = f_mrow a0 a1 ln.toNatClampNeg) (fun _u t => va_P (dC, dI) vwCl (xw ad cI cJ ln fg dg sc (f_mst a0 a1 ln.toNatClampNeg) mi mv mw st fr sr pa nu) t.heap) A) ([.ref (ad 0), .long a0, .int a1] : List Value).toArray s 0 0 (A)) (F0 m 13 ls []) := by
    intro n13
    induction n13 with
    | zero =>
      intro k now own hf13 hk hnow hwn
      exact absurd hf13 (by omega)
    | succ n13 ih13 =>
      intro k now own hf13 hk hnow hwn H locs hP hS ls hl
      have hD : va_D A (xw ad cI cJ ln fg dg sc ms mi mv mw st fr sr pa nu) := va_D_addr hD rfl
      refine lv_iload hx hb dX2_ranThrough_13 (lv_at hl 5 rfl) ?_
      refine lv_aload_n hx hb dX2_ranThrough_15 rfl (lv_at hl 0 rfl) ?_
      refine va_get (D := (dC, dI)) (ci := 2) (C := RX2) (T := TX2) (N := 10) hx hb hts inX2 hown hK hP 0 rfl rfl 0 (by decide) hw0 (fun _ h9 => h9) rfl dX2_ranThrough_16 ?_
      refine va_getN (D := (dC, dI)) (ci := 1) (C := RX1) (T := TX1) (N := 2) hx hb hts inX1 hown hK hP 1 rfl rfl 0 (by decide) (hnw.use 1 rfl) (fun _ h9 => h9) rfl dX2_ranThrough_19 ?_
      refine lv_icmp_ge (tgt := 82) hx hb dX2_ranThrough_22 (by decide) (fun c_22 => ?_) (fun c_22 => ?_)
      · skip
        have hz := cl_end hk c_22
        refine lv_aload_n hx hb dX2_ranThrough_82 rfl (lv_at hl 0 rfl) ?_
        refine lv_iload hx hb dX2_ranThrough_83 (lv_at hl 3 rfl) ?_
        refine st_i (v := f_mst a0 a1 ln.toNatClampNeg) (by rw [hz]; exact hnow) ?_
        refine va_put (D := (dC, dI)) (ci := 2) (ty := .int) (C := RX2) (T := TX2) (N := 10) hx hb hts inX2 tyX2 tyX2_ok nmX2 hown hK hP hD hS 0 rfl rfl 6 (by decide) hw1 (fun _ h9 => h9) rfl (by decide +kernel) rfl rfl (Nat.le_of_ble_eq_true rfl) dX2_ranThrough_85 (fun H locs hP hD hS => ?_)
        have hP : va_P (dC, dI) vwCl (xw ad cI cJ ln fg dg sc (f_mst a0 a1 ln.toNatClampNeg) mi mv mw st fr sr pa nu) H := hP
        have hD : va_D A (xw ad cI cJ ln fg dg sc (f_mst a0 a1 ln.toNatClampNeg) mi mv mw st fr sr pa nu) := va_D_addr hD rfl
        refine lv_lload hx hb dX2_ranThrough_88 (lv_at hl 4 rfl) ?_
        exact W.lret hx hb hr (fun t ht _ => ⟨⟨_, (), rfl, (by rw [hz]; exact hwn), wpost ht hP⟩, hS.F ht⟩) hS.2.2 dX2_ranThrough_90
      · skip
        refine lv_lload_n hx hb dX2_ranThrough_25 rfl (lv_at hl 1 rfl) ?_
        refine lv_iload hx hb dX2_ranThrough_26 (lv_at hl 5 rfl) ?_
        refine ro_i (va_runS ⟨hx, hb, hml, hown, hts⟩ (c_X2_bitOf l ) (va_cwS 2 hts gX2_ranThrough_X2_bitOf rfl rfl rfl kd_X2_bitOf ⟨Nat.le_of_ble_eq_true rfl, Nat.le_of_ble_eq_true rfl⟩) preS0 rfl rfl hl.1 rfl (lv_room (Nat.le_of_ble_eq_true rfl)) dX2_ranThrough_28 ⟨Nat.zero_le _, Nat.zero_le _⟩) ?_
        refine lv_iconst (v := 1) hx hb dX2_ranThrough_31 (by decide) ?_
        refine lv_icmp_ne (tgt := 48) hx hb dX2_ranThrough_32 (by decide) (fun c_32 => ?_) (fun c_32 => ?_)
        · skip
          refine lv_iload hx hb dX2_ranThrough_48 (lv_at hl 3 rfl) ?_
          refine lv_iconst (v := 1) hx hb dX2_ranThrough_50 (by decide) ?_
          refine lv_isub hx hb dX2_ranThrough_51 ?_
          refine lv_iconst (v := 0) hx hb dX2_ranThrough_52 (by decide) ?_
          refine va_mmax hx hb (by rw [hml]; exact hl.1.symm) hown hw2 hw3 hw4 hw5 (Nat.le_of_ble_eq_true rfl) (Nat.le_of_ble_eq_true rfl) (Nat.zero_le _) (Nat.zero_le _) dX2_ranThrough_53 ?_
          refine lv_topi (fun now1 en => ?_)
          have hn1 : now1 = f_mst a0 a1 (k + 1) := by rw [en, f_mst, hnow]; first | (rw [if_pos c_32]) | (rw [if_neg c_32])
          refine lv_istore (lv' := [(4, .int _), (0, .ref _), (1, .long _), (3, .int _), (5, .long _), (7, .int _)]) hx hb dX2_ranThrough_56 hl (by decide) rfl (fun ls hl => ?_)
          refine lv_iload hx hb dX2_ranThrough_58 (lv_at hl 0 rfl) ?_
          refine lv_iload_n hx hb dX2_ranThrough_60 rfl (lv_at hl 3 rfl) ?_
          refine ro_i (va_runS ⟨hx, hb, hml, hown, hts⟩ (c_X2_isUpper l ) (va_cwS 2 hts gX2_ranThrough_X2_isUpper rfl rfl rfl kd_X2_isUpper ⟨Nat.le_of_ble_eq_true rfl, Nat.le_of_ble_eq_true rfl⟩) preS0 rfl rfl hl.1 rfl (lv_room (Nat.le_of_ble_eq_true rfl)) dX2_ranThrough_61 ⟨Nat.zero_le _, Nat.zero_le _⟩) ?_
          refine lv_if_eq (tgt := 76) hx hb dX2_ranThrough_64 (by decide) (fun c_64 => ?_) (fun c_64 => ?_)
          · skip
            have c_64 := bI_eq.mp c_64
            refine lv_iinc (lv' := [(7, .int (nI (k + 1))), (4, .int _), (0, .ref _), (1, .long _), (3, .int _), (5, .long _)]) hx hb dX2_ranThrough_76 hl (k := 5) rfl (nI_1 _) (by decide) rfl (fun ls hl => ?_)
            refine lv_goto (tgt := 13) hx hb dX2_ranThrough_79 (by decide) ?_
            exact ih13 (k + 1) _ _ (by have := cl_go hk c_22; omega) (cl_go hk c_22) hn1 (by rw [f_mrow, ← hn1]; first | (rw [if_pos c_64, hwn]; rfl) | (rw [if_neg c_64]; exact hwn)) _ _ hP hS ls (lv_sub hl [2, 3, 4, 1, 5, 0] rfl)
          · skip
            have c_64 := bI_ne.mp c_64
            refine lv_lload hx hb dX2_ranThrough_67 (lv_at hl 4 rfl) ?_
            refine lv_lconst (v := 1) hx hb dX2_ranThrough_69 (by decide) ?_
            refine lv_iload hx hb dX2_ranThrough_70 (lv_at hl 5 rfl) ?_
            refine lv_lshl hx hb dX2_ranThrough_72 rfl ?_
            refine lv_lor hx hb dX2_ranThrough_73 ?_
            refine lv_lstore (lv' := [(5, .long _), (4, .int _), (0, .ref _), (1, .long _), (3, .int _), (7, .int _)]) hx hb dX2_ranThrough_74 hl (by decide) rfl (fun ls hl => ?_)
            refine lv_iinc (lv' := [(7, .int (nI (k + 1))), (5, .long _), (4, .int _), (0, .ref _), (1, .long _), (3, .int _)]) hx hb dX2_ranThrough_76 hl (k := 5) rfl (nI_1 _) (by decide) rfl (fun ls hl => ?_)
            refine lv_goto (tgt := 13) hx hb dX2_ranThrough_79 (by decide) ?_
            exact ih13 (k + 1) _ _ (by have := cl_go hk c_22; omega) (cl_go hk c_22) hn1 (by rw [f_mrow, ← hn1]; first | (rw [if_pos c_64, hwn]; rfl) | (rw [if_neg c_64]; exact hwn)) _ _ hP hS ls (lv_sub hl [3, 4, 5, 2, 1, 0] rfl)
        · skip
          refine lv_iload hx hb dX2_ranThrough_35 (lv_at hl 3 rfl) ?_
          refine lv_iconst (v := 1) hx hb dX2_ranThrough_37 (by decide) ?_
          refine lv_iadd hx hb dX2_ranThrough_38 ?_
          refine lv_iload_n hx hb dX2_ranThrough_39 rfl (lv_at hl 2 rfl) ?_
          refine lv_iconst (v := 1) hx hb dX2_ranThrough_40 (by decide) ?_
          refine lv_isub hx hb dX2_ranThrough_41 ?_
          refine va_mmin hx hb (by rw [hml]; exact hl.1.symm) hown hw6 hw7 hw4 hw8 (Nat.le_of_ble_eq_true rfl) (Nat.le_of_ble_eq_true rfl) (Nat.zero_le _) (Nat.zero_le _) dX2_ranThrough_42 ?_
          refine lv_goto (tgt := 56) hx hb dX2_ranThrough_45 (by decide) ?_
          refine lv_topi (fun now1 en => ?_)
          have hn1 : now1 = f_mst a0 a1 (k + 1) := by rw [en, f_mst, hnow]; first | (rw [if_pos c_32]) | (rw [if_neg c_32])
          refine lv_istore (lv' := [(4, .int _), (0, .ref _), (1, .long _), (3, .int _), (5, .long _), (7, .int _)]) hx hb dX2_ranThrough_56 hl (by decide) rfl (fun ls hl => ?_)
          refine lv_iload hx hb dX2_ranThrough_58 (lv_at hl 0 rfl) ?_
          refine lv_iload_n hx hb dX2_ranThrough_60 rfl (lv_at hl 3 rfl) ?_
          refine ro_i (va_runS ⟨hx, hb, hml, hown, hts⟩ (c_X2_isUpper l ) (va_cwS 2 hts gX2_ranThrough_X2_isUpper rfl rfl rfl kd_X2_isUpper ⟨Nat.le_of_ble_eq_true rfl, Nat.le_of_ble_eq_true rfl⟩) preS0 rfl rfl hl.1 rfl (lv_room (Nat.le_of_ble_eq_true rfl)) dX2_ranThrough_61 ⟨Nat.zero_le _, Nat.zero_le _⟩) ?_
          refine lv_if_eq (tgt := 76) hx hb dX2_ranThrough_64 (by decide) (fun c_64 => ?_) (fun c_64 => ?_)
          · skip
            have c_64 := bI_eq.mp c_64
            refine lv_iinc (lv' := [(7, .int (nI (k + 1))), (4, .int _), (0, .ref _), (1, .long _), (3, .int _), (5, .long _)]) hx hb dX2_ranThrough_76 hl (k := 5) rfl (nI_1 _) (by decide) rfl (fun ls hl => ?_)
            refine lv_goto (tgt := 13) hx hb dX2_ranThrough_79 (by decide) ?_
            exact ih13 (k + 1) _ _ (by have := cl_go hk c_22; omega) (cl_go hk c_22) hn1 (by rw [f_mrow, ← hn1]; first | (rw [if_pos c_64, hwn]; rfl) | (rw [if_neg c_64]; exact hwn)) _ _ hP hS ls (lv_sub hl [2, 3, 4, 1, 5, 0] rfl)
          · skip
            have c_64 := bI_ne.mp c_64
            refine lv_lload hx hb dX2_ranThrough_67 (lv_at hl 4 rfl) ?_
            refine lv_lconst (v := 1) hx hb dX2_ranThrough_69 (by decide) ?_
            refine lv_iload hx hb dX2_ranThrough_70 (lv_at hl 5 rfl) ?_
            refine lv_lshl hx hb dX2_ranThrough_72 rfl ?_
            refine lv_lor hx hb dX2_ranThrough_73 ?_
            refine lv_lstore (lv' := [(5, .long _), (4, .int _), (0, .ref _), (1, .long _), (3, .int _), (7, .int _)]) hx hb dX2_ranThrough_74 hl (by decide) rfl (fun ls hl => ?_)
            refine lv_iinc (lv' := [(7, .int (nI (k + 1))), (5, .long _), (4, .int _), (0, .ref _), (1, .long _), (3, .int _)]) hx hb dX2_ranThrough_76 hl (k := 5) rfl (nI_1 _) (by decide) rfl (fun ls hl => ?_)
            refine lv_goto (tgt := 13) hx hb dX2_ranThrough_79 (by decide) ?_
            exact ih13 (k + 1) _ _ (by have := cl_go hk c_22; omega) (cl_go hk c_22) hn1 (by rw [f_mrow, ← hn1]; first | (rw [if_pos c_64, hwn]; rfl) | (rw [if_neg c_64]; exact hwn)) _ _ hP hS ls (lv_sub hl [3, 4, 5, 2, 1, 0] rfl)
  exact L13 (ln.toNatClampNeg + 1) 0 _ _ (by omega) (Nat.zero_le _) rfl rfl _ _ hP hS ls (lv_sub hl [3, 4, 5, 2, 1, 0] rfl)
theorem kd_X2_greatestMiss : yX2_greatestMiss.cls ≠ "java/lang/invoke/MethodHandle" ∧ yX2_greatestMiss.cls ≠ "java/lang/invoke/VarHandle" ∧ (parseMethodDescriptor yX2_greatestMiss.desc).map (fun d => d.parameters.length) = some 1 := by decide +kernel
set_option maxHeartbeats 4000000 in
set_option maxRecDepth 100000 in
theorem c_X2_greatestMiss (l : Launch) {dC : Nat → ClassId} {dI : Nat → Nat → Nat} {ad : Nat → Nat} {cI cJ : ClassId} {fg : Int32} {dg : Int32} {sc : Int32} {ms : Int32} {mi : Int32} {mv : Int32} {mw : Int32} {st : (Nat → Int64)} {fr : (Nat → Int64)} {sr : (Nat → Int64)} {pa : (Nat → Int64)} {nu : (Nat → Int32)} {sz : Nat} {a0 : Int32} {n : Nat} (hn : n ≤ 64) : Met l yX2_greatestMiss wsX2_greatestMiss ({ frames := 1, cells := 0, slots := 0, locals := 26 }) (va_Pc ([.ref (ad 0), .int a0] : List Value) (gW sz (dC, dI) (tyw cI cJ) (xw ad cI cJ (nI n) fg dg sc ms mi mv mw st fr sr pa nu))) (va_Qi (fun r (_u : Unit) => r = (f_gm n a0 fr sr mv mw (n + 1) 0).1) (fun _u t => va_P (dC, dI) vwCl (xw ad cI cJ (nI n) fg dg sc ms mi (f_gm n a0 fr sr mv mw (n + 1) 0).2.1 (f_gm n a0 fr sr mv mw (n + 1) 0).2.2 st fr sr pa nu) t.heap) (va_A (xw ad cI cJ (nI n) fg dg sc ms mi mv mw st fr sr pa nu) sz)) 0 0 (va_A (xw ad cI cJ (nI n) fg dg sc ms mi mv mw st fr sr pa nu) sz) := by
  refine Met.ofW (cc := cX2_greatestMiss) (maxL := 11) (ret := (some .int)) (by decide) rfl ?_
  intro p e s m args below meth c s₁ B hml hv
  obtain ⟨rfl, hsz, ⟨hnw, hK, hP⟩, hD0⟩ := hv
  have hx := B.exec
  have hb := B.bytes
  have hr := B.returns
  have hts := atoms_spec (ws := wsX2_greatestMiss) B.pre
  have hown : s.vm.findClass RX2 = some m.cls := findClass_of_methodNamed B.named
  have hlocks := B.notSynchronized
  subst hsz
  have hD := hD0.self (sz := s.heap.size)
  generalize hAe : va_A (xw ad cI cJ (nI n) fg dg sc ms mi mv mw st fr sr pa nu) s.heap.size = A at hD ⊢
  have hA : ∀ q : Nat, s.heap.size ≤ q → A q := fun q h => by rw [← hAe]; exact Or.inr h
  have hS : va_S A s.heap s.heap [] := va_S.rf
  have hw0 := hts (.fieldLink RX2 10 "BitStreams" "rows" "LBitStreams$Rows;") (by decide +kernel)
  have hw1 := hts (.fieldLink RX2 27 "BitStreams" "firstRows" "[J") (by decide +kernel)
  have hw2 := hts (.fieldLink RX2 30 "BitStreams" "secondRows" "[J") (by decide +kernel)
  have hw3 := hts (.methodLink RX2 182 Lib.Math.abs.name) (by decide +kernel)
  have hw4 := hts (.static Lib.Math.abs.name) (by decide +kernel)
  have hw5 := hts (.initialized "java/lang/Math") (by decide +kernel)
  have hw6 := hts (.code Lib.Math.abs.name Lib.Math.abs.code 1 (some .int)) (by decide +kernel)
  have hw7 := hts (.fieldLink RX2 43 "BitStreams" "missV" "I") (by decide +kernel)
  have hw8 := hts (.fieldLink RX2 46 "BitStreams" "missW" "I") (by decide +kernel)
  have inX1 : ∀ w ∈ wsX10, w ∈ wsX2_greatestMiss := by decide +kernel
  have inX2 : ∀ w ∈ wsX20, w ∈ wsX2_greatestMiss := by decide +kernel
  have hl := lv_entry ([.ref (ad 0), .int a0] : List Value) (n := 11) (Nat.le_of_ble_eq_true rfl)
  rw [lg_entry_eq]
  generalize (lg_sl ([.ref (ad 0), .int a0] : List Value) ++ List.replicate (11 - (lg_sl ([.ref (ad 0), .int a0] : List Value)).length) Slot.unset).toArray = ls at hl ⊢
  have hl : lv_has ls 11 [(0, .ref (ad 0)), (1, .int a0)] := hl
  refine lv_aload_n hx hb dX2_greatestMiss_0 rfl (lv_at hl 0 rfl) ?_
  refine va_get (D := (dC, dI)) (ci := 2) (C := RX2) (T := TX2) (N := 10) hx hb hts inX2 hown hK hP 0 rfl rfl 0 (by decide) hw0 (fun _ h9 => h9) rfl dX2_greatestMiss_1 ?_
  refine va_getN (D := (dC, dI)) (ci := 1) (C := RX1) (T := TX1) (N := 2) hx hb hts inX1 hown hK hP 1 rfl rfl 0 (by decide) (hnw.use 1 rfl) (fun _ h9 => h9) rfl dX2_greatestMiss_4 ?_
  refine lv_istore_n (lv' := [(2, .int _), (0, .ref _), (1, .int _)]) hx hb dX2_greatestMiss_7 rfl hl (by decide) rfl (fun ls hl => ?_)
  refine lv_iload_n hx hb dX2_greatestMiss_8 rfl (lv_at hl 0 rfl) ?_
  refine ro_l (va_runS ⟨hx, hb, hml, hown, hts⟩ (c_X2_lowBits l ) (va_cwS 1 hts gX2_greatestMiss_X2_lowBits rfl rfl rfl kd_X2_lowBits ⟨Nat.le_of_ble_eq_true rfl, Nat.le_of_ble_eq_true rfl⟩) preS0 rfl rfl hl.1 rfl (lv_room (Nat.le_of_ble_eq_true rfl)) dX2_greatestMiss_9 ⟨Nat.zero_le _, Nat.zero_le _⟩) ?_
  refine lv_lstore_n (lv' := [(3, .long _), (2, .int _), (0, .ref _), (1, .int _)]) hx hb dX2_greatestMiss_12 rfl hl (by decide) rfl (fun ls hl => ?_)
  refine lv_iconst (v := (-1)) hx hb dX2_greatestMiss_13 (by decide) ?_
  refine lv_istore (lv' := [(5, .int _), (3, .long _), (2, .int _), (0, .ref _), (1, .int _)]) hx hb dX2_greatestMiss_14 hl (by decide) rfl (fun ls hl => ?_)
  refine lv_iconst (v := 0) hx hb dX2_greatestMiss_16 (by decide) ?_
  refine lv_istore (lv' := [(6, .int _), (5, .int _), (3, .long _), (2, .int _), (0, .ref _), (1, .int _)]) hx hb dX2_greatestMiss_17 hl (by decide) rfl (fun ls hl => ?_)
  have L19 : ∀ (n19 : Nat) (v : Nat) (gr xv xw_ : Int32), n + 2 ≤ v + n19 → (v ≤ n + 1) → ((gr, xv, xw_) = f_gm n a0 fr sr mv mw v 0) → ∀ (H : Heap) (locs : List Loc), va_P (dC, dI) vwCl (xw ad cI cJ (nI n) fg dg sc ms mi xv xw_ st fr sr pa nu) H → va_S A s.heap H locs → ∀ (ls : Array Slot), lv_has ls 11 [(0, .ref (ad 0)), (1, .int a0), (2, .int (nI n)), (3, .long (f_low (nI n))), (5, .int gr), (6, .int (nI v))] → W p l e { frames := 1, cells := 0, slots := 0, locals := 26 } s m ([.ref (ad 0), .int a0] : List Value).toArray below meth c H locs 0 0 (MQ below (va_Qi (fun r (_u : Unit) => r = (f_gm n a0 fr sr mv mw (n + 1) 0).1) (fun _u t => va_P (dC, dI) vwCl (xw ad cI cJ (nI n) fg dg sc ms mi (f_gm n a0 fr sr mv mw (n + 1) 0).2.1 (f_gm n a0 fr sr mv mw (n + 1) 0).2.2 st fr sr pa nu) t.heap) A) ([.ref (ad 0), .int a0] : List Value).toArray s 0 0 (A)) (F0 m 19 ls []) := by
    intro n19
    induction n19 with
    | zero =>
      intro v gr xv xw_ hf19 hv hg
      exact absurd hf19 (by omega)
    | succ n19 ih19 =>
      intro v gr xv xw_ hf19 hv hg H locs hP hS ls hl
      have hD : va_D A (xw ad cI cJ (nI n) fg dg sc ms mi xv xw_ st fr sr pa nu) := va_D_addr hD rfl
      refine lv_iload hx hb dX2_greatestMiss_19 (lv_at hl 5 rfl) ?_
      refine lv_iload_n hx hb dX2_greatestMiss_21 rfl (lv_at hl 2 rfl) ?_
      refine lv_icmp_gt (tgt := 114) hx hb dX2_greatestMiss_22 (by decide) (fun c_22 => ?_) (fun c_22 => ?_)
      · skip
        have hz := nI_nlt_end hv (by omega) c_22
        subst hz
        refine lv_iload hx hb dX2_greatestMiss_114 (lv_at hl 4 rfl) ?_
        have e1 : gr = (f_gm n a0 fr sr mv mw (n + 1) 0).1 := by rw [← hg]
        have e2 : xv = (f_gm n a0 fr sr mv mw (n + 1) 0).2.1 := by rw [← hg]
        have e3 : xw_ = (f_gm n a0 fr sr mv mw (n + 1) 0).2.2 := by rw [← hg]
        rw [← e2, ← e3]
        exact W.iret hx hb hr (fun t ht _ => ⟨⟨_, (), rfl, e1, wpost ht hP⟩, hS.F ht⟩) hS.2.2 dX2_greatestMiss_116
      · skip
        have hz := nI_nlt_go hv (by omega) c_22
        refine lv_iconst (v := 0) hx hb dX2_greatestMiss_25 (by decide) ?_
        refine lv_istore (lv' := [(7, .int _), (0, .ref _), (1, .int _), (2, .int _), (3, .long _), (5, .int _), (6, .int _)]) hx hb dX2_greatestMiss_26 hl (by decide) rfl (fun ls hl => ?_)
        have L28 : ∀ (n28 : Nat) (w : Nat) (gr2 xv2 xw2 : Int32), n + 2 ≤ w + n28 → (w ≤ n + 1) → ((gr2, xv2, xw2) = f_gm n a0 fr sr mv mw v w) → ∀ (H : Heap) (locs : List Loc), va_P (dC, dI) vwCl (xw ad cI cJ (nI n) fg dg sc ms mi xv2 xw2 st fr sr pa nu) H → va_S A s.heap H locs → ∀ (ls : Array Slot), lv_has ls 11 [(0, .ref (ad 0)), (1, .int a0), (2, .int (nI n)), (3, .long (f_low (nI n))), (5, .int gr2), (6, .int (nI v)), (7, .int (nI w))] → W p l e { frames := 1, cells := 0, slots := 0, locals := 26 } s m ([.ref (ad 0), .int a0] : List Value).toArray below meth c H locs 0 0 (MQ below (va_Qi (fun r (_u : Unit) => r = (f_gm n a0 fr sr mv mw (n + 1) 0).1) (fun _u t => va_P (dC, dI) vwCl (xw ad cI cJ (nI n) fg dg sc ms mi (f_gm n a0 fr sr mv mw (n + 1) 0).2.1 (f_gm n a0 fr sr mv mw (n + 1) 0).2.2 st fr sr pa nu) t.heap) A) ([.ref (ad 0), .int a0] : List Value).toArray s 0 0 (A)) (F0 m 28 ls []) := by
          intro n28
          induction n28 with
          | zero =>
            intro w gr2 xv2 xw2 hf28 hw hg2
            exact absurd hf28 (by omega)
          | succ n28 ih28 =>
            intro w gr2 xv2 xw2 hf28 hw hg2 H locs hP hS ls hl
            have hD : va_D A (xw ad cI cJ (nI n) fg dg sc ms mi xv2 xw2 st fr sr pa nu) := va_D_addr hD rfl
            refine lv_iload hx hb dX2_greatestMiss_28 (lv_at hl 6 rfl) ?_
            refine lv_iload_n hx hb dX2_greatestMiss_30 rfl (lv_at hl 2 rfl) ?_
            refine lv_icmp_gt (tgt := 108) hx hb dX2_greatestMiss_31 (by decide) (fun c_31 => ?_) (fun c_31 => ?_)
            · skip
              have hz2 := nI_nlt_end hw (by omega) c_31
              refine lv_iinc (lv' := [(6, .int (nI (v + 1))), (0, .ref _), (1, .int _), (2, .int _), (3, .long _), (5, .int _), (7, .int _)]) hx hb dX2_greatestMiss_108 hl (k := 5) rfl (nI_1 _) (by decide) rfl (fun ls hl => ?_)
              refine lv_goto (tgt := 19) hx hb dX2_greatestMiss_111 (by decide) ?_
              exact ih19 (v + 1) _ _ _ (by omega) (by omega) (by rw [hg2, hz2]; exact (f_gm_row n a0 fr sr mv mw v).symm) _ _ hP hS ls (lv_sub hl [1, 2, 3, 4, 5, 0] rfl)
            · skip
              have hz2 := nI_nlt_go hw (by omega) c_31
              refine lv_iload_n hx hb dX2_greatestMiss_34 rfl (lv_at hl 1 rfl) ?_
              refine lv_aload_n hx hb dX2_greatestMiss_35 rfl (lv_at hl 0 rfl) ?_
              refine va_get (D := (dC, dI)) (ci := 2) (C := RX2) (T := TX2) (N := 10) hx hb hts inX2 hown hK hP 0 rfl rfl 3 (by decide) hw1 (fun _ h9 => h9) rfl dX2_greatestMiss_36 ?_
              refine lv_iload hx hb dX2_greatestMiss_39 (lv_at hl 5 rfl) ?_
              refine va_lald hx hb hK hP 4 1 rfl rfl (vp_in_nI (by omega) (by omega)) dX2_greatestMiss_41 ?_
              refine st_l (v := fr v) (by rw [nI_cl (by omega)]) ?_
              refine lv_aload_n hx hb dX2_greatestMiss_42 rfl (lv_at hl 0 rfl) ?_
              refine va_get (D := (dC, dI)) (ci := 2) (C := RX2) (T := TX2) (N := 10) hx hb hts inX2 hown hK hP 0 rfl rfl 4 (by decide) hw2 (fun _ h9 => h9) rfl dX2_greatestMiss_43 ?_
              refine lv_iload hx hb dX2_greatestMiss_46 (lv_at hl 6 rfl) ?_
              refine va_lald hx hb hK hP 5 1 rfl rfl (vp_in_nI (by omega) (by omega)) dX2_greatestMiss_48 ?_
              refine st_l (v := sr w) (by rw [nI_cl (by omega)]) ?_
              refine lv_lconst (v := 0) hx hb dX2_greatestMiss_49 (by decide) ?_
              refine ro_l (va_runS ⟨hx, hb, hml, hown, hts⟩ (c_X2_gated l ) (va_cwS 4 hts gX2_greatestMiss_X2_gated rfl rfl rfl kd_X2_gated ⟨Nat.le_of_ble_eq_true rfl, Nat.le_of_ble_eq_true rfl⟩) preS0 rfl rfl hl.1 rfl (lv_room (Nat.le_of_ble_eq_true rfl)) dX2_greatestMiss_50 ⟨Nat.zero_le _, Nat.zero_le _⟩) ?_
              refine lv_lload_n hx hb dX2_greatestMiss_53 rfl (lv_at hl 3 rfl) ?_
              refine lv_land hx hb dX2_greatestMiss_54 ?_
              refine lv_lstore (lv' := [(8, .long _), (0, .ref _), (1, .int _), (2, .int _), (3, .long _), (5, .int _), (6, .int _), (7, .int _)]) hx hb dX2_greatestMiss_55 hl (by decide) rfl (fun ls hl => ?_)
              refine lv_lload hx hb dX2_greatestMiss_57 (lv_at hl 0 rfl) ?_
              refine ro_i (va_runS ⟨hx, hb, hml, hown, hts⟩ (c_J13_bitCount_95d88 l ) (va_cwS 1 hts gX2_greatestMiss_J13_bitCount_95d88 rfl rfl rfl kd_J13_bitCount_95d88 ⟨Nat.le_of_ble_eq_true rfl, Nat.le_of_ble_eq_true rfl⟩) preS0 rfl rfl hl.1 rfl (lv_room (Nat.le_of_ble_eq_true rfl)) dX2_greatestMiss_59 ⟨Nat.zero_le _, Nat.zero_le _⟩) ?_
              refine lv_iload_n hx hb dX2_greatestMiss_62 rfl (lv_at hl 3 rfl) ?_
              refine lv_imul hx hb dX2_greatestMiss_63 ?_
              refine lv_aload_n hx hb dX2_greatestMiss_64 rfl (lv_at hl 1 rfl) ?_
              refine lv_iload_n hx hb dX2_greatestMiss_65 rfl (lv_at hl 2 rfl) ?_
              refine lv_iload hx hb dX2_greatestMiss_66 (lv_at hl 6 rfl) ?_
              refine lv_iload hx hb dX2_greatestMiss_68 (lv_at hl 7 rfl) ?_
              refine ro_i (va_runV ⟨hx, hb, hml, hown, hts⟩ (c_X2_dueOnes l ) (cwV 3 hts gX2_greatestMiss_X2_dueOnes rfl rfl rfl ⟨rfl, kd_X2_dueOnes⟩ ⟨Nat.le_of_ble_eq_true rfl, Nat.le_of_ble_eq_true rfl⟩) (preV1 hnw hK hP 0 2 rfl rfl) rfl rfl hl.1 rfl (lv_room (Nat.le_of_ble_eq_true rfl)) dX2_greatestMiss_70 ⟨Nat.zero_le _, Nat.zero_le _⟩) ?_
              refine lv_isub hx hb dX2_greatestMiss_73 ?_
              refine va_mabs hx hb (by rw [hml]; exact hl.1.symm) hown hw3 hw4 hw5 hw6 (Nat.le_of_ble_eq_true rfl) (Nat.le_of_ble_eq_true rfl) (Nat.zero_le _) (Nat.zero_le _) dX2_greatestMiss_74 ?_
              refine st_i (v := f_diff n a0 fr sr v w) rfl ?_
              refine lv_istore (lv' := [(10, .int _), (8, .long _), (0, .ref _), (1, .int _), (2, .int _), (3, .long _), (5, .int _), (6, .int _), (7, .int _)]) hx hb dX2_greatestMiss_77 hl (by decide) rfl (fun ls hl => ?_)
              refine lv_iload hx hb dX2_greatestMiss_79 (lv_at hl 0 rfl) ?_
              refine lv_iload hx hb dX2_greatestMiss_81 (lv_at hl 6 rfl) ?_
              refine lv_icmp_le (tgt := 102) hx hb dX2_greatestMiss_83 (by decide) (fun c_83 => ?_) (fun c_83 => ?_)
              · skip
                refine lv_iinc (lv' := [(7, .int (nI (w + 1))), (10, .int _), (8, .long _), (0, .ref _), (1, .int _), (2, .int _), (3, .long _), (5, .int _), (6, .int _)]) hx hb dX2_greatestMiss_102 hl (k := 8) rfl (nI_1 _) (by decide) rfl (fun ls hl => ?_)
                refine lv_goto (tgt := 28) hx hb dX2_greatestMiss_105 (by decide) ?_
                exact ih28 (w + 1) _ _ _ (by omega) (by omega) (by rw [f_gm_step (by omega), ← hg2]; unfold f_gms; first | (rw [if_pos c_83]) | (rw [if_neg c_83])) _ _ hP hS ls (lv_sub hl [3, 4, 5, 6, 7, 8, 0] rfl)
              · skip
                refine lv_iload hx hb dX2_greatestMiss_86 (lv_at hl 0 rfl) ?_
                refine lv_istore (lv' := [(5, .int _), (10, .int _), (8, .long _), (0, .ref _), (1, .int _), (2, .int _), (3, .long _), (6, .int _), (7, .int _)]) hx hb dX2_greatestMiss_88 hl (by decide) rfl (fun ls hl => ?_)
                refine lv_aload_n hx hb dX2_greatestMiss_90 rfl (lv_at hl 3 rfl) ?_
                refine lv_iload hx hb dX2_greatestMiss_91 (lv_at hl 7 rfl) ?_
                refine va_put (D := (dC, dI)) (ci := 2) (ty := .int) (C := RX2) (T := TX2) (N := 10) hx hb hts inX2 tyX2 tyX2_ok nmX2 hown hK hP hD hS 0 rfl rfl 8 (by decide) hw7 (fun _ h9 => h9) rfl (by decide +kernel) rfl rfl (Nat.le_of_ble_eq_true rfl) dX2_greatestMiss_93 (fun H locs hP hD hS => ?_)
                have hP : va_P (dC, dI) vwCl (xw ad cI cJ (nI n) fg dg sc ms mi (nI v) xw2 st fr sr pa nu) H := hP
                have hD : va_D A (xw ad cI cJ (nI n) fg dg sc ms mi (nI v) xw2 st fr sr pa nu) := va_D_addr hD rfl
                refine lv_aload_n hx hb dX2_greatestMiss_96 rfl (lv_at hl 3 rfl) ?_
                refine lv_iload hx hb dX2_greatestMiss_97 (lv_at hl 8 rfl) ?_
                refine va_put (D := (dC, dI)) (ci := 2) (ty := .int) (C := RX2) (T := TX2) (N := 10) hx hb hts inX2 tyX2 tyX2_ok nmX2 hown hK hP hD hS 0 rfl rfl 9 (by decide) hw8 (fun _ h9 => h9) rfl (by decide +kernel) rfl rfl (Nat.le_of_ble_eq_true rfl) dX2_greatestMiss_99 (fun H locs hP hD hS => ?_)
                have hP : va_P (dC, dI) vwCl (xw ad cI cJ (nI n) fg dg sc ms mi (nI v) (nI w) st fr sr pa nu) H := hP
                have hD : va_D A (xw ad cI cJ (nI n) fg dg sc ms mi (nI v) (nI w) st fr sr pa nu) := va_D_addr hD rfl
                refine lv_iinc (lv' := [(7, .int (nI (w + 1))), (5, .int _), (10, .int _), (8, .long _), (0, .ref _), (1, .int _), (2, .int _), (3, .long _), (6, .int _)]) hx hb dX2_greatestMiss_102 hl (k := 8) rfl (nI_1 _) (by decide) rfl (fun ls hl => ?_)
                refine lv_goto (tgt := 28) hx hb dX2_greatestMiss_105 (by decide) ?_
                exact ih28 (w + 1) _ _ _ (by omega) (by omega) (by rw [f_gm_step (by omega), ← hg2]; unfold f_gms; first | (rw [if_pos c_83]) | (rw [if_neg c_83])) _ _ hP hS ls (lv_sub hl [4, 5, 6, 7, 1, 8, 0] rfl)
        exact L28 (n + 2) 0 _ _ _ (by omega) (Nat.zero_le _) hg _ _ hP hS ls (lv_sub hl [1, 2, 3, 4, 5, 6, 0] rfl)
  exact L19 (n + 2) 0 _ _ _ (by omega) (Nat.zero_le _) rfl _ _ hP hS ls (lv_sub hl [4, 5, 3, 2, 1, 0] rfl)
theorem kd_X2_formed : yX2_formed.cls ≠ "java/lang/invoke/MethodHandle" ∧ yX2_formed.cls ≠ "java/lang/invoke/VarHandle" ∧ (parseMethodDescriptor yX2_formed.desc).map (fun d => d.parameters.length) = some 2 := by decide +kernel
set_option maxHeartbeats 4000000 in
set_option maxRecDepth 100000 in
theorem c_X2_formed (l : Launch) {dC : Nat → ClassId} {dI : Nat → Nat → Nat} {ad : Nat → Nat} {cI cJ : ClassId} {ln : Int32} {fg : Int32} {sc : Int32} {ms : Int32} {mi : Int32} {mv : Int32} {mw : Int32} {st : (Nat → Int64)} {fr : (Nat → Int64)} {sr : (Nat → Int64)} {pa : (Nat → Int64)} {nu : (Nat → Int32)} {a0 : Int64} {d mm : Nat} (hd : d ≤ 4) (hm : mm ≤ 10) : Met l yX2_formed wsX2_formed ({ frames := 3, cells := 0, slots := 0, locals := 70 }) (va_Pc ([.ref (ad 0), .long a0, .int (nI mm)] : List Value) (gB (dC, dI) (tyw cI cJ) (xw ad cI cJ ln fg (nI d) sc ms mi mv mw st fr sr pa nu))) (qL (f_form ln fg pa (f_pb d sc (nI mm)) a0 mm ln.toNatClampNeg)) 0 0 (fun _ => False) := by
  refine Met.ofW (cc := cX2_formed) (maxL := 11) (ret := (some .long)) (by decide) rfl ?_
  intro p e s m args below meth c s₁ B hml hv
  obtain ⟨rfl, hnw, hK, hP⟩ := hv
  have hx := B.exec
  have hb := B.bytes
  have hr := B.returns
  have hts := atoms_spec (ws := wsX2_formed) B.pre
  have hown : s.vm.findClass RX2 = some m.cls := findClass_of_methodNamed B.named
  have hlocks := B.notSynchronized
  have hw0 := hts (.fieldLink RX2 19 "BitStreams" "form" "LBitStreams$Form;") (by decide +kernel)
  have hw1 := hts (.initialized RX0) (by decide +kernel)
  have hw2 := hts (.instanceMethod yX0_partBelow) (by decide +kernel)
  have hw3 := hts (.selects RX0 yX0_partBelow yX0_partBelow) (by decide +kernel)
  have hw4 := hts (.fieldLink RX2 10 "BitStreams" "rows" "LBitStreams$Rows;") (by decide +kernel)
  have hw5 := hts (.fieldLink RX2 33 "BitStreams" "parts" "[J") (by decide +kernel)
  have hw6 := hts (.initialized RX1) (by decide +kernel)
  have hw7 := hts (.instanceMethod yX1_turned) (by decide +kernel)
  have hw8 := hts (.selects RX1 yX1_turned yX1_turned) (by decide +kernel)
  have hw9 := hts (.instanceMethod yX1_round) (by decide +kernel)
  have hw10 := hts (.selects RX1 yX1_round yX1_round) (by decide +kernel)
  have inX1 : ∀ w ∈ wsX10, w ∈ wsX2_formed := by decide +kernel
  have inX2 : ∀ w ∈ wsX20, w ∈ wsX2_formed := by decide +kernel
  have hl := lv_entry ([.ref (ad 0), .long a0, .int (nI mm)] : List Value) (n := 11) (Nat.le_of_ble_eq_true rfl)
  rw [lg_entry_eq]
  generalize (lg_sl ([.ref (ad 0), .long a0, .int (nI mm)] : List Value) ++ List.replicate (11 - (lg_sl ([.ref (ad 0), .long a0, .int (nI mm)] : List Value)).length) Slot.unset).toArray = ls at hl ⊢
  have hl : lv_has ls 11 [(0, .ref (ad 0)), (1, .long a0), (3, .int (nI mm))] := hl
  refine lv_aload_n hx hb dX2_formed_0 rfl (lv_at hl 0 rfl) ?_
  refine va_get (D := (dC, dI)) (ci := 2) (C := RX2) (T := TX2) (N := 10) hx hb hts inX2 hown hK hP 0 rfl rfl 1 (by decide) hw0 (fun _ h9 => h9) rfl dX2_formed_1 ?_
  refine lv_iload_n hx hb dX2_formed_4 rfl (lv_at hl 2 rfl) ?_
  refine ro_l (va_runVN ⟨hx, hb, hml, hown, hts⟩ (c_X0_partBelow l hd) ⟨va_cnB 1 hts gX2_formed_X0_partBelow_n158 rfl rfl rfl (hnw.at 12 rfl) hw1 kd_X0_partBelow ⟨Nat.le_of_ble_eq_true rfl, Nat.le_of_ble_eq_true rfl⟩, hw2, hw3⟩ (preV1 hnw hK hP 2 0 rfl rfl) rfl rfl hl.1 rfl (lv_room (Nat.le_of_ble_eq_true rfl)) dX2_formed_5 ⟨Nat.zero_le _, Nat.zero_le _⟩) ?_
  refine lv_lstore (lv' := [(4, .long _), (0, .ref _), (1, .long _), (3, .int _)]) hx hb dX2_formed_8 hl (by decide) rfl (fun ls hl => ?_)
  refine lv_lconst (v := 0) hx hb dX2_formed_10 (by decide) ?_
  refine lv_lstore (lv' := [(6, .long _), (4, .long _), (0, .ref _), (1, .long _), (3, .int _)]) hx hb dX2_formed_11 hl (by decide) rfl (fun ls hl => ?_)
  refine lv_iconst (v := 0) hx hb dX2_formed_13 (by decide) ?_
  refine lv_istore (lv' := [(8, .int _), (6, .long _), (4, .long _), (0, .ref _), (1, .long _), (3, .int _)]) hx hb dX2_formed_14 hl (by decide) rfl (fun ls hl => ?_)
  have L16 : ∀ (n16 : Nat) (i : Nat) (made : Int64), ln.toNatClampNeg + 1 ≤ i + n16 → (i ≤ ln.toNatClampNeg) → (made = f_form ln fg pa (f_pb d sc (nI mm)) a0 mm i) → ∀ (ls : Array Slot), lv_has ls 11 [(0, .ref (ad 0)), (1, .long a0), (3, .int (nI mm)), (4, .long (f_pb d sc (nI mm))), (6, .long made), (8, .int (nI i))] → W p l e { frames := 3, cells := 0, slots := 0, locals := 70 } s m ([.ref (ad 0), .long a0, .int (nI mm)] : List Value).toArray below meth c s.heap [] 0 0 (MQ below (qL (f_form ln fg pa (f_pb d sc (nI mm)) a0 mm ln.toNatClampNeg)) ([.ref (ad 0), .long a0, .int (nI mm)] : List Value).toArray s 0 0 (fun _ => False)) (F0 m 16 ls []) := by
    intro n16
    induction n16 with
    | zero =>
      intro i made hf16 hi hmd
      exact absurd hf16 (by omega)
    | succ n16 ih16 =>
      intro i made hf16 hi hmd ls hl
      refine lv_iload hx hb dX2_formed_16 (lv_at hl 5 rfl) ?_
      refine lv_aload_n hx hb dX2_formed_18 rfl (lv_at hl 0 rfl) ?_
      refine va_get (D := (dC, dI)) (ci := 2) (C := RX2) (T := TX2) (N := 10) hx hb hts inX2 hown hK hP 0 rfl rfl 0 (by decide) hw4 (fun _ h9 => h9) rfl dX2_formed_19 ?_
      refine va_getN (D := (dC, dI)) (ci := 1) (C := RX1) (T := TX1) (N := 2) hx hb hts inX1 hown hK hP 1 rfl rfl 0 (by decide) (hnw.use 1 rfl) (fun _ h9 => h9) rfl dX2_formed_22 ?_
      refine lv_icmp_ge (tgt := 115) hx hb dX2_formed_25 (by decide) (fun c_25 => ?_) (fun c_25 => ?_)
      · skip
        have hz := cl_end hi c_25
        refine lv_lload hx hb dX2_formed_115 (lv_at hl 4 rfl) ?_
        exact W.lret hx hb hr (fun t ht _ => rl (by rw [hz]; exact hmd) ht) no_locs dX2_formed_117
      · skip
        refine lv_iconst (v := 0) hx hb dX2_formed_28 (by decide) ?_
        refine lv_istore (lv' := [(9, .int _), (0, .ref _), (1, .long _), (3, .int _), (4, .long _), (6, .long _), (8, .int _)]) hx hb dX2_formed_29 hl (by decide) rfl (fun ls hl => ?_)
        refine lv_iconst (v := 0) hx hb dX2_formed_31 (by decide) ?_
        refine lv_istore (lv' := [(10, .int _), (9, .int _), (0, .ref _), (1, .long _), (3, .int _), (4, .long _), (6, .long _), (8, .int _)]) hx hb dX2_formed_32 hl (by decide) rfl (fun ls hl => ?_)
        have L34 : ∀ (n34 : Nat) (k : Nat) (jj : Int32), mm + 1 ≤ k + n34 → (k ≤ mm) → (jj = f_jn ln a0 (nI i) k) → ∀ (ls : Array Slot), lv_has ls 11 [(0, .ref (ad 0)), (1, .long a0), (3, .int (nI mm)), (4, .long (f_pb d sc (nI mm))), (6, .long made), (8, .int (nI i)), (9, .int jj), (10, .int (nI k))] → W p l e { frames := 3, cells := 0, slots := 0, locals := 70 } s m ([.ref (ad 0), .long a0, .int (nI mm)] : List Value).toArray below meth c s.heap [] 0 0 (MQ below (qL (f_form ln fg pa (f_pb d sc (nI mm)) a0 mm ln.toNatClampNeg)) ([.ref (ad 0), .long a0, .int (nI mm)] : List Value).toArray s 0 0 (fun _ => False)) (F0 m 34 ls []) := by
          intro n34
          induction n34 with
          | zero =>
            intro k jj hf34 hk hjj
            exact absurd hf34 (by omega)
          | succ n34 ih34 =>
            intro k jj hf34 hk hjj ls hl
            refine lv_iload hx hb dX2_formed_34 (lv_at hl 7 rfl) ?_
            refine lv_iload_n hx hb dX2_formed_36 rfl (lv_at hl 2 rfl) ?_
            refine lv_icmp_ge (tgt := 67) hx hb dX2_formed_37 (by decide) (fun c_37 => ?_) (fun c_37 => ?_)
            · skip
              have hkz : k = mm := by have := (nI_leI (a := mm) (b := k) (by omega) (by omega)).mp c_37; omega
              have hjz : jj = f_jn ln a0 (nI i) mm := by rw [hjj, hkz]
              refine lv_aload_n hx hb dX2_formed_67 rfl (lv_at hl 0 rfl) ?_
              refine va_get (D := (dC, dI)) (ci := 2) (C := RX2) (T := TX2) (N := 10) hx hb hts inX2 hown hK hP 0 rfl rfl 5 (by decide) hw5 (fun _ h9 => h9) rfl dX2_formed_68 ?_
              refine lv_iload hx hb dX2_formed_71 (lv_at hl 6 rfl) ?_
              refine va_lald hx hb hK hP 6 1 rfl rfl (by rw [hjz]; exact f_jn_in (by omega)) dX2_formed_73 ?_
              refine lv_aload_n hx hb dX2_formed_74 rfl (lv_at hl 0 rfl) ?_
              refine va_get (D := (dC, dI)) (ci := 2) (C := RX2) (T := TX2) (N := 10) hx hb hts inX2 hown hK hP 0 rfl rfl 0 (by decide) hw4 (fun _ h9 => h9) rfl dX2_formed_75 ?_
              refine va_getN (D := (dC, dI)) (ci := 1) (C := RX1) (T := TX1) (N := 2) hx hb hts inX1 hown hK hP 1 rfl rfl 0 (by decide) (hnw.use 1 rfl) (fun _ h9 => h9) rfl dX2_formed_78 ?_
              refine lv_i2l hx hb dX2_formed_81 rfl ?_
              refine lv_lmul hx hb dX2_formed_82 ?_
              refine lv_aload_n hx hb dX2_formed_83 rfl (lv_at hl 0 rfl) ?_
              refine va_get (D := (dC, dI)) (ci := 2) (C := RX2) (T := TX2) (N := 10) hx hb hts inX2 hown hK hP 0 rfl rfl 0 (by decide) hw4 (fun _ h9 => h9) rfl dX2_formed_84 ?_
              refine lv_iload hx hb dX2_formed_87 (lv_at hl 5 rfl) ?_
              refine ro_i (va_runVN ⟨hx, hb, hml, hown, hts⟩ (c_X1_turned l ) ⟨va_cnB 1 hts gX2_formed_X1_turned_n188 rfl rfl rfl (hnw.at 17 rfl) hw6 kd_X1_turned ⟨Nat.le_of_ble_eq_true rfl, Nat.le_of_ble_eq_true rfl⟩, hw7, hw8⟩ (preV1 hnw hK hP 1 1 rfl rfl) rfl rfl hl.1 rfl (lv_room (Nat.le_of_ble_eq_true rfl)) dX2_formed_89 ⟨Nat.zero_le _, Nat.zero_le _⟩) ?_
              refine lv_i2l hx hb dX2_formed_92 rfl ?_
              refine lv_lload hx hb dX2_formed_93 (lv_at hl 3 rfl) ?_
              refine lv_lmul hx hb dX2_formed_95 ?_
              refine W.lcmp hx hb dX2_formed_96 ?_
              refine lv_if_le (tgt := 109) hx hb dX2_formed_97 (by decide) (fun c_97 => ?_) (fun c_97 => ?_)
              · skip
                have c_97 := (lg_cmp_le _ _).mp c_97
                refine lv_iinc (lv' := [(8, .int (nI (i + 1))), (0, .ref _), (1, .long _), (3, .int _), (4, .long _), (6, .long _), (9, .int _), (10, .int _)]) hx hb dX2_formed_109 hl (k := 5) rfl (nI_1 _) (by decide) rfl (fun ls hl => ?_)
                refine lv_goto (tgt := 16) hx hb dX2_formed_112 (by decide) ?_
                exact ih16 (i + 1) _ (by have := cl_go hi c_25; omega) (cl_go hi c_25) (by rw [f_form, ← hjz]; first | (rw [if_pos c_97]; exact hmd) | (rw [if_neg c_97, hmd]; rfl)) ls (lv_sub hl [1, 2, 3, 4, 5, 0] rfl)
              · skip
                have c_97 := fun h => c_97 ((lg_cmp_le _ _).mpr h)
                refine lv_lload hx hb dX2_formed_100 (lv_at hl 4 rfl) ?_
                refine lv_lconst (v := 1) hx hb dX2_formed_102 (by decide) ?_
                refine lv_iload hx hb dX2_formed_103 (lv_at hl 5 rfl) ?_
                refine lv_lshl hx hb dX2_formed_105 rfl ?_
                refine lv_lor hx hb dX2_formed_106 ?_
                refine lv_lstore (lv' := [(6, .long _), (0, .ref _), (1, .long _), (3, .int _), (4, .long _), (8, .int _), (9, .int _), (10, .int _)]) hx hb dX2_formed_107 hl (by decide) rfl (fun ls hl => ?_)
                refine lv_iinc (lv' := [(8, .int (nI (i + 1))), (6, .long _), (0, .ref _), (1, .long _), (3, .int _), (4, .long _), (9, .int _), (10, .int _)]) hx hb dX2_formed_109 hl (k := 5) rfl (nI_1 _) (by decide) rfl (fun ls hl => ?_)
                refine lv_goto (tgt := 16) hx hb dX2_formed_112 (by decide) ?_
                exact ih16 (i + 1) _ (by have := cl_go hi c_25; omega) (cl_go hi c_25) (by rw [f_form, ← hjz]; first | (rw [if_pos c_97]; exact hmd) | (rw [if_neg c_97, hmd]; rfl)) ls (lv_sub hl [2, 3, 4, 5, 1, 0] rfl)
            · skip
              have hkz : k < mm := by have := mt (nI_leI (a := mm) (b := k) (by omega) (by omega)).mpr c_37; omega
              refine lv_iload hx hb dX2_formed_40 (lv_at hl 6 rfl) ?_
              refine lv_lload_n hx hb dX2_formed_42 rfl (lv_at hl 1 rfl) ?_
              refine lv_aload_n hx hb dX2_formed_43 rfl (lv_at hl 0 rfl) ?_
              refine va_get (D := (dC, dI)) (ci := 2) (C := RX2) (T := TX2) (N := 10) hx hb hts inX2 hown hK hP 0 rfl rfl 0 (by decide) hw4 (fun _ h9 => h9) rfl dX2_formed_44 ?_
              refine lv_iload hx hb dX2_formed_47 (lv_at hl 5 rfl) ?_
              refine lv_iload hx hb dX2_formed_49 (lv_at hl 7 rfl) ?_
              refine lv_iadd hx hb dX2_formed_51 ?_
              refine ro_i (va_runVN ⟨hx, hb, hml, hown, hts⟩ (c_X1_round l ) ⟨va_cnB 1 hts gX2_formed_X1_round_n185 rfl rfl rfl (hnw.at 16 rfl) hw6 kd_X1_round ⟨Nat.le_of_ble_eq_true rfl, Nat.le_of_ble_eq_true rfl⟩, hw9, hw10⟩ (preV1 hnw hK hP 1 1 rfl rfl) rfl rfl hl.1 rfl (lv_room (Nat.le_of_ble_eq_true rfl)) dX2_formed_52 ⟨Nat.zero_le _, Nat.zero_le _⟩) ?_
              refine ro_i (va_runS ⟨hx, hb, hml, hown, hts⟩ (c_X2_bitOf l ) (va_cwS 2 hts gX2_formed_X2_bitOf rfl rfl rfl kd_X2_bitOf ⟨Nat.le_of_ble_eq_true rfl, Nat.le_of_ble_eq_true rfl⟩) preS0 rfl rfl hl.1 rfl (lv_room (Nat.le_of_ble_eq_true rfl)) dX2_formed_55 ⟨Nat.zero_le _, Nat.zero_le _⟩) ?_
              refine lv_iadd hx hb dX2_formed_58 ?_
              refine lv_istore (lv' := [(9, .int _), (0, .ref _), (1, .long _), (3, .int _), (4, .long _), (6, .long _), (8, .int _), (10, .int _)]) hx hb dX2_formed_59 hl (by decide) rfl (fun ls hl => ?_)
              refine lv_iinc (lv' := [(10, .int (nI (k + 1))), (9, .int _), (0, .ref _), (1, .long _), (3, .int _), (4, .long _), (6, .long _), (8, .int _)]) hx hb dX2_formed_61 hl (k := 7) rfl (nI_1 _) (by decide) rfl (fun ls hl => ?_)
              refine lv_goto (tgt := 34) hx hb dX2_formed_64 (by decide) ?_
              exact ih34 (k + 1) _ (by omega) (by omega) (by rw [f_jn, hjj]) ls (lv_sub hl [2, 3, 4, 5, 6, 7, 1, 0] rfl)
        exact L34 (mm + 1) 0 _ (by omega) (Nat.zero_le _) rfl ls (lv_sub hl [2, 3, 4, 5, 6, 7, 1, 0] rfl)
  exact L16 (ln.toNatClampNeg + 1) 0 _ (by omega) (Nat.zero_le _) rfl ls (lv_sub hl [3, 4, 5, 2, 1, 0] rfl)
