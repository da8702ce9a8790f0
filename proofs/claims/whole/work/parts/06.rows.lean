theorem kd_X1_round : yX1_round.cls ≠ "java/lang/invoke/MethodHandle" ∧ yX1_round.cls ≠ "java/lang/invoke/VarHandle" ∧ (parseMethodDescriptor yX1_round.desc).map (fun d => d.parameters.length) = some 1 := by decide +kernel
set_option maxHeartbeats 4000000 in
set_option maxRecDepth 100000 in
theorem c_X1_round (l : Launch) {dC : Nat → ClassId} {dI : Nat → Nat → Nat} {ad : Nat → Nat} {cI cJ : ClassId} {ln : Int32} {fg : Int32} {dg : Int32} {sc : Int32} {ms : Int32} {mi : Int32} {mv : Int32} {mw : Int32} {st : (Nat → Int64)} {fr : (Nat → Int64)} {sr : (Nat → Int64)} {pa : (Nat → Int64)} {nu : (Nat → Int32)} {a0 : Int32} : Met l yX1_round wsX1_round ({ frames := 0, cells := 0, slots := 0, locals := 0 }) (va_Pc ([.ref (ad 1), .int a0] : List Value) (gB (dC, dI) (tyw cI cJ) (xw ad cI cJ ln fg dg sc ms mi mv mw st fr sr pa nu))) (QcRead (f_round ln a0)) 0 0 (fun _ => False) := by
  refine Met.ofW (cc := cX1_round) (maxL := 2) (ret := (some .int)) (by decide) rfl ?_
  intro p e s m args below meth c s₁ B hml hv
  obtain ⟨rfl, hnw, hK, hP⟩ := hv
  have hx := B.exec
  have hb := B.bytes
  have hr := B.returns
  have hts := atoms_spec (ws := wsX1_round) B.pre
  have hown : s.vm.findClass RX1 = some m.cls := findClass_of_methodNamed B.named
  have hlocks := B.notSynchronized
  have hw0 := hts (.fieldLink RX1 9 "BitStreams$Rows" "length" "I") (by decide +kernel)
  have inX1 : ∀ w ∈ wsX10, w ∈ wsX1_round := by decide +kernel
  have hl := lv_entry ([.ref (ad 1), .int a0] : List Value) (n := 2) (Nat.le_of_ble_eq_true rfl)
  rw [lg_entry_eq]
  generalize (lg_sl ([.ref (ad 1), .int a0] : List Value) ++ List.replicate (2 - (lg_sl ([.ref (ad 1), .int a0] : List Value)).length) Slot.unset).toArray = ls at hl ⊢
  have hl : lv_has ls 2 [(0, .ref (ad 1)), (1, .int a0)] := hl
  refine lv_iload_n hx hb dX1_round_0 rfl (lv_at hl 1 rfl) ?_
  refine lv_aload_n hx hb dX1_round_1 rfl (lv_at hl 0 rfl) ?_
  refine va_get (D := (dC, dI)) (ci := 1) (C := RX1) (T := TX1) (N := 2) hx hb hts inX1 hown hK hP 1 rfl rfl 0 (by decide) hw0 (fun _ h9 => h9) rfl dX1_round_2 ?_
  refine lv_iconst (v := 1) hx hb dX1_round_5 (by decide) ?_
  refine lv_isub hx hb dX1_round_6 ?_
  refine lv_iand hx hb dX1_round_7 ?_
  exact W.iret hx hb hr (fun t ht _ => ri rfl ht) no_locs dX1_round_8
theorem kd_X1_turned : yX1_turned.cls ≠ "java/lang/invoke/MethodHandle" ∧ yX1_turned.cls ≠ "java/lang/invoke/VarHandle" ∧ (parseMethodDescriptor yX1_turned.desc).map (fun d => d.parameters.length) = some 1 := by decide +kernel
set_option maxHeartbeats 4000000 in
set_option maxRecDepth 100000 in
theorem c_X1_turned (l : Launch) {dC : Nat → ClassId} {dI : Nat → Nat → Nat} {ad : Nat → Nat} {cI cJ : ClassId} {ln : Int32} {fg : Int32} {dg : Int32} {sc : Int32} {ms : Int32} {mi : Int32} {mv : Int32} {mw : Int32} {st : (Nat → Int64)} {fr : (Nat → Int64)} {sr : (Nat → Int64)} {pa : (Nat → Int64)} {nu : (Nat → Int32)} {a0 : Int32} : Met l yX1_turned wsX1_turned ({ frames := 0, cells := 0, slots := 0, locals := 0 }) (va_Pc ([.ref (ad 1), .int a0] : List Value) (gB (dC, dI) (tyw cI cJ) (xw ad cI cJ ln fg dg sc ms mi mv mw st fr sr pa nu))) (QcRead (f_turn a0 fg.toNatClampNeg)) 0 0 (fun _ => False) := by
  refine Met.ofW (cc := cX1_turned) (maxL := 4) (ret := (some .int)) (by decide) rfl ?_
  intro p e s m args below meth c s₁ B hml hv
  obtain ⟨rfl, hnw, hK, hP⟩ := hv
  have hx := B.exec
  have hb := B.bytes
  have hr := B.returns
  have hts := atoms_spec (ws := wsX1_turned) B.pre
  have hown : s.vm.findClass RX1 = some m.cls := findClass_of_methodNamed B.named
  have hlocks := B.notSynchronized
  have hw0 := hts (.fieldLink RX1 21 "BitStreams$Rows" "figures" "I") (by decide +kernel)
  have inX1 : ∀ w ∈ wsX10, w ∈ wsX1_turned := by decide +kernel
  have hl := lv_entry ([.ref (ad 1), .int a0] : List Value) (n := 4) (Nat.le_of_ble_eq_true rfl)
  rw [lg_entry_eq]
  generalize (lg_sl ([.ref (ad 1), .int a0] : List Value) ++ List.replicate (4 - (lg_sl ([.ref (ad 1), .int a0] : List Value)).length) Slot.unset).toArray = ls at hl ⊢
  have hl : lv_has ls 4 [(0, .ref (ad 1)), (1, .int a0)] := hl
  refine lv_iconst (v := 0) hx hb dX1_turned_0 (by decide) ?_
  refine lv_istore_n (lv' := [(2, .int _), (0, .ref _), (1, .int _)]) hx hb dX1_turned_1 rfl hl (by decide) rfl (fun ls hl => ?_)
  refine lv_iconst (v := 0) hx hb dX1_turned_2 (by decide) ?_
  refine lv_istore_n (lv' := [(3, .int _), (2, .int _), (0, .ref _), (1, .int _)]) hx hb dX1_turned_3 rfl hl (by decide) rfl (fun ls hl => ?_)
  have L4 : ∀ (n4 : Nat) (k : Nat), fg.toNatClampNeg + 1 ≤ k + n4 → (k ≤ fg.toNatClampNeg) → ∀ (ls : Array Slot), lv_has ls 4 [(0, .ref (ad 1)), (1, .int a0), (2, .int (f_turn a0 k)), (3, .int (nI k))] → W p l e { frames := 0, cells := 0, slots := 0, locals := 0 } s m ([.ref (ad 1), .int a0] : List Value).toArray below meth c s.heap [] 0 0 (MQ below (QcRead (f_turn a0 fg.toNatClampNeg)) ([.ref (ad 1), .int a0] : List Value).toArray s 0 0 (fun _ => False)) (F0 m 4 ls []) := by
    intro n4
    induction n4 with
    | zero =>
      intro k hf4 hk
      exact absurd hf4 (by omega)
    | succ n4 ih4 =>
      intro k hf4 hk ls hl
      refine lv_iload_n hx hb dX1_turned_4 rfl (lv_at hl 3 rfl) ?_
      refine lv_aload_n hx hb dX1_turned_5 rfl (lv_at hl 0 rfl) ?_
      refine va_get (D := (dC, dI)) (ci := 1) (C := RX1) (T := TX1) (N := 2) hx hb hts inX1 hown hK hP 1 rfl rfl 1 (by decide) hw0 (fun _ h9 => h9) rfl dX1_turned_6 ?_
      refine lv_icmp_ge (tgt := 28) hx hb dX1_turned_9 (by decide) (fun c_9 => ?_) (fun c_9 => ?_)
      · skip
        refine lv_iload_n hx hb dX1_turned_28 rfl (lv_at hl 2 rfl) ?_
        exact W.iret hx hb hr (fun t ht _ => ri (by rw [cl_end hk c_9]) ht) no_locs dX1_turned_29
      · skip
        refine lv_iload_n hx hb dX1_turned_12 rfl (lv_at hl 2 rfl) ?_
        refine lv_iconst (v := 1) hx hb dX1_turned_13 (by decide) ?_
        refine lv_ishl hx hb dX1_turned_14 ?_
        refine lv_iload_n hx hb dX1_turned_15 rfl (lv_at hl 1 rfl) ?_
        refine lv_iload_n hx hb dX1_turned_16 rfl (lv_at hl 3 rfl) ?_
        refine lv_ishr hx hb dX1_turned_17 ?_
        refine lv_iconst (v := 1) hx hb dX1_turned_18 (by decide) ?_
        refine lv_iand hx hb dX1_turned_19 ?_
        refine lv_ior hx hb dX1_turned_20 ?_
        refine lv_istore_n (lv' := [(2, .int _), (0, .ref _), (1, .int _), (3, .int _)]) hx hb dX1_turned_21 rfl hl (by decide) rfl (fun ls hl => ?_)
        refine lv_iinc (lv' := [(3, .int (nI (k + 1))), (2, .int _), (0, .ref _), (1, .int _)]) hx hb dX1_turned_22 hl (k := 3) rfl (nI_1 _) (by decide) rfl (fun ls hl => ?_)
        refine lv_goto (tgt := 4) hx hb dX1_turned_25 (by decide) ?_
        exact ih4 (k + 1) (by have := cl_go hk c_9; omega) (cl_go hk c_9) ls (lv_sub hl [2, 3, 1, 0] rfl)
  exact L4 (fg.toNatClampNeg + 1) 0 (by omega) (Nat.zero_le _) ls (lv_sub hl [2, 3, 1, 0] rfl)
theorem kd_X1_shifted : yX1_shifted.cls ≠ "java/lang/invoke/MethodHandle" ∧ yX1_shifted.cls ≠ "java/lang/invoke/VarHandle" ∧ (parseMethodDescriptor yX1_shifted.desc).map (fun d => d.parameters.length) = some 2 := by decide +kernel
set_option maxHeartbeats 4000000 in
set_option maxRecDepth 100000 in
theorem c_X1_shifted (l : Launch) {dC : Nat → ClassId} {dI : Nat → Nat → Nat} {ad : Nat → Nat} {cI cJ : ClassId} {ln : Int32} {fg : Int32} {dg : Int32} {sc : Int32} {ms : Int32} {mi : Int32} {mv : Int32} {mw : Int32} {st : (Nat → Int64)} {fr : (Nat → Int64)} {sr : (Nat → Int64)} {pa : (Nat → Int64)} {nu : (Nat → Int32)} {a0 : Int64} {a1 : Int32} : Met l yX1_shifted wsX1_shifted ({ frames := 1, cells := 0, slots := 0, locals := 21 }) (va_Pc ([.ref (ad 1), .long a0, .int a1] : List Value) (gB (dC, dI) (tyw cI cJ) (xw ad cI cJ ln fg dg sc ms mi mv mw st fr sr pa nu))) (qL (f_shifted ln a0 a1)) 0 0 (fun _ => False) := by
  refine Met.ofW (cc := cX1_shifted) (maxL := 5) (ret := (some .long)) (by decide) rfl ?_
  intro p e s m args below meth c s₁ B hml hv
  obtain ⟨rfl, hnw, hK, hP⟩ := hv
  have hx := B.exec
  have hb := B.bytes
  have hr := B.returns
  have hts := atoms_spec (ws := wsX1_shifted) B.pre
  have hown : s.vm.findClass RX1 = some m.cls := findClass_of_methodNamed B.named
  have hlocks := B.notSynchronized
  have hw0 := hts (.fieldLink RX1 9 "BitStreams$Rows" "length" "I") (by decide +kernel)
  have hw1 := hts (.initialized RX2) (by decide +kernel)
  have hw2 := hts (.static yX2_lowBits) (by decide +kernel)
  have inX1 : ∀ w ∈ wsX10, w ∈ wsX1_shifted := by decide +kernel
  have hl := lv_entry ([.ref (ad 1), .long a0, .int a1] : List Value) (n := 5) (Nat.le_of_ble_eq_true rfl)
  rw [lg_entry_eq]
  generalize (lg_sl ([.ref (ad 1), .long a0, .int a1] : List Value) ++ List.replicate (5 - (lg_sl ([.ref (ad 1), .long a0, .int a1] : List Value)).length) Slot.unset).toArray = ls at hl ⊢
  have hl : lv_has ls 5 [(0, .ref (ad 1)), (1, .long a0), (3, .int a1)] := hl
  refine lv_aload_n hx hb dX1_shifted_0 rfl (lv_at hl 0 rfl) ?_
  refine lv_iload_n hx hb dX1_shifted_1 rfl (lv_at hl 2 rfl) ?_
  refine ro_i (va_runV ⟨hx, hb, hml, hown, hts⟩ (c_X1_round l ) (cwV 1 hts gX1_shifted_X1_round rfl rfl rfl ⟨rfl, kd_X1_round⟩ ⟨Nat.le_of_ble_eq_true rfl, Nat.le_of_ble_eq_true rfl⟩) (preV1 hnw hK hP 1 1 rfl rfl) rfl rfl hl.1 rfl (lv_room (Nat.le_of_ble_eq_true rfl)) dX1_shifted_2 ⟨Nat.zero_le _, Nat.zero_le _⟩) ?_
  refine lv_istore (lv' := [(4, .int _), (0, .ref _), (1, .long _), (3, .int _)]) hx hb dX1_shifted_5 hl (by decide) rfl (fun ls hl => ?_)
  refine lv_lload_n hx hb dX1_shifted_7 rfl (lv_at hl 2 rfl) ?_
  refine lv_iload hx hb dX1_shifted_8 (lv_at hl 0 rfl) ?_
  refine lv_lushr hx hb dX1_shifted_10 rfl ?_
  refine lv_lload_n hx hb dX1_shifted_11 rfl (lv_at hl 2 rfl) ?_
  refine lv_aload_n hx hb dX1_shifted_12 rfl (lv_at hl 1 rfl) ?_
  refine va_get (D := (dC, dI)) (ci := 1) (C := RX1) (T := TX1) (N := 2) hx hb hts inX1 hown hK hP 1 rfl rfl 0 (by decide) hw0 (fun _ h9 => h9) rfl dX1_shifted_13 ?_
  refine lv_iload hx hb dX1_shifted_16 (lv_at hl 0 rfl) ?_
  refine lv_isub hx hb dX1_shifted_18 ?_
  refine lv_lshl hx hb dX1_shifted_19 rfl ?_
  refine lv_lor hx hb dX1_shifted_20 ?_
  refine lv_aload_n hx hb dX1_shifted_21 rfl (lv_at hl 1 rfl) ?_
  refine va_get (D := (dC, dI)) (ci := 1) (C := RX1) (T := TX1) (N := 2) hx hb hts inX1 hown hK hP 1 rfl rfl 0 (by decide) hw0 (fun _ h9 => h9) rfl dX1_shifted_22 ?_
  refine ro_l (va_runSN ⟨hx, hb, hml, hown, hts⟩ (c_X2_lowBits l ) ⟨va_cnB 1 hts gX1_shifted_X2_lowBits_n27 rfl rfl rfl (hnw.at 8 rfl) hw1 kd_X2_lowBits ⟨Nat.le_of_ble_eq_true rfl, Nat.le_of_ble_eq_true rfl⟩, hw2, trivial⟩ preS0 rfl rfl hl.1 rfl (lv_room (Nat.le_of_ble_eq_true rfl)) dX1_shifted_25 ⟨Nat.zero_le _, Nat.zero_le _⟩) ?_
  refine lv_land hx hb dX1_shifted_28 ?_
  exact W.lret hx hb hr (fun t ht _ => rl rfl ht) no_locs dX1_shifted_29
theorem kd_X1_turnedRow : yX1_turnedRow.cls ≠ "java/lang/invoke/MethodHandle" ∧ yX1_turnedRow.cls ≠ "java/lang/invoke/VarHandle" ∧ (parseMethodDescriptor yX1_turnedRow.desc).map (fun d => d.parameters.length) = some 1 := by decide +kernel
set_option maxHeartbeats 4000000 in
set_option maxRecDepth 100000 in
theorem c_X1_turnedRow (l : Launch) {dC : Nat → ClassId} {dI : Nat → Nat → Nat} {ad : Nat → Nat} {cI cJ : ClassId} {ln : Int32} {fg : Int32} {dg : Int32} {sc : Int32} {ms : Int32} {mi : Int32} {mv : Int32} {mw : Int32} {st : (Nat → Int64)} {fr : (Nat → Int64)} {sr : (Nat → Int64)} {pa : (Nat → Int64)} {nu : (Nat → Int32)} {a0 : Int32} : Met l yX1_turnedRow wsX1_turnedRow ({ frames := 1, cells := 0, slots := 0, locals := 23 }) (va_Pc ([.ref (ad 1), .int a0] : List Value) (gB (dC, dI) (tyw cI cJ) (xw ad cI cJ ln fg dg sc ms mi mv mw st fr sr pa nu))) (qL (f_tRow fg a0.toNatClampNeg)) 0 0 (fun _ => False) := by
  refine Met.ofW (cc := cX1_turnedRow) (maxL := 5) (ret := (some .long)) (by decide) rfl ?_
  intro p e s m args below meth c s₁ B hml hv
  obtain ⟨rfl, hnw, hK, hP⟩ := hv
  have hx := B.exec
  have hb := B.bytes
  have hr := B.returns
  have hts := atoms_spec (ws := wsX1_turnedRow) B.pre
  have hown : s.vm.findClass RX1 = some m.cls := findClass_of_methodNamed B.named
  have hlocks := B.notSynchronized
  have hl := lv_entry ([.ref (ad 1), .int a0] : List Value) (n := 5) (Nat.le_of_ble_eq_true rfl)
  rw [lg_entry_eq]
  generalize (lg_sl ([.ref (ad 1), .int a0] : List Value) ++ List.replicate (5 - (lg_sl ([.ref (ad 1), .int a0] : List Value)).length) Slot.unset).toArray = ls at hl ⊢
  have hl : lv_has ls 5 [(0, .ref (ad 1)), (1, .int a0)] := hl
  refine lv_lconst (v := 0) hx hb dX1_turnedRow_0 (by decide) ?_
  refine lv_lstore_n (lv' := [(2, .long _), (0, .ref _), (1, .int _)]) hx hb dX1_turnedRow_1 rfl hl (by decide) rfl (fun ls hl => ?_)
  refine lv_iconst (v := 0) hx hb dX1_turnedRow_2 (by decide) ?_
  refine lv_istore (lv' := [(4, .int _), (2, .long _), (0, .ref _), (1, .int _)]) hx hb dX1_turnedRow_3 hl (by decide) rfl (fun ls hl => ?_)
  have L5 : ∀ (n5 : Nat) (k : Nat), a0.toNatClampNeg + 1 ≤ k + n5 → (k ≤ a0.toNatClampNeg) → ∀ (ls : Array Slot), lv_has ls 5 [(0, .ref (ad 1)), (1, .int a0), (2, .long (f_tRow fg k)), (4, .int (nI k))] → W p l e { frames := 1, cells := 0, slots := 0, locals := 23 } s m ([.ref (ad 1), .int a0] : List Value).toArray below meth c s.heap [] 0 0 (MQ below (qL (f_tRow fg a0.toNatClampNeg)) ([.ref (ad 1), .int a0] : List Value).toArray s 0 0 (fun _ => False)) (F0 m 5 ls []) := by
    intro n5
    induction n5 with
    | zero =>
      intro k hf5 hk
      exact absurd hf5 (by omega)
    | succ n5 ih5 =>
      intro k hf5 hk ls hl
      refine lv_iload hx hb dX1_turnedRow_5 (lv_at hl 3 rfl) ?_
      refine lv_iload_n hx hb dX1_turnedRow_7 rfl (lv_at hl 1 rfl) ?_
      refine lv_icmp_ge (tgt := 28) hx hb dX1_turnedRow_8 (by decide) (fun c_8 => ?_) (fun c_8 => ?_)
      · skip
        refine lv_lload_n hx hb dX1_turnedRow_28 rfl (lv_at hl 2 rfl) ?_
        exact W.lret hx hb hr (fun t ht _ => rl (by rw [cl_end hk c_8]) ht) no_locs dX1_turnedRow_29
      · skip
        refine lv_lload_n hx hb dX1_turnedRow_11 rfl (lv_at hl 2 rfl) ?_
        refine lv_lconst (v := 1) hx hb dX1_turnedRow_12 (by decide) ?_
        refine lv_aload_n hx hb dX1_turnedRow_13 rfl (lv_at hl 0 rfl) ?_
        refine lv_iload hx hb dX1_turnedRow_14 (lv_at hl 3 rfl) ?_
        refine ro_i (va_runV ⟨hx, hb, hml, hown, hts⟩ (c_X1_turned l ) (cwV 1 hts gX1_turnedRow_X1_turned rfl rfl rfl ⟨rfl, kd_X1_turned⟩ ⟨Nat.le_of_ble_eq_true rfl, Nat.le_of_ble_eq_true rfl⟩) (preV1 hnw hK hP 1 1 rfl rfl) rfl rfl hl.1 rfl (lv_room (Nat.le_of_ble_eq_true rfl)) dX1_turnedRow_16 ⟨Nat.zero_le _, Nat.zero_le _⟩) ?_
        refine lv_lshl hx hb dX1_turnedRow_19 rfl ?_
        refine lv_lor hx hb dX1_turnedRow_20 ?_
        refine lv_lstore_n (lv' := [(2, .long _), (0, .ref _), (1, .int _), (4, .int _)]) hx hb dX1_turnedRow_21 rfl hl (by decide) rfl (fun ls hl => ?_)
        refine lv_iinc (lv' := [(4, .int (nI (k + 1))), (2, .long _), (0, .ref _), (1, .int _)]) hx hb dX1_turnedRow_22 hl (k := 3) rfl (nI_1 _) (by decide) rfl (fun ls hl => ?_)
        refine lv_goto (tgt := 5) hx hb dX1_turnedRow_25 (by decide) ?_
        exact ih5 (k + 1) (by have := cl_go hk c_8; omega) (cl_go hk c_8) ls (lv_sub hl [2, 3, 1, 0] rfl)
  exact L5 (a0.toNatClampNeg + 1) 0 (by omega) (Nat.zero_le _) ls (lv_sub hl [2, 3, 1, 0] rfl)
theorem kd_X1_spreadRow : yX1_spreadRow.cls ≠ "java/lang/invoke/MethodHandle" ∧ yX1_spreadRow.cls ≠ "java/lang/invoke/VarHandle" ∧ (parseMethodDescriptor yX1_spreadRow.desc).map (fun d => d.parameters.length) = some 1 := by decide +kernel
set_option maxHeartbeats 4000000 in
set_option maxRecDepth 100000 in
theorem c_X1_spreadRow (l : Launch) {dC : Nat → ClassId} {dI : Nat → Nat → Nat} {ad : Nat → Nat} {cI cJ : ClassId} {ln : Int32} {fg : Int32} {dg : Int32} {sc : Int32} {ms : Int32} {mi : Int32} {mv : Int32} {mw : Int32} {st : (Nat → Int64)} {fr : (Nat → Int64)} {sr : (Nat → Int64)} {pa : (Nat → Int64)} {nu : (Nat → Int32)} {a0 : Int32} : Met l yX1_spreadRow wsX1_spreadRow ({ frames := 0, cells := 0, slots := 0, locals := 0 }) (va_Pc ([.ref (ad 1), .int a0] : List Value) (gB (dC, dI) (tyw cI cJ) (xw ad cI cJ ln fg dg sc ms mi mv mw st fr sr pa nu))) (qL (f_sRow fg a0 ln.toNatClampNeg)) 0 0 (fun _ => False) := by
  refine Met.ofW (cc := cX1_spreadRow) (maxL := 5) (ret := (some .long)) (by decide) rfl ?_
  intro p e s m args below meth c s₁ B hml hv
  obtain ⟨rfl, hnw, hK, hP⟩ := hv
  have hx := B.exec
  have hb := B.bytes
  have hr := B.returns
  have hts := atoms_spec (ws := wsX1_spreadRow) B.pre
  have hown : s.vm.findClass RX1 = some m.cls := findClass_of_methodNamed B.named
  have hlocks := B.notSynchronized
  have hw0 := hts (.fieldLink RX1 9 "BitStreams$Rows" "length" "I") (by decide +kernel)
  have hw1 := hts (.fieldLink RX1 21 "BitStreams$Rows" "figures" "I") (by decide +kernel)
  have inX1 : ∀ w ∈ wsX10, w ∈ wsX1_spreadRow := by decide +kernel
  have hl := lv_entry ([.ref (ad 1), .int a0] : List Value) (n := 5) (Nat.le_of_ble_eq_true rfl)
  rw [lg_entry_eq]
  generalize (lg_sl ([.ref (ad 1), .int a0] : List Value) ++ List.replicate (5 - (lg_sl ([.ref (ad 1), .int a0] : List Value)).length) Slot.unset).toArray = ls at hl ⊢
  have hl : lv_has ls 5 [(0, .ref (ad 1)), (1, .int a0)] := hl
  refine lv_lconst (v := 0) hx hb dX1_spreadRow_0 (by decide) ?_
  refine lv_lstore_n (lv' := [(2, .long _), (0, .ref _), (1, .int _)]) hx hb dX1_spreadRow_1 rfl hl (by decide) rfl (fun ls hl => ?_)
  refine lv_iconst (v := 0) hx hb dX1_spreadRow_2 (by decide) ?_
  refine lv_istore (lv' := [(4, .int _), (2, .long _), (0, .ref _), (1, .int _)]) hx hb dX1_spreadRow_3 hl (by decide) rfl (fun ls hl => ?_)
  have L5 : ∀ (n5 : Nat) (k : Nat) (row : Int64), ln.toNatClampNeg + 1 ≤ k + n5 → (k ≤ ln.toNatClampNeg) → (row = f_sRow fg a0 k) → ∀ (ls : Array Slot), lv_has ls 5 [(0, .ref (ad 1)), (1, .int a0), (2, .long row), (4, .int (nI k))] → W p l e { frames := 0, cells := 0, slots := 0, locals := 0 } s m ([.ref (ad 1), .int a0] : List Value).toArray below meth c s.heap [] 0 0 (MQ below (qL (f_sRow fg a0 ln.toNatClampNeg)) ([.ref (ad 1), .int a0] : List Value).toArray s 0 0 (fun _ => False)) (F0 m 5 ls []) := by
    intro n5
    induction n5 with
    | zero =>
      intro k row hf5 hk hrow
      exact absurd hf5 (by omega)
    | succ n5 ih5 =>
      intro k row hf5 hk hrow ls hl
      refine lv_iload hx hb dX1_spreadRow_5 (lv_at hl 3 rfl) ?_
      refine lv_aload_n hx hb dX1_spreadRow_7 rfl (lv_at hl 0 rfl) ?_
      refine va_get (D := (dC, dI)) (ci := 1) (C := RX1) (T := TX1) (N := 2) hx hb hts inX1 hown hK hP 1 rfl rfl 0 (by decide) hw0 (fun _ h9 => h9) rfl dX1_spreadRow_8 ?_
      refine lv_icmp_ge (tgt := 50) hx hb dX1_spreadRow_11 (by decide) (fun c_11 => ?_) (fun c_11 => ?_)
      · skip
        refine lv_lload_n hx hb dX1_spreadRow_50 rfl (lv_at hl 2 rfl) ?_
        exact W.lret hx hb hr (fun t ht _ => rl (by rw [cl_end hk c_11]; exact hrow) ht) no_locs dX1_spreadRow_51
      · skip
        refine lv_iload_n hx hb dX1_spreadRow_14 rfl (lv_at hl 1 rfl) ?_
        refine lv_iload hx hb dX1_spreadRow_15 (lv_at hl 3 rfl) ?_
        refine lv_iconst (v := 1) hx hb dX1_spreadRow_17 (by decide) ?_
        refine lv_iadd hx hb dX1_spreadRow_18 ?_
        refine lv_imul hx hb dX1_spreadRow_19 ?_
        refine lv_aload_n hx hb dX1_spreadRow_20 rfl (lv_at hl 0 rfl) ?_
        refine va_get (D := (dC, dI)) (ci := 1) (C := RX1) (T := TX1) (N := 2) hx hb hts inX1 hown hK hP 1 rfl rfl 1 (by decide) hw1 (fun _ h9 => h9) rfl dX1_spreadRow_21 ?_
        refine lv_ishr hx hb dX1_spreadRow_24 ?_
        refine lv_iload_n hx hb dX1_spreadRow_25 rfl (lv_at hl 1 rfl) ?_
        refine lv_iload hx hb dX1_spreadRow_26 (lv_at hl 3 rfl) ?_
        refine lv_imul hx hb dX1_spreadRow_28 ?_
        refine lv_aload_n hx hb dX1_spreadRow_29 rfl (lv_at hl 0 rfl) ?_
        refine va_get (D := (dC, dI)) (ci := 1) (C := RX1) (T := TX1) (N := 2) hx hb hts inX1 hown hK hP 1 rfl rfl 1 (by decide) hw1 (fun _ h9 => h9) rfl dX1_spreadRow_30 ?_
        refine lv_ishr hx hb dX1_spreadRow_33 ?_
        refine lv_icmp_le (tgt := 44) hx hb dX1_spreadRow_34 (by decide) (fun c_34 => ?_) (fun c_34 => ?_)
        · skip
          refine lv_iinc (lv' := [(4, .int (nI (k + 1))), (0, .ref _), (1, .int _), (2, .long _)]) hx hb dX1_spreadRow_44 hl (k := 3) rfl (nI_1 _) (by decide) rfl (fun ls hl => ?_)
          refine lv_goto (tgt := 5) hx hb dX1_spreadRow_47 (by decide) ?_
          exact ih5 (k + 1) _ (by have := cl_go hk c_11; omega) (cl_go hk c_11) (by rw [f_sRow]; first | (rw [if_pos c_34]; exact hrow) | (rw [if_neg c_34, hrow]; rfl)) ls (lv_sub hl [1, 2, 3, 0] rfl)
        · skip
          refine lv_lload_n hx hb dX1_spreadRow_37 rfl (lv_at hl 2 rfl) ?_
          refine lv_lconst (v := 1) hx hb dX1_spreadRow_38 (by decide) ?_
          refine lv_iload hx hb dX1_spreadRow_39 (lv_at hl 3 rfl) ?_
          refine lv_lshl hx hb dX1_spreadRow_41 rfl ?_
          refine lv_lor hx hb dX1_spreadRow_42 ?_
          refine lv_lstore_n (lv' := [(2, .long _), (0, .ref _), (1, .int _), (4, .int _)]) hx hb dX1_spreadRow_43 rfl hl (by decide) rfl (fun ls hl => ?_)
          refine lv_iinc (lv' := [(4, .int (nI (k + 1))), (2, .long _), (0, .ref _), (1, .int _)]) hx hb dX1_spreadRow_44 hl (k := 3) rfl (nI_1 _) (by decide) rfl (fun ls hl => ?_)
          refine lv_goto (tgt := 5) hx hb dX1_spreadRow_47 (by decide) ?_
          exact ih5 (k + 1) _ (by have := cl_go hk c_11; omega) (cl_go hk c_11) (by rw [f_sRow]; first | (rw [if_pos c_34]; exact hrow) | (rw [if_neg c_34, hrow]; rfl)) ls (lv_sub hl [2, 3, 1, 0] rfl)
  exact L5 (ln.toNatClampNeg + 1) 0 _ (by omega) (Nat.zero_le _) rfl ls (lv_sub hl [2, 3, 1, 0] rfl)
theorem kd_X1_tapsOfLength : yX1_tapsOfLength.cls ≠ "java/lang/invoke/MethodHandle" ∧ yX1_tapsOfLength.cls ≠ "java/lang/invoke/VarHandle" ∧ (parseMethodDescriptor yX1_tapsOfLength.desc).map (fun d => d.parameters.length) = some 0 := by decide +kernel
set_option maxHeartbeats 4000000 in
set_option maxRecDepth 100000 in
theorem c_X1_tapsOfLength (l : Launch) {dC : Nat → ClassId} {dI : Nat → Nat → Nat} {ad : Nat → Nat} {cI cJ : ClassId} {ln : Int32} {fg : Int32} {dg : Int32} {sc : Int32} {ms : Int32} {mi : Int32} {mv : Int32} {mw : Int32} {st : (Nat → Int64)} {fr : (Nat → Int64)} {sr : (Nat → Int64)} {pa : (Nat → Int64)} {nu : (Nat → Int32)}  : Met l yX1_tapsOfLength wsX1_tapsOfLength ({ frames := 0, cells := 0, slots := 0, locals := 0 }) (va_Pc ([.ref (ad 1)] : List Value) (gB (dC, dI) (tyw cI cJ) (xw ad cI cJ ln fg dg sc ms mi mv mw st fr sr pa nu))) (QcRead (f_taps ln)) 0 0 (fun _ => False) := by
  refine Met.ofW (cc := cX1_tapsOfLength) (maxL := 1) (ret := (some .int)) (by decide) rfl ?_
  intro p e s m args below meth c s₁ B hml hv
  obtain ⟨rfl, hnw, hK, hP⟩ := hv
  have hx := B.exec
  have hb := B.bytes
  have hr := B.returns
  have hts := atoms_spec (ws := wsX1_tapsOfLength) B.pre
  have hown : s.vm.findClass RX1 = some m.cls := findClass_of_methodNamed B.named
  have hlocks := B.notSynchronized
  have hw0 := hts (.fieldLink RX1 9 "BitStreams$Rows" "length" "I") (by decide +kernel)
  have inX1 : ∀ w ∈ wsX10, w ∈ wsX1_tapsOfLength := by decide +kernel
  have hl := lv_entry ([.ref (ad 1)] : List Value) (n := 1) (Nat.le_of_ble_eq_true rfl)
  rw [lg_entry_eq]
  generalize (lg_sl ([.ref (ad 1)] : List Value) ++ List.replicate (1 - (lg_sl ([.ref (ad 1)] : List Value)).length) Slot.unset).toArray = ls at hl ⊢
  have hl : lv_has ls 1 [(0, .ref (ad 1))] := hl
  refine lv_aload_n hx hb dX1_tapsOfLength_0 rfl (lv_at hl 0 rfl) ?_
  refine va_get (D := (dC, dI)) (ci := 1) (C := RX1) (T := TX1) (N := 2) hx hb hts inX1 hown hK hP 1 rfl rfl 0 (by decide) hw0 (fun _ h9 => h9) rfl dX1_tapsOfLength_1 ?_
  refine lv_topi (fun z_4 e_4 => ?_)
  by_cases n_4_8 : z_4 = 8
  · subst n_4_8
    refine lv_lookup (off := 36) (tgt := 40) hx hb dX1_tapsOfLength_4 (by decide) (by decide) (by decide) ?_
    refine lv_bipush (v := 6) hx hb dX1_tapsOfLength_40 (by decide) ?_
    exact W.iret hx hb hr (fun t ht _ => ri (by rw [← e_4]; first | rfl | (unfold f_taps; rw [if_neg n_4_8, if_neg n_4_16, if_neg n_4_32])) ht) no_locs dX1_tapsOfLength_42
  by_cases n_4_16 : z_4 = 16
  · subst n_4_16
    refine lv_lookup (off := 39) (tgt := 43) hx hb dX1_tapsOfLength_4 (by decide) (by decide) (by decide) ?_
    refine lv_bipush (v := 12) hx hb dX1_tapsOfLength_43 (by decide) ?_
    exact W.iret hx hb hr (fun t ht _ => ri (by rw [← e_4]; first | rfl | (unfold f_taps; rw [if_neg n_4_8, if_neg n_4_16, if_neg n_4_32])) ht) no_locs dX1_tapsOfLength_45
  by_cases n_4_32 : z_4 = 32
  · subst n_4_32
    refine lv_lookup (off := 42) (tgt := 46) hx hb dX1_tapsOfLength_4 (by decide) (by decide) (by decide) ?_
    refine lv_bipush (v := 20) hx hb dX1_tapsOfLength_46 (by decide) ?_
    exact W.iret hx hb hr (fun t ht _ => ri (by rw [← e_4]; first | rfl | (unfold f_taps; rw [if_neg n_4_8, if_neg n_4_16, if_neg n_4_32])) ht) no_locs dX1_tapsOfLength_48
  refine lv_lookup (off := 45) (tgt := 49) hx hb dX1_tapsOfLength_4 (by decide) (by rw [lv_osw n_4_8 (by decide)]; rw [lv_osw n_4_16 (by decide)]; rw [lv_osw n_4_32 (by decide)]; rfl) (by decide) ?_
  refine lv_bipush (v := 48) hx hb dX1_tapsOfLength_49 (by decide) ?_
  exact W.iret hx hb hr (fun t ht _ => ri (by rw [← e_4]; first | rfl | (unfold f_taps; rw [if_neg n_4_8, if_neg n_4_16, if_neg n_4_32])) ht) no_locs dX1_tapsOfLength_51
theorem kd_X1_registerRow : yX1_registerRow.cls ≠ "java/lang/invoke/MethodHandle" ∧ yX1_registerRow.cls ≠ "java/lang/invoke/VarHandle" ∧ (parseMethodDescriptor yX1_registerRow.desc).map (fun d => d.parameters.length) = some 1 := by decide +kernel
set_option maxHeartbeats 4000000 in
set_option maxRecDepth 100000 in
theorem c_X1_registerRow (l : Launch) {dC : Nat → ClassId} {dI : Nat → Nat → Nat} {ad : Nat → Nat} {cI cJ : ClassId} {ln : Int32} {fg : Int32} {dg : Int32} {sc : Int32} {ms : Int32} {mi : Int32} {mv : Int32} {mw : Int32} {st : (Nat → Int64)} {fr : (Nat → Int64)} {sr : (Nat → Int64)} {pa : (Nat → Int64)} {nu : (Nat → Int32)} {a0 : Int32} : Met l yX1_registerRow wsX1_registerRow ({ frames := 1, cells := 0, slots := 0, locals := 20 }) (va_Pc ([.ref (ad 1), .int a0] : List Value) (gB (dC, dI) (tyw cI cJ) (xw ad cI cJ ln fg dg sc ms mi mv mw st fr sr pa nu))) (qL (f_register ln a0)) 0 0 (fun _ => False) := by
  refine Met.ofW (cc := cX1_registerRow) (maxL := 7) (ret := (some .long)) (by decide) rfl ?_
  intro p e s m args below meth c s₁ B hml hv
  obtain ⟨rfl, hnw, hK, hP⟩ := hv
  have hx := B.exec
  have hb := B.bytes
  have hr := B.returns
  have hts := atoms_spec (ws := wsX1_registerRow) B.pre
  have hown : s.vm.findClass RX1 = some m.cls := findClass_of_methodNamed B.named
  have hlocks := B.notSynchronized
  have hw0 := hts (.fieldLink RX1 9 "BitStreams$Rows" "length" "I") (by decide +kernel)
  have inX1 : ∀ w ∈ wsX10, w ∈ wsX1_registerRow := by decide +kernel
  have hl := lv_entry ([.ref (ad 1), .int a0] : List Value) (n := 7) (Nat.le_of_ble_eq_true rfl)
  rw [lg_entry_eq]
  generalize (lg_sl ([.ref (ad 1), .int a0] : List Value) ++ List.replicate (7 - (lg_sl ([.ref (ad 1), .int a0] : List Value)).length) Slot.unset).toArray = ls at hl ⊢
  have hl : lv_has ls 7 [(0, .ref (ad 1)), (1, .int a0)] := hl
  refine lv_aload_n hx hb dX1_registerRow_0 rfl (lv_at hl 0 rfl) ?_
  refine ro_i (va_runV ⟨hx, hb, hml, hown, hts⟩ (c_X1_tapsOfLength l ) (cwV 0 hts gX1_registerRow_X1_tapsOfLength rfl rfl rfl ⟨rfl, kd_X1_tapsOfLength⟩ ⟨Nat.le_of_ble_eq_true rfl, Nat.le_of_ble_eq_true rfl⟩) (preV1 hnw hK hP 1 1 rfl rfl) rfl rfl hl.1 rfl (lv_room (Nat.le_of_ble_eq_true rfl)) dX1_registerRow_1 ⟨Nat.zero_le _, Nat.zero_le _⟩) ?_
  refine lv_istore_n (lv' := [(2, .int _), (0, .ref _), (1, .int _)]) hx hb dX1_registerRow_4 rfl hl (by decide) rfl (fun ls hl => ?_)
  refine lv_iconst (v := 1) hx hb dX1_registerRow_5 (by decide) ?_
  refine lv_istore_n (lv' := [(3, .int _), (2, .int _), (0, .ref _), (1, .int _)]) hx hb dX1_registerRow_6 rfl hl (by decide) rfl (fun ls hl => ?_)
  refine lv_lconst (v := 0) hx hb dX1_registerRow_7 (by decide) ?_
  refine lv_lstore (lv' := [(4, .long _), (3, .int _), (2, .int _), (0, .ref _), (1, .int _)]) hx hb dX1_registerRow_8 hl (by decide) rfl (fun ls hl => ?_)
  refine lv_iconst (v := 0) hx hb dX1_registerRow_10 (by decide) ?_
  refine lv_istore (lv' := [(6, .int _), (4, .long _), (3, .int _), (2, .int _), (0, .ref _), (1, .int _)]) hx hb dX1_registerRow_11 hl (by decide) rfl (fun ls hl => ?_)
  have L13 : ∀ (n13 : Nat) (k : Nat) (row : Int64) (r : Int32), (ln - 1).toNatClampNeg + 1 ≤ k + n13 → (k ≤ (ln - 1).toNatClampNeg) → (row = f_rRow (f_taps ln) a0 k) → (r = f_reg (f_taps ln) k) → ∀ (ls : Array Slot), lv_has ls 7 [(0, .ref (ad 1)), (1, .int a0), (2, .int (f_taps ln)), (3, .int r), (4, .long row), (6, .int (nI k))] → W p l e { frames := 1, cells := 0, slots := 0, locals := 20 } s m ([.ref (ad 1), .int a0] : List Value).toArray below meth c s.heap [] 0 0 (MQ below (qL (f_register ln a0)) ([.ref (ad 1), .int a0] : List Value).toArray s 0 0 (fun _ => False)) (F0 m 13 ls []) := by
    intro n13
    induction n13 with
    | zero =>
      intro k row r hf13 hk hrow hrr
      exact absurd hf13 (by omega)
    | succ n13 ih13 =>
      intro k row r hf13 hk hrow hrr ls hl
      refine lv_iload hx hb dX1_registerRow_13 (lv_at hl 5 rfl) ?_
      refine lv_aload_n hx hb dX1_registerRow_15 rfl (lv_at hl 0 rfl) ?_
      refine va_get (D := (dC, dI)) (ci := 1) (C := RX1) (T := TX1) (N := 2) hx hb hts inX1 hown hK hP 1 rfl rfl 0 (by decide) hw0 (fun _ h9 => h9) rfl dX1_registerRow_16 ?_
      refine lv_iconst (v := 1) hx hb dX1_registerRow_19 (by decide) ?_
      refine lv_isub hx hb dX1_registerRow_20 ?_
      refine lv_icmp_ge (tgt := 63) hx hb dX1_registerRow_21 (by decide) (fun c_21 => ?_) (fun c_21 => ?_)
      · skip
        refine lv_aload_n hx hb dX1_registerRow_63 rfl (lv_at hl 0 rfl) ?_
        refine va_get (D := (dC, dI)) (ci := 1) (C := RX1) (T := TX1) (N := 2) hx hb hts inX1 hown hK hP 1 rfl rfl 0 (by decide) hw0 (fun _ h9 => h9) rfl dX1_registerRow_64 ?_
        refine lv_iload_n hx hb dX1_registerRow_67 rfl (lv_at hl 1 rfl) ?_
        refine lv_icmp_gt (tgt := 85) hx hb dX1_registerRow_68 (by decide) (fun c_68 => ?_) (fun c_68 => ?_)
        · skip
          refine lv_lload hx hb dX1_registerRow_85 (lv_at hl 4 rfl) ?_
          exact W.lret hx hb hr (fun t ht _ => rl (by unfold f_register; rw [cl_end hk c_21, ← hrow]; first | (rw [if_pos c_68]) | (rw [if_neg c_68]; rfl)) ht) no_locs dX1_registerRow_87
        · skip
          refine lv_lload hx hb dX1_registerRow_71 (lv_at hl 4 rfl) ?_
          refine lv_lconst (v := 1) hx hb dX1_registerRow_73 (by decide) ?_
          refine lv_aload_n hx hb dX1_registerRow_74 rfl (lv_at hl 0 rfl) ?_
          refine va_get (D := (dC, dI)) (ci := 1) (C := RX1) (T := TX1) (N := 2) hx hb hts inX1 hown hK hP 1 rfl rfl 0 (by decide) hw0 (fun _ h9 => h9) rfl dX1_registerRow_75 ?_
          refine lv_iconst (v := 1) hx hb dX1_registerRow_78 (by decide) ?_
          refine lv_isub hx hb dX1_registerRow_79 ?_
          refine lv_lshl hx hb dX1_registerRow_80 rfl ?_
          refine lv_lor hx hb dX1_registerRow_81 ?_
          refine lv_goto (tgt := 87) hx hb dX1_registerRow_82 (by decide) ?_
          exact W.lret hx hb hr (fun t ht _ => rl (by unfold f_register; rw [cl_end hk c_21, ← hrow]; first | (rw [if_pos c_68]) | (rw [if_neg c_68]; rfl)) ht) no_locs dX1_registerRow_87
      · skip
        refine lv_iload_n hx hb dX1_registerRow_24 rfl (lv_at hl 3 rfl) ?_
        refine lv_iload_n hx hb dX1_registerRow_25 rfl (lv_at hl 1 rfl) ?_
        refine lv_icmp_gt (tgt := 38) hx hb dX1_registerRow_26 (by decide) (fun c_26 => ?_) (fun c_26 => ?_)
        · skip
          refine lv_iload_n hx hb dX1_registerRow_38 rfl (lv_at hl 3 rfl) ?_
          refine lv_iconst (v := 1) hx hb dX1_registerRow_39 (by decide) ?_
          refine lv_iand hx hb dX1_registerRow_40 ?_
          refine lv_iconst (v := 1) hx hb dX1_registerRow_41 (by decide) ?_
          refine lv_icmp_ne (tgt := 53) hx hb dX1_registerRow_42 (by decide) (fun c_42 => ?_) (fun c_42 => ?_)
          · skip
            refine lv_iload_n hx hb dX1_registerRow_53 rfl (lv_at hl 3 rfl) ?_
            refine lv_iconst (v := 1) hx hb dX1_registerRow_54 (by decide) ?_
            refine lv_ishr hx hb dX1_registerRow_55 ?_
            refine lv_istore_n (lv' := [(3, .int _), (0, .ref _), (1, .int _), (2, .int _), (4, .long _), (6, .int _)]) hx hb dX1_registerRow_56 rfl hl (by decide) rfl (fun ls hl => ?_)
            refine lv_iinc (lv' := [(6, .int (nI (k + 1))), (3, .int _), (0, .ref _), (1, .int _), (2, .int _), (4, .long _)]) hx hb dX1_registerRow_57 hl (k := 5) rfl (nI_1 _) (by decide) rfl (fun ls hl => ?_)
            refine lv_goto (tgt := 13) hx hb dX1_registerRow_60 (by decide) ?_
            exact ih13 (k + 1) _ _ (by have := cl_go hk c_21; omega) (cl_go hk c_21) (by rw [f_rRow, ← hrr]; first | (rw [if_pos c_26]; exact hrow) | (rw [if_neg c_26, hrow]; rfl)) (by rw [f_reg, ← hrr]; unfold f_regn; first | rw [if_pos c_42] | rw [if_neg c_42]) ls (lv_sub hl [2, 3, 4, 1, 5, 0] rfl)
          · skip
            refine lv_iload_n hx hb dX1_registerRow_45 rfl (lv_at hl 3 rfl) ?_
            refine lv_iconst (v := 1) hx hb dX1_registerRow_46 (by decide) ?_
            refine lv_ishr hx hb dX1_registerRow_47 ?_
            refine lv_iload_n hx hb dX1_registerRow_48 rfl (lv_at hl 2 rfl) ?_
            refine lv_ixor hx hb dX1_registerRow_49 ?_
            refine lv_goto (tgt := 56) hx hb dX1_registerRow_50 (by decide) ?_
            refine lv_istore_n (lv' := [(3, .int _), (0, .ref _), (1, .int _), (2, .int _), (4, .long _), (6, .int _)]) hx hb dX1_registerRow_56 rfl hl (by decide) rfl (fun ls hl => ?_)
            refine lv_iinc (lv' := [(6, .int (nI (k + 1))), (3, .int _), (0, .ref _), (1, .int _), (2, .int _), (4, .long _)]) hx hb dX1_registerRow_57 hl (k := 5) rfl (nI_1 _) (by decide) rfl (fun ls hl => ?_)
            refine lv_goto (tgt := 13) hx hb dX1_registerRow_60 (by decide) ?_
            exact ih13 (k + 1) _ _ (by have := cl_go hk c_21; omega) (cl_go hk c_21) (by rw [f_rRow, ← hrr]; first | (rw [if_pos c_26]; exact hrow) | (rw [if_neg c_26, hrow]; rfl)) (by rw [f_reg, ← hrr]; unfold f_regn; first | rw [if_pos c_42] | rw [if_neg c_42]) ls (lv_sub hl [2, 3, 4, 1, 5, 0] rfl)
        · skip
          refine lv_lload hx hb dX1_registerRow_29 (lv_at hl 4 rfl) ?_
          refine lv_lconst (v := 1) hx hb dX1_registerRow_31 (by decide) ?_
          refine lv_iload hx hb dX1_registerRow_32 (lv_at hl 5 rfl) ?_
          refine lv_lshl hx hb dX1_registerRow_34 rfl ?_
          refine lv_lor hx hb dX1_registerRow_35 ?_
          refine lv_lstore (lv' := [(4, .long _), (0, .ref _), (1, .int _), (2, .int _), (3, .int _), (6, .int _)]) hx hb dX1_registerRow_36 hl (by decide) rfl (fun ls hl => ?_)
          refine lv_iload_n hx hb dX1_registerRow_38 rfl (lv_at hl 4 rfl) ?_
          refine lv_iconst (v := 1) hx hb dX1_registerRow_39 (by decide) ?_
          refine lv_iand hx hb dX1_registerRow_40 ?_
          refine lv_iconst (v := 1) hx hb dX1_registerRow_41 (by decide) ?_
          refine lv_icmp_ne (tgt := 53) hx hb dX1_registerRow_42 (by decide) (fun c_42 => ?_) (fun c_42 => ?_)
          · skip
            refine lv_iload_n hx hb dX1_registerRow_53 rfl (lv_at hl 4 rfl) ?_
            refine lv_iconst (v := 1) hx hb dX1_registerRow_54 (by decide) ?_
            refine lv_ishr hx hb dX1_registerRow_55 ?_
            refine lv_istore_n (lv' := [(3, .int _), (4, .long _), (0, .ref _), (1, .int _), (2, .int _), (6, .int _)]) hx hb dX1_registerRow_56 rfl hl (by decide) rfl (fun ls hl => ?_)
            refine lv_iinc (lv' := [(6, .int (nI (k + 1))), (3, .int _), (4, .long _), (0, .ref _), (1, .int _), (2, .int _)]) hx hb dX1_registerRow_57 hl (k := 5) rfl (nI_1 _) (by decide) rfl (fun ls hl => ?_)
            refine lv_goto (tgt := 13) hx hb dX1_registerRow_60 (by decide) ?_
            exact ih13 (k + 1) _ _ (by have := cl_go hk c_21; omega) (cl_go hk c_21) (by rw [f_rRow, ← hrr]; first | (rw [if_pos c_26]; exact hrow) | (rw [if_neg c_26, hrow]; rfl)) (by rw [f_reg, ← hrr]; unfold f_regn; first | rw [if_pos c_42] | rw [if_neg c_42]) ls (lv_sub hl [3, 4, 5, 1, 2, 0] rfl)
          · skip
            refine lv_iload_n hx hb dX1_registerRow_45 rfl (lv_at hl 4 rfl) ?_
            refine lv_iconst (v := 1) hx hb dX1_registerRow_46 (by decide) ?_
            refine lv_ishr hx hb dX1_registerRow_47 ?_
            refine lv_iload_n hx hb dX1_registerRow_48 rfl (lv_at hl 3 rfl) ?_
            refine lv_ixor hx hb dX1_registerRow_49 ?_
            refine lv_goto (tgt := 56) hx hb dX1_registerRow_50 (by decide) ?_
            refine lv_istore_n (lv' := [(3, .int _), (4, .long _), (0, .ref _), (1, .int _), (2, .int _), (6, .int _)]) hx hb dX1_registerRow_56 rfl hl (by decide) rfl (fun ls hl => ?_)
            refine lv_iinc (lv' := [(6, .int (nI (k + 1))), (3, .int _), (4, .long _), (0, .ref _), (1, .int _), (2, .int _)]) hx hb dX1_registerRow_57 hl (k := 5) rfl (nI_1 _) (by decide) rfl (fun ls hl => ?_)
            refine lv_goto (tgt := 13) hx hb dX1_registerRow_60 (by decide) ?_
            exact ih13 (k + 1) _ _ (by have := cl_go hk c_21; omega) (cl_go hk c_21) (by rw [f_rRow, ← hrr]; first | (rw [if_pos c_26]; exact hrow) | (rw [if_neg c_26, hrow]; rfl)) (by rw [f_reg, ← hrr]; unfold f_regn; first | rw [if_pos c_42] | rw [if_neg c_42]) ls (lv_sub hl [3, 4, 5, 1, 2, 0] rfl)
  exact L13 ((ln - 1).toNatClampNeg + 1) 0 _ _ (by omega) (Nat.zero_le _) rfl rfl ls (lv_sub hl [4, 5, 3, 2, 1, 0] rfl)
theorem kd_X1_ofSource : yX1_ofSource.cls ≠ "java/lang/invoke/MethodHandle" ∧ yX1_ofSource.cls ≠ "java/lang/invoke/VarHandle" ∧ (parseMethodDescriptor yX1_ofSource.desc).map (fun d => d.parameters.length) = some 2 := by decide +kernel
set_option maxHeartbeats 4000000 in
set_option maxRecDepth 100000 in
theorem c_X1_ofSource (l : Launch) {dC : Nat → ClassId} {dI : Nat → Nat → Nat} {ad : Nat → Nat} {cI cJ : ClassId} {ln : Int32} {fg : Int32} {dg : Int32} {sc : Int32} {ms : Int32} {mi : Int32} {mv : Int32} {mw : Int32} {st : (Nat → Int64)} {fr : (Nat → Int64)} {sr : (Nat → Int64)} {pa : (Nat → Int64)} {nu : (Nat → Int32)} {a0 a1 : Int32} : Met l yX1_ofSource wsX1_ofSource ({ frames := 2, cells := 0, slots := 0, locals := 47 }) (va_Pc ([.ref (ad 1), .int a0, .int a1] : List Value) (gB (dC, dI) (tyw cI cJ) (xw ad cI cJ ln fg dg sc ms mi mv mw st fr sr pa nu))) (qL (f_src ln fg a0 a1)) 0 0 (fun _ => False) := by
  refine Met.ofW (cc := cX1_ofSource) (maxL := 3) (ret := (some .long)) (by decide) rfl ?_
  intro p e s m args below meth c s₁ B hml hv
  obtain ⟨rfl, hnw, hK, hP⟩ := hv
  have hx := B.exec
  have hb := B.bytes
  have hr := B.returns
  have hts := atoms_spec (ws := wsX1_ofSource) B.pre
  have hown : s.vm.findClass RX1 = some m.cls := findClass_of_methodNamed B.named
  have hlocks := B.notSynchronized
  have hw0 := hts (.initialized RX2) (by decide +kernel)
  have hw1 := hts (.static yX2_lowBits) (by decide +kernel)
  have hl := lv_entry ([.ref (ad 1), .int a0, .int a1] : List Value) (n := 3) (Nat.le_of_ble_eq_true rfl)
  rw [lg_entry_eq]
  generalize (lg_sl ([.ref (ad 1), .int a0, .int a1] : List Value) ++ List.replicate (3 - (lg_sl ([.ref (ad 1), .int a0, .int a1] : List Value)).length) Slot.unset).toArray = ls at hl ⊢
  have hl : lv_has ls 3 [(0, .ref (ad 1)), (1, .int a0), (2, .int a1)] := hl
  refine lv_iload_n hx hb dX1_ofSource_0 rfl (lv_at hl 1 rfl) ?_
  refine lv_topi (fun z_1 e_1 => ?_)
  by_cases n_1_0 : z_1 = 0
  · subst n_1_0
    refine lv_tableIn (off := 27) (tgt := 28) hx hb dX1_ofSource_1 (by decide) (by decide) (by decide) (by decide) ?_
    refine lv_iload_n hx hb dX1_ofSource_28 rfl (lv_at hl 2 rfl) ?_
    refine ro_l (va_runSN ⟨hx, hb, hml, hown, hts⟩ (c_X2_lowBits l ) ⟨va_cnB 1 hts gX1_ofSource_X2_lowBits_n27 rfl rfl rfl (hnw.at 8 rfl) hw0 kd_X2_lowBits ⟨Nat.le_of_ble_eq_true rfl, Nat.le_of_ble_eq_true rfl⟩, hw1, trivial⟩ preS0 rfl rfl hl.1 rfl (lv_room (Nat.le_of_ble_eq_true rfl)) dX1_ofSource_29 ⟨Nat.zero_le _, Nat.zero_le _⟩) ?_
    exact W.lret hx hb hr (fun t ht _ => rl (by rw [← e_1]; first | rfl | (unfold f_src; rw [if_neg n_1_0, if_neg n_1_1, if_neg n_1_2])) ht) no_locs dX1_ofSource_32
  by_cases n_1_1 : z_1 = 1
  · subst n_1_1
    refine lv_tableIn (off := 32) (tgt := 33) hx hb dX1_ofSource_1 (by decide) (by decide) (by decide) (by decide) ?_
    refine lv_aload_n hx hb dX1_ofSource_33 rfl (lv_at hl 0 rfl) ?_
    refine lv_iload_n hx hb dX1_ofSource_34 rfl (lv_at hl 2 rfl) ?_
    refine ro_l (va_runV ⟨hx, hb, hml, hown, hts⟩ (c_X1_turnedRow l ) (cwV 1 hts gX1_ofSource_X1_turnedRow rfl rfl rfl ⟨rfl, kd_X1_turnedRow⟩ ⟨Nat.le_of_ble_eq_true rfl, Nat.le_of_ble_eq_true rfl⟩) (preV1 hnw hK hP 1 1 rfl rfl) rfl rfl hl.1 rfl (lv_room (Nat.le_of_ble_eq_true rfl)) dX1_ofSource_35 ⟨Nat.zero_le _, Nat.zero_le _⟩) ?_
    exact W.lret hx hb hr (fun t ht _ => rl (by rw [← e_1]; first | rfl | (unfold f_src; rw [if_neg n_1_0, if_neg n_1_1, if_neg n_1_2])) ht) no_locs dX1_ofSource_38
  by_cases n_1_2 : z_1 = 2
  · subst n_1_2
    refine lv_tableIn (off := 38) (tgt := 39) hx hb dX1_ofSource_1 (by decide) (by decide) (by decide) (by decide) ?_
    refine lv_aload_n hx hb dX1_ofSource_39 rfl (lv_at hl 0 rfl) ?_
    refine lv_iload_n hx hb dX1_ofSource_40 rfl (lv_at hl 2 rfl) ?_
    refine ro_l (va_runV ⟨hx, hb, hml, hown, hts⟩ (c_X1_spreadRow l ) (cwV 1 hts gX1_ofSource_X1_spreadRow rfl rfl rfl ⟨rfl, kd_X1_spreadRow⟩ ⟨Nat.le_of_ble_eq_true rfl, Nat.le_of_ble_eq_true rfl⟩) (preV1 hnw hK hP 1 1 rfl rfl) rfl rfl hl.1 rfl (lv_room (Nat.le_of_ble_eq_true rfl)) dX1_ofSource_41 ⟨Nat.zero_le _, Nat.zero_le _⟩) ?_
    exact W.lret hx hb hr (fun t ht _ => rl (by rw [← e_1]; first | rfl | (unfold f_src; rw [if_neg n_1_0, if_neg n_1_1, if_neg n_1_2])) ht) no_locs dX1_ofSource_44
  have nb_1 : z_1.toInt < 0 ∨ 2 < z_1.toInt := by
    have q0 := lv_neT (a := 0) n_1_0 (by decide)
    have q1 := lv_neT (a := 1) n_1_1 (by decide)
    have q2 := lv_neT (a := 2) n_1_2 (by decide)
    omega
  refine lv_tableOut (tgt := 45) hx hb dX1_ofSource_1 nb_1 (by decide) ?_
  refine lv_aload_n hx hb dX1_ofSource_45 rfl (lv_at hl 0 rfl) ?_
  refine lv_iload_n hx hb dX1_ofSource_46 rfl (lv_at hl 2 rfl) ?_
  refine ro_l (va_runV ⟨hx, hb, hml, hown, hts⟩ (c_X1_registerRow l ) (cwV 1 hts gX1_ofSource_X1_registerRow rfl rfl rfl ⟨rfl, kd_X1_registerRow⟩ ⟨Nat.le_of_ble_eq_true rfl, Nat.le_of_ble_eq_true rfl⟩) (preV1 hnw hK hP 1 1 rfl rfl) rfl rfl hl.1 rfl (lv_room (Nat.le_of_ble_eq_true rfl)) dX1_ofSource_47 ⟨Nat.zero_le _, Nat.zero_le _⟩) ?_
  exact W.lret hx hb hr (fun t ht _ => rl (by rw [← e_1]; first | rfl | (unfold f_src; rw [if_neg n_1_0, if_neg n_1_1, if_neg n_1_2])) ht) no_locs dX1_ofSource_50
theorem kd_X0_waysBut : yX0_waysBut.cls ≠ "java/lang/invoke/MethodHandle" ∧ yX0_waysBut.cls ≠ "java/lang/invoke/VarHandle" ∧ (parseMethodDescriptor yX0_waysBut.desc).map (fun d => d.parameters.length) = some 2 := by decide +kernel
set_option maxHeartbeats 4000000 in
set_option maxRecDepth 100000 in
theorem c_X0_waysBut (l : Launch) {dC : Nat → ClassId} {dI : Nat → Nat → Nat} {ad : Nat → Nat} {cI cJ : ClassId} {ln : Int32} {fg : Int32} {sc : Int32} {ms : Int32} {mi : Int32} {mv : Int32} {mw : Int32} {st : (Nat → Int64)} {fr : (Nat → Int64)} {sr : (Nat → Int64)} {pa : (Nat → Int64)} {nu : (Nat → Int32)} {a0 a1 : Int32} {d : Nat} (hd : d ≤ 4) : Met l yX0_waysBut wsX0_waysBut ({ frames := 1, cells := 0, slots := 0, locals := 24 }) (va_Pc ([.ref (ad 2), .int a0, .int a1] : List Value) (gB (dC, dI) (tyw cI cJ) (xw ad cI cJ ln fg (nI d) sc ms mi mv mw st fr sr pa nu))) (qL (f_wb a0 a1 (d + 1))) 0 0 (fun _ => False) := by
  refine Met.ofW (cc := cX0_waysBut) (maxL := 6) (ret := (some .long)) (by decide) rfl ?_
  intro p e s m args below meth c s₁ B hml hv
  obtain ⟨rfl, hnw, hK, hP⟩ := hv
  have hx := B.exec
  have hb := B.bytes
  have hr := B.returns
  have hts := atoms_spec (ws := wsX0_waysBut) B.pre
  have hown : s.vm.findClass RX0 = some m.cls := findClass_of_methodNamed B.named
  have hlocks := B.notSynchronized
  have hw0 := hts (.fieldLink RX0 15 "BitStreams$Form" "degree" "I") (by decide +kernel)
  have inX0 : ∀ w ∈ wsX00, w ∈ wsX0_waysBut := by decide +kernel
  have hl := lv_entry ([.ref (ad 2), .int a0, .int a1] : List Value) (n := 6) (Nat.le_of_ble_eq_true rfl)
  rw [lg_entry_eq]
  generalize (lg_sl ([.ref (ad 2), .int a0, .int a1] : List Value) ++ List.replicate (6 - (lg_sl ([.ref (ad 2), .int a0, .int a1] : List Value)).length) Slot.unset).toArray = ls at hl ⊢
  have hl : lv_has ls 6 [(0, .ref (ad 2)), (1, .int a0), (2, .int a1)] := hl
  refine lv_lconst (v := 1) hx hb dX0_waysBut_0 (by decide) ?_
  refine lv_lstore_n (lv' := [(3, .long _), (0, .ref _), (1, .int _), (2, .int _)]) hx hb dX0_waysBut_1 rfl hl (by decide) rfl (fun ls hl => ?_)
  refine lv_iconst (v := 0) hx hb dX0_waysBut_2 (by decide) ?_
  refine lv_istore (lv' := [(5, .int _), (3, .long _), (0, .ref _), (1, .int _), (2, .int _)]) hx hb dX0_waysBut_3 hl (by decide) rfl (fun ls hl => ?_)
  have L5 : ∀ (n5 : Nat) (k : Nat) (w : Int64), d + 2 ≤ k + n5 → (k ≤ d + 1) → (w = f_wb a0 a1 k) → ∀ (ls : Array Slot), lv_has ls 6 [(0, .ref (ad 2)), (1, .int a0), (2, .int a1), (3, .long w), (5, .int (nI k))] → W p l e { frames := 1, cells := 0, slots := 0, locals := 24 } s m ([.ref (ad 2), .int a0, .int a1] : List Value).toArray below meth c s.heap [] 0 0 (MQ below (qL (f_wb a0 a1 (d + 1))) ([.ref (ad 2), .int a0, .int a1] : List Value).toArray s 0 0 (fun _ => False)) (F0 m 5 ls []) := by
    intro n5
    induction n5 with
    | zero =>
      intro k w hf5 hk hw
      exact absurd hf5 (by omega)
    | succ n5 ih5 =>
      intro k w hf5 hk hw ls hl
      refine lv_iload hx hb dX0_waysBut_5 (lv_at hl 4 rfl) ?_
      refine lv_aload_n hx hb dX0_waysBut_7 rfl (lv_at hl 0 rfl) ?_
      refine va_get (D := (dC, dI)) (ci := 0) (C := RX0) (T := TX0) (N := 3) hx hb hts inX0 hown hK hP 2 rfl rfl 1 (by decide) hw0 (fun _ h9 => h9) rfl dX0_waysBut_8 ?_
      refine lv_icmp_gt (tgt := 35) hx hb dX0_waysBut_11 (by decide) (fun c_11 => ?_) (fun c_11 => ?_)
      · skip
        have hz := nI_nlt_end hk (by omega) c_11
        refine lv_lload_n hx hb dX0_waysBut_35 rfl (lv_at hl 3 rfl) ?_
        exact W.lret hx hb hr (fun t ht _ => rl (by rw [hw, hz]) ht) no_locs dX0_waysBut_36
      · skip
        have hz := nI_nlt_go hk (by omega) c_11
        refine lv_iload hx hb dX0_waysBut_14 (lv_at hl 4 rfl) ?_
        refine lv_iload_n hx hb dX0_waysBut_16 rfl (lv_at hl 2 rfl) ?_
        refine lv_icmp_eq (tgt := 29) hx hb dX0_waysBut_17 (by decide) (fun c_17 => ?_) (fun c_17 => ?_)
        · skip
          refine lv_iinc (lv' := [(5, .int (nI (k + 1))), (0, .ref _), (1, .int _), (2, .int _), (3, .long _)]) hx hb dX0_waysBut_29 hl (k := 4) rfl (nI_1 _) (by decide) rfl (fun ls hl => ?_)
          refine lv_goto (tgt := 5) hx hb dX0_waysBut_32 (by decide) ?_
          exact ih5 (k + 1) _ (by omega) (by omega) (by rw [f_wb]; first | (rw [if_pos c_17]; exact hw) | (rw [if_neg c_17, hw, nI_cl (by omega)])) ls (lv_sub hl [1, 2, 3, 4, 0] rfl)
        · skip
          refine lv_lload_n hx hb dX0_waysBut_20 rfl (lv_at hl 3 rfl) ?_
          refine lv_iload_n hx hb dX0_waysBut_21 rfl (lv_at hl 1 rfl) ?_
          refine lv_iload hx hb dX0_waysBut_22 (lv_at hl 4 rfl) ?_
          refine ro_l (va_runS ⟨hx, hb, hml, hown, hts⟩ (c_X0_ways l (by rw [nI_cl (by omega)]; omega)) (va_cwS 2 hts gX0_waysBut_X0_ways rfl rfl rfl kd_X0_ways ⟨Nat.le_of_ble_eq_true rfl, Nat.le_of_ble_eq_true rfl⟩) preS0 rfl rfl hl.1 rfl (lv_room (Nat.le_of_ble_eq_true rfl)) dX0_waysBut_24 ⟨Nat.zero_le _, Nat.zero_le _⟩) ?_
          refine lv_lmul hx hb dX0_waysBut_27 ?_
          refine lv_lstore_n (lv' := [(3, .long _), (0, .ref _), (1, .int _), (2, .int _), (5, .int _)]) hx hb dX0_waysBut_28 rfl hl (by decide) rfl (fun ls hl => ?_)
          refine lv_iinc (lv' := [(5, .int (nI (k + 1))), (3, .long _), (0, .ref _), (1, .int _), (2, .int _)]) hx hb dX0_waysBut_29 hl (k := 4) rfl (nI_1 _) (by decide) rfl (fun ls hl => ?_)
          refine lv_goto (tgt := 5) hx hb dX0_waysBut_32 (by decide) ?_
          exact ih5 (k + 1) _ (by omega) (by omega) (by rw [f_wb]; first | (rw [if_pos c_17]; exact hw) | (rw [if_neg c_17, hw, nI_cl (by omega)])) ls (lv_sub hl [2, 3, 4, 1, 0] rfl)
  exact L5 (d + 2) 0 _ (by omega) (Nat.zero_le _) rfl ls (lv_sub hl [2, 3, 4, 1, 0] rfl)
theorem kd_X0_partBelow : yX0_partBelow.cls ≠ "java/lang/invoke/MethodHandle" ∧ yX0_partBelow.cls ≠ "java/lang/invoke/VarHandle" ∧ (parseMethodDescriptor yX0_partBelow.desc).map (fun d => d.parameters.length) = some 1 := by decide +kernel
set_option maxHeartbeats 4000000 in
set_option maxRecDepth 100000 in
theorem c_X0_partBelow (l : Launch) {dC : Nat → ClassId} {dI : Nat → Nat → Nat} {ad : Nat → Nat} {cI cJ : ClassId} {ln : Int32} {fg : Int32} {sc : Int32} {ms : Int32} {mi : Int32} {mv : Int32} {mw : Int32} {st : (Nat → Int64)} {fr : (Nat → Int64)} {sr : (Nat → Int64)} {pa : (Nat → Int64)} {nu : (Nat → Int32)} {a0 : Int32} {d : Nat} (hd : d ≤ 4) : Met l yX0_partBelow wsX0_partBelow ({ frames := 2, cells := 0, slots := 0, locals := 49 }) (va_Pc ([.ref (ad 2), .int a0] : List Value) (gB (dC, dI) (tyw cI cJ) (xw ad cI cJ ln fg (nI d) sc ms mi mv mw st fr sr pa nu))) (qL (f_pb d sc a0)) 0 0 (fun _ => False) := by
  refine Met.ofW (cc := cX0_partBelow) (maxL := 2) (ret := (some .long)) (by decide) rfl ?_
  intro p e s m args below meth c s₁ B hml hv
  obtain ⟨rfl, hnw, hK, hP⟩ := hv
  have hx := B.exec
  have hb := B.bytes
  have hr := B.returns
  have hts := atoms_spec (ws := wsX0_partBelow) B.pre
  have hown : s.vm.findClass RX0 = some m.cls := findClass_of_methodNamed B.named
  have hlocks := B.notSynchronized
  have hw0 := hts (.fieldLink RX0 19 "BitStreams$Form" "scale" "I") (by decide +kernel)
  have inX0 : ∀ w ∈ wsX00, w ∈ wsX0_partBelow := by decide +kernel
  have hl := lv_entry ([.ref (ad 2), .int a0] : List Value) (n := 2) (Nat.le_of_ble_eq_true rfl)
  rw [lg_entry_eq]
  generalize (lg_sl ([.ref (ad 2), .int a0] : List Value) ++ List.replicate (2 - (lg_sl ([.ref (ad 2), .int a0] : List Value)).length) Slot.unset).toArray = ls at hl ⊢
  have hl : lv_has ls 2 [(0, .ref (ad 2)), (1, .int a0)] := hl
  refine lv_aload_n hx hb dX0_partBelow_0 rfl (lv_at hl 0 rfl) ?_
  refine va_get (D := (dC, dI)) (ci := 0) (C := RX0) (T := TX0) (N := 3) hx hb hts inX0 hown hK hP 2 rfl rfl 2 (by decide) hw0 (fun _ h9 => h9) rfl dX0_partBelow_1 ?_
  refine lv_i2l hx hb dX0_partBelow_4 rfl ?_
  refine lv_aload_n hx hb dX0_partBelow_5 rfl (lv_at hl 0 rfl) ?_
  refine lv_iload_n hx hb dX0_partBelow_6 rfl (lv_at hl 1 rfl) ?_
  refine lv_iconst (v := (-1)) hx hb dX0_partBelow_7 (by decide) ?_
  refine ro_l (va_runV ⟨hx, hb, hml, hown, hts⟩ (c_X0_waysBut l hd) (cwV 2 hts gX0_partBelow_X0_waysBut rfl rfl rfl ⟨rfl, kd_X0_waysBut⟩ ⟨Nat.le_of_ble_eq_true rfl, Nat.le_of_ble_eq_true rfl⟩) (preV1 hnw hK hP 2 0 rfl rfl) rfl rfl hl.1 rfl (lv_room (Nat.le_of_ble_eq_true rfl)) dX0_partBelow_8 ⟨Nat.zero_le _, Nat.zero_le _⟩) ?_
  refine lv_lmul hx hb dX0_partBelow_11 ?_
  exact W.lret hx hb hr (fun t ht _ => rl rfl ht) no_locs dX0_partBelow_12
theorem kd_X0_partAbove : yX0_partAbove.cls ≠ "java/lang/invoke/MethodHandle" ∧ yX0_partAbove.cls ≠ "java/lang/invoke/VarHandle" ∧ (parseMethodDescriptor yX0_partAbove.desc).map (fun d => d.parameters.length) = some 2 := by decide +kernel
set_option maxHeartbeats 4000000 in
set_option maxRecDepth 100000 in
theorem c_X0_partAbove (l : Launch) {dC : Nat → ClassId} {dI : Nat → Nat → Nat} {ad : Nat → Nat} {cI cJ : ClassId} {ln : Int32} {fg : Int32} {sc : Int32} {ms : Int32} {mi : Int32} {mv : Int32} {mw : Int32} {st : (Nat → Int64)} {fr : (Nat → Int64)} {sr : (Nat → Int64)} {pa : (Nat → Int64)} {nu : (Nat → Int32)} {a0 : Int32} {d j : Nat} (hd : d ≤ 4) (hj : j ≤ 10) : Met l yX0_partAbove wsX0_partAbove ({ frames := 2, cells := 0, slots := 0, locals := 49 }) (va_Pc ([.ref (ad 2), .int a0, .int (nI j)] : List Value) (gB (dC, dI) (tyw cI cJ) (xw ad cI cJ ln fg (nI d) sc ms mi mv mw st fr sr pa nu))) (qL (f_up d nu a0 j)) 0 0 (fun _ => False) := by
  refine Met.ofW (cc := cX0_partAbove) (maxL := 6) (ret := (some .long)) (by decide) rfl ?_
  intro p e s m args below meth c s₁ B hml hv
  obtain ⟨rfl, hnw, hK, hP⟩ := hv
  have hx := B.exec
  have hb := B.bytes
  have hr := B.returns
  have hts := atoms_spec (ws := wsX0_partAbove) B.pre
  have hown : s.vm.findClass RX0 = some m.cls := findClass_of_methodNamed B.named
  have hlocks := B.notSynchronized
  have hw0 := hts (.fieldLink RX0 15 "BitStreams$Form" "degree" "I") (by decide +kernel)
  have hw1 := hts (.fieldLink RX0 9 "BitStreams$Form" "numbers" "[I") (by decide +kernel)
  have inX0 : ∀ w ∈ wsX00, w ∈ wsX0_partAbove := by decide +kernel
  have hl := lv_entry ([.ref (ad 2), .int a0, .int (nI j)] : List Value) (n := 6) (Nat.le_of_ble_eq_true rfl)
  rw [lg_entry_eq]
  generalize (lg_sl ([.ref (ad 2), .int a0, .int (nI j)] : List Value) ++ List.replicate (6 - (lg_sl ([.ref (ad 2), .int a0, .int (nI j)] : List Value)).length) Slot.unset).toArray = ls at hl ⊢
  have hl : lv_has ls 6 [(0, .ref (ad 2)), (1, .int a0), (2, .int (nI j))] := hl
  refine lv_lconst (v := 0) hx hb dX0_partAbove_0 (by decide) ?_
  refine lv_lstore_n (lv' := [(3, .long _), (0, .ref _), (1, .int _), (2, .int _)]) hx hb dX0_partAbove_1 rfl hl (by decide) rfl (fun ls hl => ?_)
  refine lv_iconst (v := 0) hx hb dX0_partAbove_2 (by decide) ?_
  refine lv_istore (lv' := [(5, .int _), (3, .long _), (0, .ref _), (1, .int _), (2, .int _)]) hx hb dX0_partAbove_3 hl (by decide) rfl (fun ls hl => ?_)
  have L5 : ∀ (n5 : Nat) (k : Nat) (w : Int64), min d j + 2 ≤ k + n5 → (k ≤ min d j + 1) → (w = f_pa d nu a0 (nI j) k) → ∀ (ls : Array Slot), lv_has ls 6 [(0, .ref (ad 2)), (1, .int a0), (2, .int (nI j)), (3, .long w), (5, .int (nI k))] → W p l e { frames := 2, cells := 0, slots := 0, locals := 49 } s m ([.ref (ad 2), .int a0, .int (nI j)] : List Value).toArray below meth c s.heap [] 0 0 (MQ below (qL (f_up d nu a0 j)) ([.ref (ad 2), .int a0, .int (nI j)] : List Value).toArray s 0 0 (fun _ => False)) (F0 m 5 ls []) := by
    intro n5
    induction n5 with
    | zero =>
      intro k w hf5 hk hw
      exact absurd hf5 (by omega)
    | succ n5 ih5 =>
      intro k w hf5 hk hw ls hl
      refine lv_iload hx hb dX0_partAbove_5 (lv_at hl 4 rfl) ?_
      refine lv_aload_n hx hb dX0_partAbove_7 rfl (lv_at hl 0 rfl) ?_
      refine va_get (D := (dC, dI)) (ci := 0) (C := RX0) (T := TX0) (N := 3) hx hb hts inX0 hown hK hP 2 rfl rfl 1 (by decide) hw0 (fun _ h9 => h9) rfl dX0_partAbove_8 ?_
      refine lv_icmp_gt (tgt := 52) hx hb dX0_partAbove_11 (by decide) (fun c_11 => ?_) (fun c_11 => ?_)
      · skip
        have hz : min d j + 1 = k := by have := nI_nlt_end (k := k) (n := d) (by omega) (by omega) c_11; omega
        refine lv_lload_n hx hb dX0_partAbove_52 rfl (lv_at hl 3 rfl) ?_
        exact W.lret hx hb hr (fun t ht _ => rl (by unfold f_up; rw [hw, hz]) ht) no_locs dX0_partAbove_53
      · skip
        have hz1 := nI_nlt_go (k := k) (n := d) (by omega) (by omega) c_11
        refine lv_iload hx hb dX0_partAbove_14 (lv_at hl 4 rfl) ?_
        refine lv_iload_n hx hb dX0_partAbove_16 rfl (lv_at hl 2 rfl) ?_
        refine lv_icmp_gt (tgt := 52) hx hb dX0_partAbove_17 (by decide) (fun c_17 => ?_) (fun c_17 => ?_)
        · skip
          have hz : min d j + 1 = k := by have := nI_nlt_end (k := k) (n := j) (by omega) (by omega) c_17; omega
          refine lv_lload_n hx hb dX0_partAbove_52 rfl (lv_at hl 3 rfl) ?_
          exact W.lret hx hb hr (fun t ht _ => rl (by unfold f_up; rw [hw, hz]) ht) no_locs dX0_partAbove_53
        · skip
          have hz2 := nI_nlt_go (k := k) (n := j) (by omega) (by omega) c_17
          refine lv_lload_n hx hb dX0_partAbove_20 rfl (lv_at hl 3 rfl) ?_
          refine lv_iload_n hx hb dX0_partAbove_21 rfl (lv_at hl 2 rfl) ?_
          refine lv_iload hx hb dX0_partAbove_22 (lv_at hl 4 rfl) ?_
          refine ro_l (va_runS ⟨hx, hb, hml, hown, hts⟩ (c_X0_ways l (by rw [nI_cl (by omega)]; omega)) (va_cwS 2 hts gX0_partAbove_X0_ways rfl rfl rfl kd_X0_ways ⟨Nat.le_of_ble_eq_true rfl, Nat.le_of_ble_eq_true rfl⟩) preS0 rfl rfl hl.1 rfl (lv_room (Nat.le_of_ble_eq_true rfl)) dX0_partAbove_24 ⟨Nat.zero_le _, Nat.zero_le _⟩) ?_
          refine lv_aload_n hx hb dX0_partAbove_27 rfl (lv_at hl 0 rfl) ?_
          refine va_get (D := (dC, dI)) (ci := 0) (C := RX0) (T := TX0) (N := 3) hx hb hts inX0 hown hK hP 2 rfl rfl 0 (by decide) hw1 (fun _ h9 => h9) rfl dX0_partAbove_28 ?_
          refine lv_iload hx hb dX0_partAbove_31 (lv_at hl 4 rfl) ?_
          refine va_iald hx hb hK hP 7 0 rfl rfl (vp_in_nI (by omega) (by omega)) dX0_partAbove_33 ?_
          refine st_i (v := nu k) (by rw [nI_cl (by omega)]) ?_
          refine lv_i2l hx hb dX0_partAbove_34 rfl ?_
          refine lv_lmul hx hb dX0_partAbove_35 ?_
          refine lv_aload_n hx hb dX0_partAbove_36 rfl (lv_at hl 0 rfl) ?_
          refine lv_iload_n hx hb dX0_partAbove_37 rfl (lv_at hl 1 rfl) ?_
          refine lv_iload hx hb dX0_partAbove_38 (lv_at hl 4 rfl) ?_
          refine ro_l (va_runV ⟨hx, hb, hml, hown, hts⟩ (c_X0_waysBut l hd) (cwV 2 hts gX0_partAbove_X0_waysBut rfl rfl rfl ⟨rfl, kd_X0_waysBut⟩ ⟨Nat.le_of_ble_eq_true rfl, Nat.le_of_ble_eq_true rfl⟩) (preV1 hnw hK hP 2 0 rfl rfl) rfl rfl hl.1 rfl (lv_room (Nat.le_of_ble_eq_true rfl)) dX0_partAbove_40 ⟨Nat.zero_le _, Nat.zero_le _⟩) ?_
          refine lv_lmul hx hb dX0_partAbove_43 ?_
          refine lv_ladd hx hb dX0_partAbove_44 ?_
          refine lv_lstore_n (lv' := [(3, .long _), (0, .ref _), (1, .int _), (2, .int _), (5, .int _)]) hx hb dX0_partAbove_45 rfl hl (by decide) rfl (fun ls hl => ?_)
          refine lv_iinc (lv' := [(5, .int (nI (k + 1))), (3, .long _), (0, .ref _), (1, .int _), (2, .int _)]) hx hb dX0_partAbove_46 hl (k := 4) rfl (nI_1 _) (by decide) rfl (fun ls hl => ?_)
          refine lv_goto (tgt := 5) hx hb dX0_partAbove_49 (by decide) ?_
          exact ih5 (k + 1) _ (by omega) (by omega) (by rw [f_pa, hw, nI_cl (by omega)]) ls (lv_sub hl [2, 3, 4, 1, 0] rfl)
  exact L5 (min d j + 2) 0 _ (by omega) (Nat.zero_le _) rfl ls (lv_sub hl [2, 3, 4, 1, 0] rfl)
theorem kd_X0_mayBeMade : yX0_mayBeMade.cls ≠ "java/lang/invoke/MethodHandle" ∧ yX0_mayBeMade.cls ≠ "java/lang/invoke/VarHandle" ∧ (parseMethodDescriptor yX0_mayBeMade.desc).map (fun d => d.parameters.length) = some 1 := by decide +kernel
set_option maxHeartbeats 4000000 in
set_option maxRecDepth 100000 in
theorem c_X0_mayBeMade (l : Launch) {dC : Nat → ClassId} {dI : Nat → Nat → Nat} {ad : Nat → Nat} {cI cJ : ClassId} {ln : Int32} {fg : Int32} {sc : Int32} {ms : Int32} {mi : Int32} {mv : Int32} {mw : Int32} {st : (Nat → Int64)} {fr : (Nat → Int64)} {sr : (Nat → Int64)} {pa : (Nat → Int64)} {nu : (Nat → Int32)} {d mm : Nat} (hd : d ≤ 4) (hm : mm ≤ 10) : Met l yX0_mayBeMade wsX0_mayBeMade ({ frames := 3, cells := 0, slots := 0, locals := 74 }) (va_Pc ([.ref (ad 2), .int (nI mm)] : List Value) (gB (dC, dI) (tyw cI cJ) (xw ad cI cJ ln fg (nI d) sc ms mi mv mw st fr sr pa nu))) (QcRead (bI (∀ j, j < mm + 1 → f_ok d nu sc (nI mm) j))) 0 0 (fun _ => False) := by
  refine Met.ofW (cc := cX0_mayBeMade) (maxL := 7) (ret := (some .boolean)) (by decide) rfl ?_
  intro p e s m args below meth c s₁ B hml hv
  obtain ⟨rfl, hnw, hK, hP⟩ := hv
  have hx := B.exec
  have hb := B.bytes
  have hr := B.returns
  have hts := atoms_spec (ws := wsX0_mayBeMade) B.pre
  have hown : s.vm.findClass RX0 = some m.cls := findClass_of_methodNamed B.named
  have hlocks := B.notSynchronized
  have hl := lv_entry ([.ref (ad 2), .int (nI mm)] : List Value) (n := 7) (Nat.le_of_ble_eq_true rfl)
  rw [lg_entry_eq]
  generalize (lg_sl ([.ref (ad 2), .int (nI mm)] : List Value) ++ List.replicate (7 - (lg_sl ([.ref (ad 2), .int (nI mm)] : List Value)).length) Slot.unset).toArray = ls at hl ⊢
  have hl : lv_has ls 7 [(0, .ref (ad 2)), (1, .int (nI mm))] := hl
  refine lv_aload_n hx hb dX0_mayBeMade_0 rfl (lv_at hl 0 rfl) ?_
  refine lv_iload_n hx hb dX0_mayBeMade_1 rfl (lv_at hl 1 rfl) ?_
  refine ro_l (va_runV ⟨hx, hb, hml, hown, hts⟩ (c_X0_partBelow l hd) (cwV 1 hts gX0_mayBeMade_X0_partBelow rfl rfl rfl ⟨rfl, kd_X0_partBelow⟩ ⟨Nat.le_of_ble_eq_true rfl, Nat.le_of_ble_eq_true rfl⟩) (preV1 hnw hK hP 2 0 rfl rfl) rfl rfl hl.1 rfl (lv_room (Nat.le_of_ble_eq_true rfl)) dX0_mayBeMade_2 ⟨Nat.zero_le _, Nat.zero_le _⟩) ?_
  refine lv_lstore_n (lv' := [(2, .long _), (0, .ref _), (1, .int _)]) hx hb dX0_mayBeMade_5 rfl hl (by decide) rfl (fun ls hl => ?_)
  refine lv_iconst (v := 0) hx hb dX0_mayBeMade_6 (by decide) ?_
  refine lv_istore (lv' := [(4, .int _), (2, .long _), (0, .ref _), (1, .int _)]) hx hb dX0_mayBeMade_7 hl (by decide) rfl (fun ls hl => ?_)
  have L9 : ∀ (n9 : Nat) (k : Nat), mm + 2 ≤ k + n9 → (k ≤ mm + 1) → (∀ j, j < k → f_ok d nu sc (nI mm) j) → ∀ (ls : Array Slot), lv_has ls 7 [(0, .ref (ad 2)), (1, .int (nI mm)), (2, .long (f_pb d sc (nI mm))), (4, .int (nI k))] → W p l e { frames := 3, cells := 0, slots := 0, locals := 74 } s m ([.ref (ad 2), .int (nI mm)] : List Value).toArray below meth c s.heap [] 0 0 (MQ below (QcRead (bI (∀ j, j < mm + 1 → f_ok d nu sc (nI mm) j))) ([.ref (ad 2), .int (nI mm)] : List Value).toArray s 0 0 (fun _ => False)) (F0 m 9 ls []) := by
    intro n9
    induction n9 with
    | zero =>
      intro k hf9 hk hall
      exact absurd hf9 (by omega)
    | succ n9 ih9 =>
      intro k hf9 hk hall ls hl
      refine lv_iload hx hb dX0_mayBeMade_9 (lv_at hl 3 rfl) ?_
      refine lv_iload_n hx hb dX0_mayBeMade_11 rfl (lv_at hl 1 rfl) ?_
      refine lv_icmp_gt (tgt := 46) hx hb dX0_mayBeMade_12 (by decide) (fun c_12 => ?_) (fun c_12 => ?_)
      · skip
        have hz := nI_nlt_end (k := k) (n := mm) hk (by omega) c_12
        refine lv_iconst (v := 1) hx hb dX0_mayBeMade_46 (by decide) ?_
        exact W.zret hx hb hr (by first | rfl | exact bI_nar) (fun t ht _ => ri (by exact (bI_t (by rw [← hz]; exact hall)).symm) ht) no_locs dX0_mayBeMade_47
      · skip
        have hz := nI_nlt_go (k := k) (n := mm) hk (by omega) c_12
        refine lv_aload_n hx hb dX0_mayBeMade_15 rfl (lv_at hl 0 rfl) ?_
        refine lv_iload_n hx hb dX0_mayBeMade_16 rfl (lv_at hl 1 rfl) ?_
        refine lv_iload hx hb dX0_mayBeMade_17 (lv_at hl 3 rfl) ?_
        refine ro_l (va_runV ⟨hx, hb, hml, hown, hts⟩ (c_X0_partAbove l hd (by omega)) (cwV 2 hts gX0_mayBeMade_X0_partAbove rfl rfl rfl ⟨rfl, kd_X0_partAbove⟩ ⟨Nat.le_of_ble_eq_true rfl, Nat.le_of_ble_eq_true rfl⟩) (preV1 hnw hK hP 2 0 rfl rfl) rfl rfl hl.1 rfl (lv_room (Nat.le_of_ble_eq_true rfl)) dX0_mayBeMade_19 ⟨Nat.zero_le _, Nat.zero_le _⟩) ?_
        refine lv_lstore (lv' := [(5, .long _), (0, .ref _), (1, .int _), (2, .long _), (4, .int _)]) hx hb dX0_mayBeMade_22 hl (by decide) rfl (fun ls hl => ?_)
        refine lv_lload hx hb dX0_mayBeMade_24 (lv_at hl 0 rfl) ?_
        refine lv_lconst (v := 0) hx hb dX0_mayBeMade_26 (by decide) ?_
        refine W.lcmp hx hb dX0_mayBeMade_27 ?_
        refine lv_if_lt (tgt := 38) hx hb dX0_mayBeMade_28 (by decide) (fun c_28 => ?_) (fun c_28 => ?_)
        · skip
          have c_28 := (lg_cmp_lt _ _).mp c_28
          have hbad : ¬ f_ok d nu sc (nI mm) k := fun h => h.1 c_28
          refine lv_iconst (v := 0) hx hb dX0_mayBeMade_38 (by decide) ?_
          exact W.zret hx hb hr (by first | rfl | exact bI_nar) (fun t ht _ => ri (by exact (bI_f (fun h => hbad (h k (by omega)))).symm) ht) no_locs dX0_mayBeMade_39
        · skip
          have c_28 := fun h => c_28 ((lg_cmp_lt _ _).mpr h)
          refine lv_lload hx hb dX0_mayBeMade_31 (lv_at hl 0 rfl) ?_
          refine lv_lload_n hx hb dX0_mayBeMade_33 rfl (lv_at hl 3 rfl) ?_
          refine W.lcmp hx hb dX0_mayBeMade_34 ?_
          refine lv_if_le (tgt := 40) hx hb dX0_mayBeMade_35 (by decide) (fun c_35 => ?_) (fun c_35 => ?_)
          · skip
            have c_35 := (lg_cmp_le _ _).mp c_35
            refine lv_iinc (lv' := [(4, .int (nI (k + 1))), (5, .long _), (0, .ref _), (1, .int _), (2, .long _)]) hx hb dX0_mayBeMade_40 hl (k := 4) rfl (nI_1 _) (by decide) rfl (fun ls hl => ?_)
            refine lv_goto (tgt := 9) hx hb dX0_mayBeMade_43 (by decide) ?_
            exact ih9 (k + 1) (by omega) (by omega) (fun j h => by rcases Nat.lt_or_ge j k with q | q; exact hall j q; rw [show j = k by omega]; exact ⟨c_28, c_35⟩) ls (lv_sub hl [2, 3, 4, 0] rfl)
          · skip
            have c_35 := fun h => c_35 ((lg_cmp_le _ _).mpr h)
            have hbad : ¬ f_ok d nu sc (nI mm) k := fun h => c_35 h.2
            refine lv_iconst (v := 0) hx hb dX0_mayBeMade_38 (by decide) ?_
            exact W.zret hx hb hr (by first | rfl | exact bI_nar) (fun t ht _ => ri (by exact (bI_f (fun h => hbad (h k (by omega)))).symm) ht) no_locs dX0_mayBeMade_39
  exact L9 (mm + 2) 0 (by omega) (Nat.zero_le _) (fun j h => absurd h (Nat.not_lt_zero j)) ls (lv_sub hl [2, 3, 1, 0] rfl)
theorem kd_X0_thousandthsAt : yX0_thousandthsAt.cls ≠ "java/lang/invoke/MethodHandle" ∧ yX0_thousandthsAt.cls ≠ "java/lang/invoke/VarHandle" ∧ (parseMethodDescriptor yX0_thousandthsAt.desc).map (fun d => d.parameters.length) = some 2 := by decide +kernel
set_option maxHeartbeats 4000000 in
set_option maxRecDepth 100000 in
theorem c_X0_thousandthsAt (l : Launch) {dC : Nat → ClassId} {dI : Nat → Nat → Nat} {ad : Nat → Nat} {cI cJ : ClassId} {ln : Int32} {fg : Int32} {sc : Int32} {ms : Int32} {mi : Int32} {mv : Int32} {mw : Int32} {st : (Nat → Int64)} {fr : (Nat → Int64)} {sr : (Nat → Int64)} {pa : (Nat → Int64)} {nu : (Nat → Int32)} {a0 a1 : Int32} {d : Nat} (hd : d ≤ 4) : Met l yX0_thousandthsAt wsX0_thousandthsAt ({ frames := 1, cells := 0, slots := 0, locals := 25 }) (va_Pc ([.ref (ad 2), .int a0, .int a1] : List Value) (gB (dC, dI) (tyw cI cJ) (xw ad cI cJ ln fg (nI d) sc ms mi mv mw st fr sr pa nu))) (QcRead (f_at d nu sc a0 a1)) 0 0 (fun _ => False) := by
  refine Met.ofW (cc := cX0_thousandthsAt) (maxL := 7) (ret := (some .int)) (by decide) rfl ?_
  intro p e s m args below meth c s₁ B hml hv
  obtain ⟨rfl, hnw, hK, hP⟩ := hv
  have hx := B.exec
  have hb := B.bytes
  have hr := B.returns
  have hts := atoms_spec (ws := wsX0_thousandthsAt) B.pre
  have hown : s.vm.findClass RX0 = some m.cls := findClass_of_methodNamed B.named
  have hlocks := B.notSynchronized
  have hw0 := hts (.fieldLink RX0 15 "BitStreams$Form" "degree" "I") (by decide +kernel)
  have hw1 := hts (.fieldLink RX0 19 "BitStreams$Form" "scale" "I") (by decide +kernel)
  have hw2 := hts (.initialized RX2) (by decide +kernel)
  have hw3 := hts (.static yX2_power) (by decide +kernel)
  have hw4 := hts (.methodLink RX0 40 Lib.MathLoose.max_long.x) (by decide +kernel)
  have hw5 := hts (.static Lib.MathLoose.max_long.x) (by decide +kernel)
  have hw6 := hts (.initialized "java/lang/Math") (by decide +kernel)
  have hw7 := hts (.code Lib.MathLoose.max_long.x Lib.MathLoose.max_long.code 4 (some .long)) (by decide +kernel)
  have hw8 := hts (.constantLong RX0 46 (1000)) (by decide +kernel)
  have hw9 := hts (.fieldLink RX0 9 "BitStreams$Form" "numbers" "[I") (by decide +kernel)
  have inX0 : ∀ w ∈ wsX00, w ∈ wsX0_thousandthsAt := by decide +kernel
  have hl := lv_entry ([.ref (ad 2), .int a0, .int a1] : List Value) (n := 7) (Nat.le_of_ble_eq_true rfl)
  rw [lg_entry_eq]
  generalize (lg_sl ([.ref (ad 2), .int a0, .int a1] : List Value) ++ List.replicate (7 - (lg_sl ([.ref (ad 2), .int a0, .int a1] : List Value)).length) Slot.unset).toArray = ls at hl ⊢
  have hl : lv_has ls 7 [(0, .ref (ad 2)), (1, .int a0), (2, .int a1)] := hl
  refine lv_lconst (v := 0) hx hb dX0_thousandthsAt_0 (by decide) ?_
  refine lv_lstore_n (lv' := [(3, .long _), (0, .ref _), (1, .int _), (2, .int _)]) hx hb dX0_thousandthsAt_1 rfl hl (by decide) rfl (fun ls hl => ?_)
  refine lv_iconst (v := 0) hx hb dX0_thousandthsAt_2 (by decide) ?_
  refine lv_istore (lv' := [(5, .int _), (3, .long _), (0, .ref _), (1, .int _), (2, .int _)]) hx hb dX0_thousandthsAt_3 hl (by decide) rfl (fun ls hl => ?_)
  have L5 : ∀ (n5 : Nat) (k : Nat) (w : Int64), d + 2 ≤ k + n5 → (k ≤ d + 1) → (w = f_th d nu a0 a1 k) → ∀ (ls : Array Slot), lv_has ls 7 [(0, .ref (ad 2)), (1, .int a0), (2, .int a1), (3, .long w), (5, .int (nI k))] → W p l e { frames := 1, cells := 0, slots := 0, locals := 25 } s m ([.ref (ad 2), .int a0, .int a1] : List Value).toArray below meth c s.heap [] 0 0 (MQ below (QcRead (f_at d nu sc a0 a1)) ([.ref (ad 2), .int a0, .int a1] : List Value).toArray s 0 0 (fun _ => False)) (F0 m 5 ls []) := by
    intro n5
    induction n5 with
    | zero =>
      intro k w hf5 hk hw
      exact absurd hf5 (by omega)
    | succ n5 ih5 =>
      intro k w hf5 hk hw ls hl
      refine lv_iload hx hb dX0_thousandthsAt_5 (lv_at hl 4 rfl) ?_
      refine lv_aload_n hx hb dX0_thousandthsAt_7 rfl (lv_at hl 0 rfl) ?_
      refine va_get (D := (dC, dI)) (ci := 0) (C := RX0) (T := TX0) (N := 3) hx hb hts inX0 hown hK hP 2 rfl rfl 1 (by decide) hw0 (fun _ h9 => h9) rfl dX0_thousandthsAt_8 ?_
      refine lv_icmp_gt (tgt := 52) hx hb dX0_thousandthsAt_11 (by decide) (fun c_11 => ?_) (fun c_11 => ?_)
      · skip
        have hz := nI_nlt_end hk (by omega) c_11
        refine lv_aload_n hx hb dX0_thousandthsAt_52 rfl (lv_at hl 0 rfl) ?_
        refine va_get (D := (dC, dI)) (ci := 0) (C := RX0) (T := TX0) (N := 3) hx hb hts inX0 hown hK hP 2 rfl rfl 2 (by decide) hw1 (fun _ h9 => h9) rfl dX0_thousandthsAt_53 ?_
        refine lv_i2l hx hb dX0_thousandthsAt_56 rfl ?_
        refine lv_iload_n hx hb dX0_thousandthsAt_57 rfl (lv_at hl 2 rfl) ?_
        refine lv_i2l hx hb dX0_thousandthsAt_58 rfl ?_
        refine lv_aload_n hx hb dX0_thousandthsAt_59 rfl (lv_at hl 0 rfl) ?_
        refine va_get (D := (dC, dI)) (ci := 0) (C := RX0) (T := TX0) (N := 3) hx hb hts inX0 hown hK hP 2 rfl rfl 1 (by decide) hw0 (fun _ h9 => h9) rfl dX0_thousandthsAt_60 ?_
        refine ro_l (va_runSN ⟨hx, hb, hml, hown, hts⟩ (c_X2_power l ) ⟨va_cnB 2 hts gX0_thousandthsAt_X2_power_n36 rfl rfl rfl (hnw.at 15 rfl) hw2 kd_X2_power ⟨Nat.le_of_ble_eq_true rfl, Nat.le_of_ble_eq_true rfl⟩, hw3, trivial⟩ preS0 rfl rfl hl.1 rfl (lv_room (Nat.le_of_ble_eq_true rfl)) dX0_thousandthsAt_63 ⟨Nat.zero_le _, Nat.zero_le _⟩) ?_
        refine lv_lmul hx hb dX0_thousandthsAt_66 ?_
        refine lv_lconst (v := 1) hx hb dX0_thousandthsAt_67 (by decide) ?_
        refine va_mmax_long hx hb (by rw [hml]; exact hl.1.symm) hown hw4 hw5 hw6 hw7 (Nat.le_of_ble_eq_true rfl) (Nat.le_of_ble_eq_true rfl) (Nat.zero_le _) (Nat.zero_le _) dX0_thousandthsAt_68 ?_
        refine st_l (v := f_max1 (sc.toInt64 * f_power a1.toInt64 d)) (by rw [nI_cl (by omega)]; rfl) ?_
        refine lv_lstore (lv' := [(5, .long _), (0, .ref _), (1, .int _), (2, .int _), (3, .long _)]) hx hb dX0_thousandthsAt_71 hl (by decide) rfl (fun ls hl => ?_)
        refine lv_ldc2 (v := 1000) hx hb hown hw8 dX0_thousandthsAt_73 ?_
        refine lv_lload_n hx hb dX0_thousandthsAt_76 rfl (lv_at hl 4 rfl) ?_
        refine lv_lmul hx hb dX0_thousandthsAt_77 ?_
        refine lv_lload hx hb dX0_thousandthsAt_78 (lv_at hl 0 rfl) ?_
        refine ro_l (va_runS ⟨hx, hb, hml, hown, hts⟩ (c_J9_floorDiv_f86c9 l (f_max1_ne _)) (va_cwS 2 hts gX0_thousandthsAt_J9_floorDiv_f86c9 rfl rfl rfl kd_J9_floorDiv_f86c9 ⟨Nat.le_of_ble_eq_true rfl, Nat.le_of_ble_eq_true rfl⟩) preS0 rfl rfl hl.1 rfl (lv_room (Nat.le_of_ble_eq_true rfl)) dX0_thousandthsAt_80 ⟨Nat.zero_le _, Nat.zero_le _⟩) ?_
        refine lv_l2i hx hb dX0_thousandthsAt_83 rfl ?_
        exact W.iret hx hb hr (fun t ht _ => ri (by unfold f_at; rw [hw, hz]) ht) no_locs dX0_thousandthsAt_84
      · skip
        have hz := nI_nlt_go hk (by omega) c_11
        refine lv_lload_n hx hb dX0_thousandthsAt_14 rfl (lv_at hl 3 rfl) ?_
        refine lv_aload_n hx hb dX0_thousandthsAt_15 rfl (lv_at hl 0 rfl) ?_
        refine va_get (D := (dC, dI)) (ci := 0) (C := RX0) (T := TX0) (N := 3) hx hb hts inX0 hown hK hP 2 rfl rfl 0 (by decide) hw9 (fun _ h9 => h9) rfl dX0_thousandthsAt_16 ?_
        refine lv_iload hx hb dX0_thousandthsAt_19 (lv_at hl 4 rfl) ?_
        refine va_iald hx hb hK hP 7 0 rfl rfl (vp_in_nI (by omega) (by omega)) dX0_thousandthsAt_21 ?_
        refine st_i (v := nu k) (by rw [nI_cl (by omega)]) ?_
        refine lv_i2l hx hb dX0_thousandthsAt_22 rfl ?_
        refine lv_iload_n hx hb dX0_thousandthsAt_23 rfl (lv_at hl 1 rfl) ?_
        refine lv_i2l hx hb dX0_thousandthsAt_24 rfl ?_
        refine lv_iload hx hb dX0_thousandthsAt_25 (lv_at hl 4 rfl) ?_
        refine ro_l (va_runSN ⟨hx, hb, hml, hown, hts⟩ (c_X2_power l ) ⟨va_cnB 2 hts gX0_thousandthsAt_X2_power_n36 rfl rfl rfl (hnw.at 15 rfl) hw2 kd_X2_power ⟨Nat.le_of_ble_eq_true rfl, Nat.le_of_ble_eq_true rfl⟩, hw3, trivial⟩ preS0 rfl rfl hl.1 rfl (lv_room (Nat.le_of_ble_eq_true rfl)) dX0_thousandthsAt_27 ⟨Nat.zero_le _, Nat.zero_le _⟩) ?_
        refine lv_lmul hx hb dX0_thousandthsAt_30 ?_
        refine lv_iload_n hx hb dX0_thousandthsAt_31 rfl (lv_at hl 2 rfl) ?_
        refine lv_i2l hx hb dX0_thousandthsAt_32 rfl ?_
        refine lv_aload_n hx hb dX0_thousandthsAt_33 rfl (lv_at hl 0 rfl) ?_
        refine va_get (D := (dC, dI)) (ci := 0) (C := RX0) (T := TX0) (N := 3) hx hb hts inX0 hown hK hP 2 rfl rfl 1 (by decide) hw0 (fun _ h9 => h9) rfl dX0_thousandthsAt_34 ?_
        refine lv_iload hx hb dX0_thousandthsAt_37 (lv_at hl 4 rfl) ?_
        refine lv_isub hx hb dX0_thousandthsAt_39 ?_
        refine ro_l (va_runSN ⟨hx, hb, hml, hown, hts⟩ (c_X2_power l ) ⟨va_cnB 2 hts gX0_thousandthsAt_X2_power_n36 rfl rfl rfl (hnw.at 15 rfl) hw2 kd_X2_power ⟨Nat.le_of_ble_eq_true rfl, Nat.le_of_ble_eq_true rfl⟩, hw3, trivial⟩ preS0 rfl rfl hl.1 rfl (lv_room (Nat.le_of_ble_eq_true rfl)) dX0_thousandthsAt_40 ⟨Nat.zero_le _, Nat.zero_le _⟩) ?_
        refine lv_lmul hx hb dX0_thousandthsAt_43 ?_
        refine lv_ladd hx hb dX0_thousandthsAt_44 ?_
        refine lv_lstore_n (lv' := [(3, .long _), (0, .ref _), (1, .int _), (2, .int _), (5, .int _)]) hx hb dX0_thousandthsAt_45 rfl hl (by decide) rfl (fun ls hl => ?_)
        refine lv_iinc (lv' := [(5, .int (nI (k + 1))), (3, .long _), (0, .ref _), (1, .int _), (2, .int _)]) hx hb dX0_thousandthsAt_46 hl (k := 4) rfl (nI_1 _) (by decide) rfl (fun ls hl => ?_)
        refine lv_goto (tgt := 5) hx hb dX0_thousandthsAt_49 (by decide) ?_
        exact ih5 (k + 1) _ (by omega) (by omega) (by rw [f_th, hw, nI_cl (by omega)]) ls (lv_sub hl [2, 3, 4, 1, 0] rfl)
  exact L5 (d + 2) 0 _ (by omega) (Nat.zero_le _) rfl ls (lv_sub hl [2, 3, 4, 1, 0] rfl)
