theorem kd_X3_bitOf : yX3_bitOf.cls ≠ "java/lang/invoke/MethodHandle" ∧ yX3_bitOf.cls ≠ "java/lang/invoke/VarHandle" ∧ (parseMethodDescriptor yX3_bitOf.desc).map (fun d => d.parameters.length) = some 2 := by decide +kernel
set_option maxHeartbeats 4000000 in
set_option maxRecDepth 100000 in
theorem c_X3_bitOf (l : Launch) {dC : Nat → ClassId} {dI : Nat → Nat → Nat} {ad : Nat → Nat} {cI cJ : ClassId} {ln : Int32} {dg : Int32} {sc : Int32} {ms : Int32} {mi : Int32} {mv : Int32} {mw : Int32} {pu : Int64} {pl : Int64} {st : (Nat → Int64)} {fr : (Nat → Int64)} {sr : (Nat → Int64)} {nu : (Nat → Int32)} {a0 : Int64} {a1 : Int32} : Met l yX3_bitOf wsX3_bitOf ({ frames := 0, cells := 0, slots := 0, locals := 0 }) (va_Pc ([.ref (ad 0), .long a0, .int a1] : List Value) (gB (dC, dI) (tyw cI cJ) (yw ad cI cJ ln dg sc ms mi mv mw pu pl st fr sr nu))) (QcRead (g_bitOf a0 a1)) 0 0 (fun _ => False) := by
  refine Met.ofW (cc := cX3_bitOf) (maxL := 4) (ret := (some .int)) (by decide) rfl ?_
  intro p e s m args below meth c s₁ B hml hv
  obtain ⟨rfl, hnw, hK, hP⟩ := hv
  have hx := B.exec
  have hb := B.bytes
  have hr := B.returns
  have hts := atoms_spec (ws := wsX3_bitOf) B.pre
  have hown : s.vm.findClass RX3 = some m.cls := findClass_of_methodNamed B.named
  have hlocks := B.notSynchronized
  have hl := lv_entry ([.ref (ad 0), .long a0, .int a1] : List Value) (n := 4) (Nat.le_of_ble_eq_true rfl)
  rw [lg_entry_eq]
  generalize (lg_sl ([.ref (ad 0), .long a0, .int a1] : List Value) ++ List.replicate (4 - (lg_sl ([.ref (ad 0), .long a0, .int a1] : List Value)).length) Slot.unset).toArray = ls at hl ⊢
  have hl : lv_has ls 4 [(0, .ref (ad 0)), (1, .long a0), (3, .int a1)] := hl
  refine lv_lload_n hx hb dX3_bitOf_0 rfl (lv_at hl 1 rfl) ?_
  refine lv_iload_n hx hb dX3_bitOf_1 rfl (lv_at hl 2 rfl) ?_
  refine lv_lushr hx hb dX3_bitOf_2 rfl ?_
  refine lv_l2i hx hb dX3_bitOf_3 rfl ?_
  refine lv_iconst (v := 1) hx hb dX3_bitOf_4 (by decide) ?_
  refine lv_iand hx hb dX3_bitOf_5 ?_
  exact W.iret hx hb hr (fun t ht _ => ri rfl ht) no_locs dX3_bitOf_6
theorem kd_X3_onesOf : yX3_onesOf.cls ≠ "java/lang/invoke/MethodHandle" ∧ yX3_onesOf.cls ≠ "java/lang/invoke/VarHandle" ∧ (parseMethodDescriptor yX3_onesOf.desc).map (fun d => d.parameters.length) = some 1 := by decide +kernel
set_option maxHeartbeats 4000000 in
set_option maxRecDepth 100000 in
theorem c_X3_onesOf (l : Launch) {dC : Nat → ClassId} {dI : Nat → Nat → Nat} {ad : Nat → Nat} {cI cJ : ClassId} {ln : Int32} {dg : Int32} {sc : Int32} {ms : Int32} {mi : Int32} {mv : Int32} {mw : Int32} {pu : Int64} {pl : Int64} {st : (Nat → Int64)} {fr : (Nat → Int64)} {sr : (Nat → Int64)} {nu : (Nat → Int32)} {a0 : Int64} : Met l yX3_onesOf wsX3_onesOf ({ frames := 1, cells := 0, slots := 0, locals := 23 }) (va_Pc ([.ref (ad 0), .long a0] : List Value) (gB (dC, dI) (tyw cI cJ) (yw ad cI cJ ln dg sc ms mi mv mw pu pl st fr sr nu))) (QcRead (g_ones a0 ln.toNatClampNeg)) 0 0 (fun _ => False) := by
  refine Met.ofW (cc := cX3_onesOf) (maxL := 5) (ret := (some .int)) (by decide) rfl ?_
  intro p e s m args below meth c s₁ B hml hv
  obtain ⟨rfl, hnw, hK, hP⟩ := hv
  have hx := B.exec
  have hb := B.bytes
  have hr := B.returns
  have hts := atoms_spec (ws := wsX3_onesOf) B.pre
  have hown : s.vm.findClass RX3 = some m.cls := findClass_of_methodNamed B.named
  have hlocks := B.notSynchronized
  have hw0 := hts (.fieldLink RX3 23 "BitStreamsModel" "size" "I") (by decide +kernel)
  have inX3 : ∀ w ∈ wsX30, w ∈ wsX3_onesOf := by decide +kernel
  have hl := lv_entry ([.ref (ad 0), .long a0] : List Value) (n := 5) (Nat.le_of_ble_eq_true rfl)
  rw [lg_entry_eq]
  generalize (lg_sl ([.ref (ad 0), .long a0] : List Value) ++ List.replicate (5 - (lg_sl ([.ref (ad 0), .long a0] : List Value)).length) Slot.unset).toArray = ls at hl ⊢
  have hl : lv_has ls 5 [(0, .ref (ad 0)), (1, .long a0)] := hl
  refine lv_iconst (v := 0) hx hb dX3_onesOf_0 (by decide) ?_
  refine lv_istore_n (lv' := [(3, .int _), (0, .ref _), (1, .long _)]) hx hb dX3_onesOf_1 rfl hl (by decide) rfl (fun ls hl => ?_)
  refine lv_iconst (v := 0) hx hb dX3_onesOf_2 (by decide) ?_
  refine lv_istore (lv' := [(4, .int _), (3, .int _), (0, .ref _), (1, .long _)]) hx hb dX3_onesOf_3 hl (by decide) rfl (fun ls hl => ?_)
  have L5 : ∀ (n5 : Nat) (kq : Nat), ln.toNatClampNeg + 1 ≤ kq + n5 → (kq ≤ ln.toNatClampNeg) → ∀ (ls : Array Slot), lv_has ls 5 [(0, .ref (ad 0)), (1, .long a0), (3, .int (g_ones a0 kq)), (4, .int (nI kq))] → W p l e { frames := 1, cells := 0, slots := 0, locals := 23 } s m ([.ref (ad 0), .long a0] : List Value).toArray below meth c s.heap [] 0 0 (MQ below (QcRead (g_ones a0 ln.toNatClampNeg)) ([.ref (ad 0), .long a0] : List Value).toArray s 0 0 (fun _ => False)) (F0 m 5 ls []) := by
    intro n5
    induction n5 with
    | zero =>
      intro kq hf5 hk
      exact absurd hf5 (by omega)
    | succ n5 ih5 =>
      intro kq hf5 hk ls hl
      refine lv_iload hx hb dX3_onesOf_5 (lv_at hl 3 rfl) ?_
      refine lv_aload_n hx hb dX3_onesOf_7 rfl (lv_at hl 0 rfl) ?_
      refine va_get (D := (dC, dI)) (ci := 3) (C := RX3) (T := TX3) (N := 13) hx hb hts inX3 hown hK hP 0 rfl rfl 0 (by decide) hw0 (fun _ h9 => h9) rfl dX3_onesOf_8 ?_
      refine lv_icmp_ge (tgt := 30) hx hb dX3_onesOf_11 (by decide) (fun c_11 => ?_) (fun c_11 => ?_)
      · skip
        refine lv_iload_n hx hb dX3_onesOf_30 rfl (lv_at hl 2 rfl) ?_
        exact W.iret hx hb hr (fun t ht _ => ri (by rw [cl_end hk c_11]) ht) no_locs dX3_onesOf_31
      · skip
        refine lv_iload_n hx hb dX3_onesOf_14 rfl (lv_at hl 2 rfl) ?_
        refine lv_aload_n hx hb dX3_onesOf_15 rfl (lv_at hl 0 rfl) ?_
        refine lv_lload_n hx hb dX3_onesOf_16 rfl (lv_at hl 1 rfl) ?_
        refine lv_iload hx hb dX3_onesOf_17 (lv_at hl 3 rfl) ?_
        refine ro_i (va_runV ⟨hx, hb, hml, hown, hts⟩ (c_X3_bitOf l ) (cwV 2 hts gX3_onesOf_X3_bitOf rfl rfl rfl ⟨rfl, kd_X3_bitOf⟩ ⟨Nat.le_of_ble_eq_true rfl, Nat.le_of_ble_eq_true rfl⟩) (preV1 hnw hK hP 0 3 rfl rfl) rfl rfl hl.1 rfl (lv_room (Nat.le_of_ble_eq_true rfl)) dX3_onesOf_19 ⟨Nat.zero_le _, Nat.zero_le _⟩) ?_
        refine lv_iadd hx hb dX3_onesOf_22 ?_
        refine lv_istore_n (lv' := [(3, .int _), (0, .ref _), (1, .long _), (4, .int _)]) hx hb dX3_onesOf_23 rfl hl (by decide) rfl (fun ls hl => ?_)
        refine lv_iinc (lv' := [(4, .int (nI (kq + 1))), (3, .int _), (0, .ref _), (1, .long _)]) hx hb dX3_onesOf_24 hl (k := 3) rfl (nI_1 _) (by decide) rfl (fun ls hl => ?_)
        refine lv_goto (tgt := 5) hx hb dX3_onesOf_27 (by decide) ?_
        exact ih5 (kq + 1) (by have := cl_go hk c_11; omega) (cl_go hk c_11) ls (lv_sub hl [2, 3, 1, 0] rfl)
  exact L5 (ln.toNatClampNeg + 1) 0 (by omega) (Nat.zero_le _) ls (lv_sub hl [2, 3, 1, 0] rfl)
theorem kd_X3_round : yX3_round.cls ≠ "java/lang/invoke/MethodHandle" ∧ yX3_round.cls ≠ "java/lang/invoke/VarHandle" ∧ (parseMethodDescriptor yX3_round.desc).map (fun d => d.parameters.length) = some 1 := by decide +kernel
set_option maxHeartbeats 4000000 in
set_option maxRecDepth 100000 in
theorem c_X3_round (l : Launch) {dC : Nat → ClassId} {dI : Nat → Nat → Nat} {ad : Nat → Nat} {cI cJ : ClassId} {dg : Int32} {sc : Int32} {ms : Int32} {mi : Int32} {mv : Int32} {mw : Int32} {pu : Int64} {pl : Int64} {st : (Nat → Int64)} {fr : (Nat → Int64)} {sr : (Nat → Int64)} {nu : (Nat → Int32)} {a0 : Int32} {q : Nat} (hq : q ≤ 6) : Met l yX3_round wsX3_round ({ frames := 0, cells := 0, slots := 0, locals := 0 }) (va_Pc ([.ref (ad 0), .int a0] : List Value) (gB (dC, dI) (tyw cI cJ) (yw ad cI cJ (nI (2 ^ q)) dg sc ms mi mv mw pu pl st fr sr nu))) (QcRead (g_rv a0 q)) 0 0 (fun _ => False) := by
  refine Met.ofW (cc := cX3_round) (maxL := 5) (ret := (some .int)) (by decide) rfl ?_
  intro p e s m args below meth c s₁ B hml hv
  obtain ⟨rfl, hnw, hK, hP⟩ := hv
  have hx := B.exec
  have hb := B.bytes
  have hr := B.returns
  have hts := atoms_spec (ws := wsX3_round) B.pre
  have hown : s.vm.findClass RX3 = some m.cls := findClass_of_methodNamed B.named
  have hlocks := B.notSynchronized
  have hw0 := hts (.fieldLink RX3 23 "BitStreamsModel" "size" "I") (by decide +kernel)
  have inX3 : ∀ w ∈ wsX30, w ∈ wsX3_round := by decide +kernel
  have hl := lv_entry ([.ref (ad 0), .int a0] : List Value) (n := 5) (Nat.le_of_ble_eq_true rfl)
  rw [lg_entry_eq]
  generalize (lg_sl ([.ref (ad 0), .int a0] : List Value) ++ List.replicate (5 - (lg_sl ([.ref (ad 0), .int a0] : List Value)).length) Slot.unset).toArray = ls at hl ⊢
  have hl : lv_has ls 5 [(0, .ref (ad 0)), (1, .int a0)] := hl
  refine lv_iconst (v := 0) hx hb dX3_round_0 (by decide) ?_
  refine lv_istore_n (lv' := [(2, .int _), (0, .ref _), (1, .int _)]) hx hb dX3_round_1 rfl hl (by decide) rfl (fun ls hl => ?_)
  refine lv_iload_n hx hb dX3_round_2 rfl (lv_at hl 2 rfl) ?_
  refine lv_istore_n (lv' := [(3, .int _), (2, .int _), (0, .ref _), (1, .int _)]) hx hb dX3_round_3 rfl hl (by decide) rfl (fun ls hl => ?_)
  refine lv_iconst (v := 1) hx hb dX3_round_4 (by decide) ?_
  refine lv_istore (lv' := [(4, .int _), (3, .int _), (2, .int _), (0, .ref _), (1, .int _)]) hx hb dX3_round_5 hl (by decide) rfl (fun ls hl => ?_)
  have L7 : ∀ (n7 : Nat) (jq : Nat), q + 1 ≤ jq + n7 → (jq ≤ q) → ∀ (ls : Array Slot), lv_has ls 5 [(0, .ref (ad 0)), (1, .int a0), (2, .int (g_rv a0 jq)), (3, .int (g_rl a0 jq)), (4, .int (nI (2 ^ jq)))] → W p l e { frames := 0, cells := 0, slots := 0, locals := 0 } s m ([.ref (ad 0), .int a0] : List Value).toArray below meth c s.heap [] 0 0 (MQ below (QcRead (g_rv a0 q)) ([.ref (ad 0), .int a0] : List Value).toArray s 0 0 (fun _ => False)) (F0 m 7 ls []) := by
    intro n7
    induction n7 with
    | zero =>
      intro jq hf7 hj
      exact absurd hf7 (by omega)
    | succ n7 ih7 =>
      intro jq hf7 hj ls hl
      refine lv_iload hx hb dX3_round_7 (lv_at hl 4 rfl) ?_
      refine lv_aload_n hx hb dX3_round_9 rfl (lv_at hl 0 rfl) ?_
      refine va_get (D := (dC, dI)) (ci := 3) (C := RX3) (T := TX3) (N := 13) hx hb hts inX3 hown hK hP 0 rfl rfl 0 (by decide) hw0 (fun _ h9 => h9) rfl dX3_round_10 ?_
      refine lv_icmp_ge (tgt := 37) hx hb dX3_round_13 (by decide) (fun c_13 => ?_) (fun c_13 => ?_)
      · skip
        refine lv_iload_n hx hb dX3_round_37 rfl (lv_at hl 2 rfl) ?_
        exact W.iret hx hb hr (fun t ht _ => ri (by rw [pw_end hj hq c_13]) ht) no_locs dX3_round_38
      · skip
        refine lv_iconst (v := 2) hx hb dX3_round_16 (by decide) ?_
        refine lv_iload_n hx hb dX3_round_17 rfl (lv_at hl 2 rfl) ?_
        refine lv_imul hx hb dX3_round_18 ?_
        refine lv_iload_n hx hb dX3_round_19 rfl (lv_at hl 3 rfl) ?_
        refine lv_iconst (v := 2) hx hb dX3_round_20 (by decide) ?_
        refine lv_irem hx hb dX3_round_21 (by decide) ?_
        refine lv_iadd hx hb dX3_round_22 ?_
        refine lv_istore_n (lv' := [(2, .int _), (0, .ref _), (1, .int _), (3, .int _), (4, .int _)]) hx hb dX3_round_23 rfl hl (by decide) rfl (fun ls hl => ?_)
        refine lv_iload_n hx hb dX3_round_24 rfl (lv_at hl 3 rfl) ?_
        refine lv_iconst (v := 2) hx hb dX3_round_25 (by decide) ?_
        refine lv_idiv hx hb dX3_round_26 (by decide) ?_
        refine lv_istore_n (lv' := [(3, .int _), (2, .int _), (0, .ref _), (1, .int _), (4, .int _)]) hx hb dX3_round_27 rfl hl (by decide) rfl (fun ls hl => ?_)
        refine lv_iload hx hb dX3_round_28 (lv_at hl 4 rfl) ?_
        refine lv_iconst (v := 2) hx hb dX3_round_30 (by decide) ?_
        refine lv_imul hx hb dX3_round_31 ?_
        refine st_i (v := nI (2 ^ (jq + 1))) (by rw [Nat.pow_succ, ← pk_mul]; rfl) ?_
        refine lv_istore (lv' := [(4, .int _), (3, .int _), (2, .int _), (0, .ref _), (1, .int _)]) hx hb dX3_round_32 hl (by decide) rfl (fun ls hl => ?_)
        refine lv_goto (tgt := 7) hx hb dX3_round_34 (by decide) ?_
        exact ih7 (jq + 1) (by have := pw_go hj hq c_13; omega) (pw_go hj hq c_13) ls (lv_sub hl [3, 4, 2, 1, 0] rfl)
  exact L7 (q + 1) 0 (by omega) (Nat.zero_le _) ls (lv_sub hl [3, 4, 2, 1, 0] rfl)
theorem kd_X3_sourceRow : yX3_sourceRow.cls ≠ "java/lang/invoke/MethodHandle" ∧ yX3_sourceRow.cls ≠ "java/lang/invoke/VarHandle" ∧ (parseMethodDescriptor yX3_sourceRow.desc).map (fun d => d.parameters.length) = some 2 := by decide +kernel
set_option maxHeartbeats 4000000 in
set_option maxRecDepth 100000 in
theorem c_X3_sourceRow (l : Launch) {dC : Nat → ClassId} {dI : Nat → Nat → Nat} {ad : Nat → Nat} {cI cJ : ClassId} {dg : Int32} {sc : Int32} {ms : Int32} {mi : Int32} {mv : Int32} {mw : Int32} {pu : Int64} {pl : Int64} {st : (Nat → Int64)} {fr : (Nat → Int64)} {sr : (Nat → Int64)} {nu : (Nat → Int32)} {a0 a1 : Int32} {q : Nat} (hq : q ≤ 6) : Met l yX3_sourceRow wsX3_sourceRow ({ frames := 1, cells := 0, slots := 0, locals := 24 }) (va_Pc ([.ref (ad 0), .int a0, .int a1] : List Value) (gB (dC, dI) (tyw cI cJ) (yw ad cI cJ (nI (2 ^ q)) dg sc ms mi mv mw pu pl st fr sr nu))) (qL (g_srow q a0 a1 (2 ^ q))) 0 0 (fun _ => False) := by
  refine Met.ofW (cc := cX3_sourceRow) (maxL := 9) (ret := (some .long)) (by decide) rfl ?_
  intro p e s m args below meth c s₁ B hml hv
  obtain ⟨rfl, hnw, hK, hP⟩ := hv
  have hx := B.exec
  have hb := B.bytes
  have hr := B.returns
  have hts := atoms_spec (ws := wsX3_sourceRow) B.pre
  have hown : s.vm.findClass RX3 = some m.cls := findClass_of_methodNamed B.named
  have hlocks := B.notSynchronized
  have hw0 := hts (.fieldLink RX3 23 "BitStreamsModel" "size" "I") (by decide +kernel)
  have inX3 : ∀ w ∈ wsX30, w ∈ wsX3_sourceRow := by decide +kernel
  have hl := lv_entry ([.ref (ad 0), .int a0, .int a1] : List Value) (n := 9) (Nat.le_of_ble_eq_true rfl)
  rw [lg_entry_eq]
  generalize (lg_sl ([.ref (ad 0), .int a0, .int a1] : List Value) ++ List.replicate (9 - (lg_sl ([.ref (ad 0), .int a0, .int a1] : List Value)).length) Slot.unset).toArray = ls at hl ⊢
  have hl : lv_has ls 9 [(0, .ref (ad 0)), (1, .int a0), (2, .int a1)] := hl
  have L54 : ∀ (n54 : Nat) (kq : Nat) (row : Int64) (r : Int32), 2 ^ q + 1 ≤ kq + n54 → (kq ≤ 2 ^ q) → (row = g_srow q a0 a1 kq) → (¬ a0 = 0 → ¬ a0 = 1 → ¬ a0 = 2 → r = g_reg (f_taps (nI (2 ^ q))) kq) → ∀ (ls : Array Slot), lv_has ls 9 [(0, .ref (ad 0)), (1, .int a0), (2, .int a1), (3, .long row), (5, .int (f_taps (nI (2 ^ q)))), (6, .int r), (7, .int (nI kq))] → W p l e { frames := 1, cells := 0, slots := 0, locals := 24 } s m ([.ref (ad 0), .int a0, .int a1] : List Value).toArray below meth c s.heap [] 0 0 (MQ below (qL (g_srow q a0 a1 (2 ^ q))) ([.ref (ad 0), .int a0, .int a1] : List Value).toArray s 0 0 (fun _ => False)) (F0 m 54 ls []) := by
    intro n54
    induction n54 with
    | zero =>
      intro kq row r hf54 hk hrow hrg
      exact absurd hf54 (by omega)
    | succ n54 ih54 =>
      intro kq row r hf54 hk hrow hrg ls hl
      refine lv_iload hx hb dX3_sourceRow_54 (lv_at hl 6 rfl) ?_
      refine lv_aload_n hx hb dX3_sourceRow_56 rfl (lv_at hl 0 rfl) ?_
      refine va_get (D := (dC, dI)) (ci := 3) (C := RX3) (T := TX3) (N := 13) hx hb hts inX3 hown hK hP 0 rfl rfl 0 (by decide) hw0 (fun _ h9 => h9) rfl dX3_sourceRow_57 ?_
      refine lv_icmp_ge (tgt := 232) hx hb dX3_sourceRow_60 (by decide) (fun c_60 => ?_) (fun c_60 => ?_)
      · skip
        have hz := cl_end (a := nI (2 ^ q)) (by rw [pw_cl hq]; exact hk) c_60
        rw [pw_cl hq] at hz
        refine lv_lload_n hx hb dX3_sourceRow_232 rfl (lv_at hl 3 rfl) ?_
        exact W.lret hx hb hr (fun t ht _ => rl (by rw [hz]; exact hrow) ht) no_locs dX3_sourceRow_233
      · skip
        have hz := cl_go (a := nI (2 ^ q)) (by rw [pw_cl hq]; exact hk) c_60
        rw [pw_cl hq] at hz
        refine lv_iload_n hx hb dX3_sourceRow_63 rfl (lv_at hl 1 rfl) ?_
        refine lv_if_ne (tgt := 83) hx hb dX3_sourceRow_64 (by decide) (fun c_64 => ?_) (fun c_64 => ?_)
        · skip
          refine lv_iload_n hx hb dX3_sourceRow_83 rfl (lv_at hl 1 rfl) ?_
          refine lv_iconst (v := 1) hx hb dX3_sourceRow_84 (by decide) ?_
          refine lv_icmp_ne (tgt := 108) hx hb dX3_sourceRow_85 (by decide) (fun c_85 => ?_) (fun c_85 => ?_)
          · skip
            refine lv_iload_n hx hb dX3_sourceRow_108 rfl (lv_at hl 1 rfl) ?_
            refine lv_iconst (v := 2) hx hb dX3_sourceRow_109 (by decide) ?_
            refine lv_icmp_ne (tgt := 146) hx hb dX3_sourceRow_110 (by decide) (fun c_110 => ?_) (fun c_110 => ?_)
            · skip
              refine lv_iload hx hb dX3_sourceRow_146 (lv_at hl 6 rfl) ?_
              refine lv_aload_n hx hb dX3_sourceRow_148 rfl (lv_at hl 0 rfl) ?_
              refine va_get (D := (dC, dI)) (ci := 3) (C := RX3) (T := TX3) (N := 13) hx hb hts inX3 hown hK hP 0 rfl rfl 0 (by decide) hw0 (fun _ h9 => h9) rfl dX3_sourceRow_149 ?_
              refine lv_iconst (v := 1) hx hb dX3_sourceRow_152 (by decide) ?_
              refine lv_isub hx hb dX3_sourceRow_153 ?_
              refine lv_icmp_ne (tgt := 173) hx hb dX3_sourceRow_154 (by decide) (fun c_154 => ?_) (fun c_154 => ?_)
              · skip
                refine lv_iload hx hb dX3_sourceRow_173 (lv_at hl 5 rfl) ?_
                refine lv_iload_n hx hb dX3_sourceRow_175 rfl (lv_at hl 2 rfl) ?_
                refine lv_icmp_gt (tgt := 183) hx hb dX3_sourceRow_176 (by decide) (fun c_176 => ?_) (fun c_176 => ?_)
                · skip
                  have hbb : bI (r ≤ a1) = 0 := bI_f (Int32.not_le.mpr c_176)
                  refine lv_iconst (v := 0) hx hb dX3_sourceRow_183 (by decide) ?_
                  refine st_i (v := g_isv q a0 a1 kq r) (by unfold g_isv; rw [if_neg c_64, if_neg c_85, if_neg c_110]; first | rw [if_pos c_154, hbb] | rw [if_neg c_154, hbb]) ?_
                  refine lv_istore (lv' := [(8, .int _), (0, .ref _), (1, .int _), (2, .int _), (3, .long _), (5, .int _), (6, .int _), (7, .int _)]) hx hb dX3_sourceRow_184 hl (by decide) rfl (fun ls hl => ?_)
                  refine lv_iload hx hb dX3_sourceRow_186 (lv_at hl 6 rfl) ?_
                  refine lv_iconst (v := 2) hx hb dX3_sourceRow_188 (by decide) ?_
                  refine lv_irem hx hb dX3_sourceRow_189 (by decide) ?_
                  refine lv_iconst (v := 1) hx hb dX3_sourceRow_190 (by decide) ?_
                  refine lv_icmp_ne (tgt := 204) hx hb dX3_sourceRow_191 (by decide) (fun c_191 => ?_) (fun c_191 => ?_)
                  · skip
                    have c_191 : ¬ remI r 2 = 1 := c_191
                    refine lv_iload hx hb dX3_sourceRow_204 (lv_at hl 6 rfl) ?_
                    refine lv_iconst (v := 2) hx hb dX3_sourceRow_206 (by decide) ?_
                    refine lv_idiv hx hb dX3_sourceRow_207 (by decide) ?_
                    refine lv_topi (fun r1 er1 => ?_)
                    have hr1 : r1 = g_regn (f_taps (nI (2 ^ q))) r := by rw [er1]; unfold g_regn; first | rw [if_pos c_191] | rw [if_neg c_191]
                    have hrn : ¬ a0 = 0 → ¬ a0 = 1 → ¬ a0 = 2 → r1 = g_reg (f_taps (nI (2 ^ q))) (kq + 1) := fun h0 h1 h2 => by rw [hr1, hrg h0 h1 h2]; rfl
                    refine lv_istore (lv' := [(6, .int _), (8, .int _), (0, .ref _), (1, .int _), (2, .int _), (3, .long _), (5, .int _), (7, .int _)]) hx hb dX3_sourceRow_208 hl (by decide) rfl (fun ls hl => ?_)
                    refine lv_lload_n hx hb dX3_sourceRow_210 rfl (lv_at hl 5 rfl) ?_
                    refine lv_iload hx hb dX3_sourceRow_211 (lv_at hl 1 rfl) ?_
                    refine lv_if_eq (tgt := 223) hx hb dX3_sourceRow_213 (by decide) (fun c_213 => ?_) (fun c_213 => ?_)
                    · skip
                      refine lv_lconst (v := 0) hx hb dX3_sourceRow_223 (by decide) ?_
                      refine lv_lor hx hb dX3_sourceRow_224 ?_
                      refine lv_lstore_n (lv' := [(3, .long _), (6, .int _), (8, .int _), (0, .ref _), (1, .int _), (2, .int _), (5, .int _), (7, .int _)]) hx hb dX3_sourceRow_225 rfl hl (by decide) rfl (fun ls hl => ?_)
                      refine lv_iinc (lv' := [(7, .int (nI (kq + 1))), (3, .long _), (6, .int _), (8, .int _), (0, .ref _), (1, .int _), (2, .int _), (5, .int _)]) hx hb dX3_sourceRow_226 hl (k := 7) rfl (nI_1 _) (by decide) rfl (fun ls hl => ?_)
                      refine lv_goto (tgt := 54) hx hb dX3_sourceRow_229 (by decide) ?_
                      exact ih54 (kq + 1) _ _ (by omega) (by omega) (by rw [g_srow, ← g_isv_r hrg, hrow]; first | rw [if_pos c_213] | (rw [if_neg c_213]; rfl)) hrn ls (lv_sub hl [4, 5, 6, 1, 7, 2, 0] rfl)
                    · skip
                      refine lv_lconst (v := 1) hx hb dX3_sourceRow_216 (by decide) ?_
                      refine lv_iload hx hb dX3_sourceRow_217 (lv_at hl 7 rfl) ?_
                      refine lv_lshl hx hb dX3_sourceRow_219 rfl ?_
                      refine lv_goto (tgt := 224) hx hb dX3_sourceRow_220 (by decide) ?_
                      refine lv_lor hx hb dX3_sourceRow_224 ?_
                      refine lv_lstore_n (lv' := [(3, .long _), (6, .int _), (8, .int _), (0, .ref _), (1, .int _), (2, .int _), (5, .int _), (7, .int _)]) hx hb dX3_sourceRow_225 rfl hl (by decide) rfl (fun ls hl => ?_)
                      refine lv_iinc (lv' := [(7, .int (nI (kq + 1))), (3, .long _), (6, .int _), (8, .int _), (0, .ref _), (1, .int _), (2, .int _), (5, .int _)]) hx hb dX3_sourceRow_226 hl (k := 7) rfl (nI_1 _) (by decide) rfl (fun ls hl => ?_)
                      refine lv_goto (tgt := 54) hx hb dX3_sourceRow_229 (by decide) ?_
                      exact ih54 (kq + 1) _ _ (by omega) (by omega) (by rw [g_srow, ← g_isv_r hrg, hrow]; first | rw [if_pos c_213] | (rw [if_neg c_213]; rfl)) hrn ls (lv_sub hl [4, 5, 6, 1, 7, 2, 0] rfl)
                  · skip
                    have c_191 : remI r 2 = 1 := c_191
                    refine lv_iload hx hb dX3_sourceRow_194 (lv_at hl 6 rfl) ?_
                    refine lv_iconst (v := 2) hx hb dX3_sourceRow_196 (by decide) ?_
                    refine lv_idiv hx hb dX3_sourceRow_197 (by decide) ?_
                    refine lv_iload hx hb dX3_sourceRow_198 (lv_at hl 5 rfl) ?_
                    refine lv_ixor hx hb dX3_sourceRow_200 ?_
                    refine lv_goto (tgt := 208) hx hb dX3_sourceRow_201 (by decide) ?_
                    refine lv_topi (fun r1 er1 => ?_)
                    have hr1 : r1 = g_regn (f_taps (nI (2 ^ q))) r := by rw [er1]; unfold g_regn; first | rw [if_pos c_191] | rw [if_neg c_191]
                    have hrn : ¬ a0 = 0 → ¬ a0 = 1 → ¬ a0 = 2 → r1 = g_reg (f_taps (nI (2 ^ q))) (kq + 1) := fun h0 h1 h2 => by rw [hr1, hrg h0 h1 h2]; rfl
                    refine lv_istore (lv' := [(6, .int _), (8, .int _), (0, .ref _), (1, .int _), (2, .int _), (3, .long _), (5, .int _), (7, .int _)]) hx hb dX3_sourceRow_208 hl (by decide) rfl (fun ls hl => ?_)
                    refine lv_lload_n hx hb dX3_sourceRow_210 rfl (lv_at hl 5 rfl) ?_
                    refine lv_iload hx hb dX3_sourceRow_211 (lv_at hl 1 rfl) ?_
                    refine lv_if_eq (tgt := 223) hx hb dX3_sourceRow_213 (by decide) (fun c_213 => ?_) (fun c_213 => ?_)
                    · skip
                      refine lv_lconst (v := 0) hx hb dX3_sourceRow_223 (by decide) ?_
                      refine lv_lor hx hb dX3_sourceRow_224 ?_
                      refine lv_lstore_n (lv' := [(3, .long _), (6, .int _), (8, .int _), (0, .ref _), (1, .int _), (2, .int _), (5, .int _), (7, .int _)]) hx hb dX3_sourceRow_225 rfl hl (by decide) rfl (fun ls hl => ?_)
                      refine lv_iinc (lv' := [(7, .int (nI (kq + 1))), (3, .long _), (6, .int _), (8, .int _), (0, .ref _), (1, .int _), (2, .int _), (5, .int _)]) hx hb dX3_sourceRow_226 hl (k := 7) rfl (nI_1 _) (by decide) rfl (fun ls hl => ?_)
                      refine lv_goto (tgt := 54) hx hb dX3_sourceRow_229 (by decide) ?_
                      exact ih54 (kq + 1) _ _ (by omega) (by omega) (by rw [g_srow, ← g_isv_r hrg, hrow]; first | rw [if_pos c_213] | (rw [if_neg c_213]; rfl)) hrn ls (lv_sub hl [4, 5, 6, 1, 7, 2, 0] rfl)
                    · skip
                      refine lv_lconst (v := 1) hx hb dX3_sourceRow_216 (by decide) ?_
                      refine lv_iload hx hb dX3_sourceRow_217 (lv_at hl 7 rfl) ?_
                      refine lv_lshl hx hb dX3_sourceRow_219 rfl ?_
                      refine lv_goto (tgt := 224) hx hb dX3_sourceRow_220 (by decide) ?_
                      refine lv_lor hx hb dX3_sourceRow_224 ?_
                      refine lv_lstore_n (lv' := [(3, .long _), (6, .int _), (8, .int _), (0, .ref _), (1, .int _), (2, .int _), (5, .int _), (7, .int _)]) hx hb dX3_sourceRow_225 rfl hl (by decide) rfl (fun ls hl => ?_)
                      refine lv_iinc (lv' := [(7, .int (nI (kq + 1))), (3, .long _), (6, .int _), (8, .int _), (0, .ref _), (1, .int _), (2, .int _), (5, .int _)]) hx hb dX3_sourceRow_226 hl (k := 7) rfl (nI_1 _) (by decide) rfl (fun ls hl => ?_)
                      refine lv_goto (tgt := 54) hx hb dX3_sourceRow_229 (by decide) ?_
                      exact ih54 (kq + 1) _ _ (by omega) (by omega) (by rw [g_srow, ← g_isv_r hrg, hrow]; first | rw [if_pos c_213] | (rw [if_neg c_213]; rfl)) hrn ls (lv_sub hl [4, 5, 6, 1, 7, 2, 0] rfl)
                · skip
                  have hbb : bI (r ≤ a1) = 1 := bI_t (Int32.not_lt.mp c_176)
                  refine lv_iconst (v := 1) hx hb dX3_sourceRow_179 (by decide) ?_
                  refine lv_goto (tgt := 184) hx hb dX3_sourceRow_180 (by decide) ?_
                  refine st_i (v := g_isv q a0 a1 kq r) (by unfold g_isv; rw [if_neg c_64, if_neg c_85, if_neg c_110]; first | rw [if_pos c_154, hbb] | rw [if_neg c_154, hbb]) ?_
                  refine lv_istore (lv' := [(8, .int _), (0, .ref _), (1, .int _), (2, .int _), (3, .long _), (5, .int _), (6, .int _), (7, .int _)]) hx hb dX3_sourceRow_184 hl (by decide) rfl (fun ls hl => ?_)
                  refine lv_iload hx hb dX3_sourceRow_186 (lv_at hl 6 rfl) ?_
                  refine lv_iconst (v := 2) hx hb dX3_sourceRow_188 (by decide) ?_
                  refine lv_irem hx hb dX3_sourceRow_189 (by decide) ?_
                  refine lv_iconst (v := 1) hx hb dX3_sourceRow_190 (by decide) ?_
                  refine lv_icmp_ne (tgt := 204) hx hb dX3_sourceRow_191 (by decide) (fun c_191 => ?_) (fun c_191 => ?_)
                  · skip
                    have c_191 : ¬ remI r 2 = 1 := c_191
                    refine lv_iload hx hb dX3_sourceRow_204 (lv_at hl 6 rfl) ?_
                    refine lv_iconst (v := 2) hx hb dX3_sourceRow_206 (by decide) ?_
                    refine lv_idiv hx hb dX3_sourceRow_207 (by decide) ?_
                    refine lv_topi (fun r1 er1 => ?_)
                    have hr1 : r1 = g_regn (f_taps (nI (2 ^ q))) r := by rw [er1]; unfold g_regn; first | rw [if_pos c_191] | rw [if_neg c_191]
                    have hrn : ¬ a0 = 0 → ¬ a0 = 1 → ¬ a0 = 2 → r1 = g_reg (f_taps (nI (2 ^ q))) (kq + 1) := fun h0 h1 h2 => by rw [hr1, hrg h0 h1 h2]; rfl
                    refine lv_istore (lv' := [(6, .int _), (8, .int _), (0, .ref _), (1, .int _), (2, .int _), (3, .long _), (5, .int _), (7, .int _)]) hx hb dX3_sourceRow_208 hl (by decide) rfl (fun ls hl => ?_)
                    refine lv_lload_n hx hb dX3_sourceRow_210 rfl (lv_at hl 5 rfl) ?_
                    refine lv_iload hx hb dX3_sourceRow_211 (lv_at hl 1 rfl) ?_
                    refine lv_if_eq (tgt := 223) hx hb dX3_sourceRow_213 (by decide) (fun c_213 => ?_) (fun c_213 => ?_)
                    · skip
                      refine lv_lconst (v := 0) hx hb dX3_sourceRow_223 (by decide) ?_
                      refine lv_lor hx hb dX3_sourceRow_224 ?_
                      refine lv_lstore_n (lv' := [(3, .long _), (6, .int _), (8, .int _), (0, .ref _), (1, .int _), (2, .int _), (5, .int _), (7, .int _)]) hx hb dX3_sourceRow_225 rfl hl (by decide) rfl (fun ls hl => ?_)
                      refine lv_iinc (lv' := [(7, .int (nI (kq + 1))), (3, .long _), (6, .int _), (8, .int _), (0, .ref _), (1, .int _), (2, .int _), (5, .int _)]) hx hb dX3_sourceRow_226 hl (k := 7) rfl (nI_1 _) (by decide) rfl (fun ls hl => ?_)
                      refine lv_goto (tgt := 54) hx hb dX3_sourceRow_229 (by decide) ?_
                      exact ih54 (kq + 1) _ _ (by omega) (by omega) (by rw [g_srow, ← g_isv_r hrg, hrow]; first | rw [if_pos c_213] | (rw [if_neg c_213]; rfl)) hrn ls (lv_sub hl [4, 5, 6, 1, 7, 2, 0] rfl)
                    · skip
                      refine lv_lconst (v := 1) hx hb dX3_sourceRow_216 (by decide) ?_
                      refine lv_iload hx hb dX3_sourceRow_217 (lv_at hl 7 rfl) ?_
                      refine lv_lshl hx hb dX3_sourceRow_219 rfl ?_
                      refine lv_goto (tgt := 224) hx hb dX3_sourceRow_220 (by decide) ?_
                      refine lv_lor hx hb dX3_sourceRow_224 ?_
                      refine lv_lstore_n (lv' := [(3, .long _), (6, .int _), (8, .int _), (0, .ref _), (1, .int _), (2, .int _), (5, .int _), (7, .int _)]) hx hb dX3_sourceRow_225 rfl hl (by decide) rfl (fun ls hl => ?_)
                      refine lv_iinc (lv' := [(7, .int (nI (kq + 1))), (3, .long _), (6, .int _), (8, .int _), (0, .ref _), (1, .int _), (2, .int _), (5, .int _)]) hx hb dX3_sourceRow_226 hl (k := 7) rfl (nI_1 _) (by decide) rfl (fun ls hl => ?_)
                      refine lv_goto (tgt := 54) hx hb dX3_sourceRow_229 (by decide) ?_
                      exact ih54 (kq + 1) _ _ (by omega) (by omega) (by rw [g_srow, ← g_isv_r hrg, hrow]; first | rw [if_pos c_213] | (rw [if_neg c_213]; rfl)) hrn ls (lv_sub hl [4, 5, 6, 1, 7, 2, 0] rfl)
                  · skip
                    have c_191 : remI r 2 = 1 := c_191
                    refine lv_iload hx hb dX3_sourceRow_194 (lv_at hl 6 rfl) ?_
                    refine lv_iconst (v := 2) hx hb dX3_sourceRow_196 (by decide) ?_
                    refine lv_idiv hx hb dX3_sourceRow_197 (by decide) ?_
                    refine lv_iload hx hb dX3_sourceRow_198 (lv_at hl 5 rfl) ?_
                    refine lv_ixor hx hb dX3_sourceRow_200 ?_
                    refine lv_goto (tgt := 208) hx hb dX3_sourceRow_201 (by decide) ?_
                    refine lv_topi (fun r1 er1 => ?_)
                    have hr1 : r1 = g_regn (f_taps (nI (2 ^ q))) r := by rw [er1]; unfold g_regn; first | rw [if_pos c_191] | rw [if_neg c_191]
                    have hrn : ¬ a0 = 0 → ¬ a0 = 1 → ¬ a0 = 2 → r1 = g_reg (f_taps (nI (2 ^ q))) (kq + 1) := fun h0 h1 h2 => by rw [hr1, hrg h0 h1 h2]; rfl
                    refine lv_istore (lv' := [(6, .int _), (8, .int _), (0, .ref _), (1, .int _), (2, .int _), (3, .long _), (5, .int _), (7, .int _)]) hx hb dX3_sourceRow_208 hl (by decide) rfl (fun ls hl => ?_)
                    refine lv_lload_n hx hb dX3_sourceRow_210 rfl (lv_at hl 5 rfl) ?_
                    refine lv_iload hx hb dX3_sourceRow_211 (lv_at hl 1 rfl) ?_
                    refine lv_if_eq (tgt := 223) hx hb dX3_sourceRow_213 (by decide) (fun c_213 => ?_) (fun c_213 => ?_)
                    · skip
                      refine lv_lconst (v := 0) hx hb dX3_sourceRow_223 (by decide) ?_
                      refine lv_lor hx hb dX3_sourceRow_224 ?_
                      refine lv_lstore_n (lv' := [(3, .long _), (6, .int _), (8, .int _), (0, .ref _), (1, .int _), (2, .int _), (5, .int _), (7, .int _)]) hx hb dX3_sourceRow_225 rfl hl (by decide) rfl (fun ls hl => ?_)
                      refine lv_iinc (lv' := [(7, .int (nI (kq + 1))), (3, .long _), (6, .int _), (8, .int _), (0, .ref _), (1, .int _), (2, .int _), (5, .int _)]) hx hb dX3_sourceRow_226 hl (k := 7) rfl (nI_1 _) (by decide) rfl (fun ls hl => ?_)
                      refine lv_goto (tgt := 54) hx hb dX3_sourceRow_229 (by decide) ?_
                      exact ih54 (kq + 1) _ _ (by omega) (by omega) (by rw [g_srow, ← g_isv_r hrg, hrow]; first | rw [if_pos c_213] | (rw [if_neg c_213]; rfl)) hrn ls (lv_sub hl [4, 5, 6, 1, 7, 2, 0] rfl)
                    · skip
                      refine lv_lconst (v := 1) hx hb dX3_sourceRow_216 (by decide) ?_
                      refine lv_iload hx hb dX3_sourceRow_217 (lv_at hl 7 rfl) ?_
                      refine lv_lshl hx hb dX3_sourceRow_219 rfl ?_
                      refine lv_goto (tgt := 224) hx hb dX3_sourceRow_220 (by decide) ?_
                      refine lv_lor hx hb dX3_sourceRow_224 ?_
                      refine lv_lstore_n (lv' := [(3, .long _), (6, .int _), (8, .int _), (0, .ref _), (1, .int _), (2, .int _), (5, .int _), (7, .int _)]) hx hb dX3_sourceRow_225 rfl hl (by decide) rfl (fun ls hl => ?_)
                      refine lv_iinc (lv' := [(7, .int (nI (kq + 1))), (3, .long _), (6, .int _), (8, .int _), (0, .ref _), (1, .int _), (2, .int _), (5, .int _)]) hx hb dX3_sourceRow_226 hl (k := 7) rfl (nI_1 _) (by decide) rfl (fun ls hl => ?_)
                      refine lv_goto (tgt := 54) hx hb dX3_sourceRow_229 (by decide) ?_
                      exact ih54 (kq + 1) _ _ (by omega) (by omega) (by rw [g_srow, ← g_isv_r hrg, hrow]; first | rw [if_pos c_213] | (rw [if_neg c_213]; rfl)) hrn ls (lv_sub hl [4, 5, 6, 1, 7, 2, 0] rfl)
              · skip
                refine lv_aload_n hx hb dX3_sourceRow_157 rfl (lv_at hl 0 rfl) ?_
                refine va_get (D := (dC, dI)) (ci := 3) (C := RX3) (T := TX3) (N := 13) hx hb hts inX3 hown hK hP 0 rfl rfl 0 (by decide) hw0 (fun _ h9 => h9) rfl dX3_sourceRow_158 ?_
                refine lv_iload_n hx hb dX3_sourceRow_161 rfl (lv_at hl 2 rfl) ?_
                refine lv_icmp_gt (tgt := 169) hx hb dX3_sourceRow_162 (by decide) (fun c_162 => ?_) (fun c_162 => ?_)
                · skip
                  have hbb : bI (nI (2 ^ q) ≤ a1) = 0 := bI_f (Int32.not_le.mpr c_162)
                  refine lv_iconst (v := 0) hx hb dX3_sourceRow_169 (by decide) ?_
                  refine lv_goto (tgt := 184) hx hb dX3_sourceRow_170 (by decide) ?_
                  refine st_i (v := g_isv q a0 a1 kq r) (by unfold g_isv; rw [if_neg c_64, if_neg c_85, if_neg c_110]; first | rw [if_pos c_154, hbb] | rw [if_neg c_154, hbb]) ?_
                  refine lv_istore (lv' := [(8, .int _), (0, .ref _), (1, .int _), (2, .int _), (3, .long _), (5, .int _), (6, .int _), (7, .int _)]) hx hb dX3_sourceRow_184 hl (by decide) rfl (fun ls hl => ?_)
                  refine lv_iload hx hb dX3_sourceRow_186 (lv_at hl 6 rfl) ?_
                  refine lv_iconst (v := 2) hx hb dX3_sourceRow_188 (by decide) ?_
                  refine lv_irem hx hb dX3_sourceRow_189 (by decide) ?_
                  refine lv_iconst (v := 1) hx hb dX3_sourceRow_190 (by decide) ?_
                  refine lv_icmp_ne (tgt := 204) hx hb dX3_sourceRow_191 (by decide) (fun c_191 => ?_) (fun c_191 => ?_)
                  · skip
                    have c_191 : ¬ remI r 2 = 1 := c_191
                    refine lv_iload hx hb dX3_sourceRow_204 (lv_at hl 6 rfl) ?_
                    refine lv_iconst (v := 2) hx hb dX3_sourceRow_206 (by decide) ?_
                    refine lv_idiv hx hb dX3_sourceRow_207 (by decide) ?_
                    refine lv_topi (fun r1 er1 => ?_)
                    have hr1 : r1 = g_regn (f_taps (nI (2 ^ q))) r := by rw [er1]; unfold g_regn; first | rw [if_pos c_191] | rw [if_neg c_191]
                    have hrn : ¬ a0 = 0 → ¬ a0 = 1 → ¬ a0 = 2 → r1 = g_reg (f_taps (nI (2 ^ q))) (kq + 1) := fun h0 h1 h2 => by rw [hr1, hrg h0 h1 h2]; rfl
                    refine lv_istore (lv' := [(6, .int _), (8, .int _), (0, .ref _), (1, .int _), (2, .int _), (3, .long _), (5, .int _), (7, .int _)]) hx hb dX3_sourceRow_208 hl (by decide) rfl (fun ls hl => ?_)
                    refine lv_lload_n hx hb dX3_sourceRow_210 rfl (lv_at hl 5 rfl) ?_
                    refine lv_iload hx hb dX3_sourceRow_211 (lv_at hl 1 rfl) ?_
                    refine lv_if_eq (tgt := 223) hx hb dX3_sourceRow_213 (by decide) (fun c_213 => ?_) (fun c_213 => ?_)
                    · skip
                      refine lv_lconst (v := 0) hx hb dX3_sourceRow_223 (by decide) ?_
                      refine lv_lor hx hb dX3_sourceRow_224 ?_
                      refine lv_lstore_n (lv' := [(3, .long _), (6, .int _), (8, .int _), (0, .ref _), (1, .int _), (2, .int _), (5, .int _), (7, .int _)]) hx hb dX3_sourceRow_225 rfl hl (by decide) rfl (fun ls hl => ?_)
                      refine lv_iinc (lv' := [(7, .int (nI (kq + 1))), (3, .long _), (6, .int _), (8, .int _), (0, .ref _), (1, .int _), (2, .int _), (5, .int _)]) hx hb dX3_sourceRow_226 hl (k := 7) rfl (nI_1 _) (by decide) rfl (fun ls hl => ?_)
                      refine lv_goto (tgt := 54) hx hb dX3_sourceRow_229 (by decide) ?_
                      exact ih54 (kq + 1) _ _ (by omega) (by omega) (by rw [g_srow, ← g_isv_r hrg, hrow]; first | rw [if_pos c_213] | (rw [if_neg c_213]; rfl)) hrn ls (lv_sub hl [4, 5, 6, 1, 7, 2, 0] rfl)
                    · skip
                      refine lv_lconst (v := 1) hx hb dX3_sourceRow_216 (by decide) ?_
                      refine lv_iload hx hb dX3_sourceRow_217 (lv_at hl 7 rfl) ?_
                      refine lv_lshl hx hb dX3_sourceRow_219 rfl ?_
                      refine lv_goto (tgt := 224) hx hb dX3_sourceRow_220 (by decide) ?_
                      refine lv_lor hx hb dX3_sourceRow_224 ?_
                      refine lv_lstore_n (lv' := [(3, .long _), (6, .int _), (8, .int _), (0, .ref _), (1, .int _), (2, .int _), (5, .int _), (7, .int _)]) hx hb dX3_sourceRow_225 rfl hl (by decide) rfl (fun ls hl => ?_)
                      refine lv_iinc (lv' := [(7, .int (nI (kq + 1))), (3, .long _), (6, .int _), (8, .int _), (0, .ref _), (1, .int _), (2, .int _), (5, .int _)]) hx hb dX3_sourceRow_226 hl (k := 7) rfl (nI_1 _) (by decide) rfl (fun ls hl => ?_)
                      refine lv_goto (tgt := 54) hx hb dX3_sourceRow_229 (by decide) ?_
                      exact ih54 (kq + 1) _ _ (by omega) (by omega) (by rw [g_srow, ← g_isv_r hrg, hrow]; first | rw [if_pos c_213] | (rw [if_neg c_213]; rfl)) hrn ls (lv_sub hl [4, 5, 6, 1, 7, 2, 0] rfl)
                  · skip
                    have c_191 : remI r 2 = 1 := c_191
                    refine lv_iload hx hb dX3_sourceRow_194 (lv_at hl 6 rfl) ?_
                    refine lv_iconst (v := 2) hx hb dX3_sourceRow_196 (by decide) ?_
                    refine lv_idiv hx hb dX3_sourceRow_197 (by decide) ?_
                    refine lv_iload hx hb dX3_sourceRow_198 (lv_at hl 5 rfl) ?_
                    refine lv_ixor hx hb dX3_sourceRow_200 ?_
                    refine lv_goto (tgt := 208) hx hb dX3_sourceRow_201 (by decide) ?_
                    refine lv_topi (fun r1 er1 => ?_)
                    have hr1 : r1 = g_regn (f_taps (nI (2 ^ q))) r := by rw [er1]; unfold g_regn; first | rw [if_pos c_191] | rw [if_neg c_191]
                    have hrn : ¬ a0 = 0 → ¬ a0 = 1 → ¬ a0 = 2 → r1 = g_reg (f_taps (nI (2 ^ q))) (kq + 1) := fun h0 h1 h2 => by rw [hr1, hrg h0 h1 h2]; rfl
                    refine lv_istore (lv' := [(6, .int _), (8, .int _), (0, .ref _), (1, .int _), (2, .int _), (3, .long _), (5, .int _), (7, .int _)]) hx hb dX3_sourceRow_208 hl (by decide) rfl (fun ls hl => ?_)
                    refine lv_lload_n hx hb dX3_sourceRow_210 rfl (lv_at hl 5 rfl) ?_
                    refine lv_iload hx hb dX3_sourceRow_211 (lv_at hl 1 rfl) ?_
                    refine lv_if_eq (tgt := 223) hx hb dX3_sourceRow_213 (by decide) (fun c_213 => ?_) (fun c_213 => ?_)
                    · skip
                      refine lv_lconst (v := 0) hx hb dX3_sourceRow_223 (by decide) ?_
                      refine lv_lor hx hb dX3_sourceRow_224 ?_
                      refine lv_lstore_n (lv' := [(3, .long _), (6, .int _), (8, .int _), (0, .ref _), (1, .int _), (2, .int _), (5, .int _), (7, .int _)]) hx hb dX3_sourceRow_225 rfl hl (by decide) rfl (fun ls hl => ?_)
                      refine lv_iinc (lv' := [(7, .int (nI (kq + 1))), (3, .long _), (6, .int _), (8, .int _), (0, .ref _), (1, .int _), (2, .int _), (5, .int _)]) hx hb dX3_sourceRow_226 hl (k := 7) rfl (nI_1 _) (by decide) rfl (fun ls hl => ?_)
                      refine lv_goto (tgt := 54) hx hb dX3_sourceRow_229 (by decide) ?_
                      exact ih54 (kq + 1) _ _ (by omega) (by omega) (by rw [g_srow, ← g_isv_r hrg, hrow]; first | rw [if_pos c_213] | (rw [if_neg c_213]; rfl)) hrn ls (lv_sub hl [4, 5, 6, 1, 7, 2, 0] rfl)
                    · skip
                      refine lv_lconst (v := 1) hx hb dX3_sourceRow_216 (by decide) ?_
                      refine lv_iload hx hb dX3_sourceRow_217 (lv_at hl 7 rfl) ?_
                      refine lv_lshl hx hb dX3_sourceRow_219 rfl ?_
                      refine lv_goto (tgt := 224) hx hb dX3_sourceRow_220 (by decide) ?_
                      refine lv_lor hx hb dX3_sourceRow_224 ?_
                      refine lv_lstore_n (lv' := [(3, .long _), (6, .int _), (8, .int _), (0, .ref _), (1, .int _), (2, .int _), (5, .int _), (7, .int _)]) hx hb dX3_sourceRow_225 rfl hl (by decide) rfl (fun ls hl => ?_)
                      refine lv_iinc (lv' := [(7, .int (nI (kq + 1))), (3, .long _), (6, .int _), (8, .int _), (0, .ref _), (1, .int _), (2, .int _), (5, .int _)]) hx hb dX3_sourceRow_226 hl (k := 7) rfl (nI_1 _) (by decide) rfl (fun ls hl => ?_)
                      refine lv_goto (tgt := 54) hx hb dX3_sourceRow_229 (by decide) ?_
                      exact ih54 (kq + 1) _ _ (by omega) (by omega) (by rw [g_srow, ← g_isv_r hrg, hrow]; first | rw [if_pos c_213] | (rw [if_neg c_213]; rfl)) hrn ls (lv_sub hl [4, 5, 6, 1, 7, 2, 0] rfl)
                · skip
                  have hbb : bI (nI (2 ^ q) ≤ a1) = 1 := bI_t (Int32.not_lt.mp c_162)
                  refine lv_iconst (v := 1) hx hb dX3_sourceRow_165 (by decide) ?_
                  refine lv_goto (tgt := 184) hx hb dX3_sourceRow_166 (by decide) ?_
                  refine st_i (v := g_isv q a0 a1 kq r) (by unfold g_isv; rw [if_neg c_64, if_neg c_85, if_neg c_110]; first | rw [if_pos c_154, hbb] | rw [if_neg c_154, hbb]) ?_
                  refine lv_istore (lv' := [(8, .int _), (0, .ref _), (1, .int _), (2, .int _), (3, .long _), (5, .int _), (6, .int _), (7, .int _)]) hx hb dX3_sourceRow_184 hl (by decide) rfl (fun ls hl => ?_)
                  refine lv_iload hx hb dX3_sourceRow_186 (lv_at hl 6 rfl) ?_
                  refine lv_iconst (v := 2) hx hb dX3_sourceRow_188 (by decide) ?_
                  refine lv_irem hx hb dX3_sourceRow_189 (by decide) ?_
                  refine lv_iconst (v := 1) hx hb dX3_sourceRow_190 (by decide) ?_
                  refine lv_icmp_ne (tgt := 204) hx hb dX3_sourceRow_191 (by decide) (fun c_191 => ?_) (fun c_191 => ?_)
                  · skip
                    have c_191 : ¬ remI r 2 = 1 := c_191
                    refine lv_iload hx hb dX3_sourceRow_204 (lv_at hl 6 rfl) ?_
                    refine lv_iconst (v := 2) hx hb dX3_sourceRow_206 (by decide) ?_
                    refine lv_idiv hx hb dX3_sourceRow_207 (by decide) ?_
                    refine lv_topi (fun r1 er1 => ?_)
                    have hr1 : r1 = g_regn (f_taps (nI (2 ^ q))) r := by rw [er1]; unfold g_regn; first | rw [if_pos c_191] | rw [if_neg c_191]
                    have hrn : ¬ a0 = 0 → ¬ a0 = 1 → ¬ a0 = 2 → r1 = g_reg (f_taps (nI (2 ^ q))) (kq + 1) := fun h0 h1 h2 => by rw [hr1, hrg h0 h1 h2]; rfl
                    refine lv_istore (lv' := [(6, .int _), (8, .int _), (0, .ref _), (1, .int _), (2, .int _), (3, .long _), (5, .int _), (7, .int _)]) hx hb dX3_sourceRow_208 hl (by decide) rfl (fun ls hl => ?_)
                    refine lv_lload_n hx hb dX3_sourceRow_210 rfl (lv_at hl 5 rfl) ?_
                    refine lv_iload hx hb dX3_sourceRow_211 (lv_at hl 1 rfl) ?_
                    refine lv_if_eq (tgt := 223) hx hb dX3_sourceRow_213 (by decide) (fun c_213 => ?_) (fun c_213 => ?_)
                    · skip
                      refine lv_lconst (v := 0) hx hb dX3_sourceRow_223 (by decide) ?_
                      refine lv_lor hx hb dX3_sourceRow_224 ?_
                      refine lv_lstore_n (lv' := [(3, .long _), (6, .int _), (8, .int _), (0, .ref _), (1, .int _), (2, .int _), (5, .int _), (7, .int _)]) hx hb dX3_sourceRow_225 rfl hl (by decide) rfl (fun ls hl => ?_)
                      refine lv_iinc (lv' := [(7, .int (nI (kq + 1))), (3, .long _), (6, .int _), (8, .int _), (0, .ref _), (1, .int _), (2, .int _), (5, .int _)]) hx hb dX3_sourceRow_226 hl (k := 7) rfl (nI_1 _) (by decide) rfl (fun ls hl => ?_)
                      refine lv_goto (tgt := 54) hx hb dX3_sourceRow_229 (by decide) ?_
                      exact ih54 (kq + 1) _ _ (by omega) (by omega) (by rw [g_srow, ← g_isv_r hrg, hrow]; first | rw [if_pos c_213] | (rw [if_neg c_213]; rfl)) hrn ls (lv_sub hl [4, 5, 6, 1, 7, 2, 0] rfl)
                    · skip
                      refine lv_lconst (v := 1) hx hb dX3_sourceRow_216 (by decide) ?_
                      refine lv_iload hx hb dX3_sourceRow_217 (lv_at hl 7 rfl) ?_
                      refine lv_lshl hx hb dX3_sourceRow_219 rfl ?_
                      refine lv_goto (tgt := 224) hx hb dX3_sourceRow_220 (by decide) ?_
                      refine lv_lor hx hb dX3_sourceRow_224 ?_
                      refine lv_lstore_n (lv' := [(3, .long _), (6, .int _), (8, .int _), (0, .ref _), (1, .int _), (2, .int _), (5, .int _), (7, .int _)]) hx hb dX3_sourceRow_225 rfl hl (by decide) rfl (fun ls hl => ?_)
                      refine lv_iinc (lv' := [(7, .int (nI (kq + 1))), (3, .long _), (6, .int _), (8, .int _), (0, .ref _), (1, .int _), (2, .int _), (5, .int _)]) hx hb dX3_sourceRow_226 hl (k := 7) rfl (nI_1 _) (by decide) rfl (fun ls hl => ?_)
                      refine lv_goto (tgt := 54) hx hb dX3_sourceRow_229 (by decide) ?_
                      exact ih54 (kq + 1) _ _ (by omega) (by omega) (by rw [g_srow, ← g_isv_r hrg, hrow]; first | rw [if_pos c_213] | (rw [if_neg c_213]; rfl)) hrn ls (lv_sub hl [4, 5, 6, 1, 7, 2, 0] rfl)
                  · skip
                    have c_191 : remI r 2 = 1 := c_191
                    refine lv_iload hx hb dX3_sourceRow_194 (lv_at hl 6 rfl) ?_
                    refine lv_iconst (v := 2) hx hb dX3_sourceRow_196 (by decide) ?_
                    refine lv_idiv hx hb dX3_sourceRow_197 (by decide) ?_
                    refine lv_iload hx hb dX3_sourceRow_198 (lv_at hl 5 rfl) ?_
                    refine lv_ixor hx hb dX3_sourceRow_200 ?_
                    refine lv_goto (tgt := 208) hx hb dX3_sourceRow_201 (by decide) ?_
                    refine lv_topi (fun r1 er1 => ?_)
                    have hr1 : r1 = g_regn (f_taps (nI (2 ^ q))) r := by rw [er1]; unfold g_regn; first | rw [if_pos c_191] | rw [if_neg c_191]
                    have hrn : ¬ a0 = 0 → ¬ a0 = 1 → ¬ a0 = 2 → r1 = g_reg (f_taps (nI (2 ^ q))) (kq + 1) := fun h0 h1 h2 => by rw [hr1, hrg h0 h1 h2]; rfl
                    refine lv_istore (lv' := [(6, .int _), (8, .int _), (0, .ref _), (1, .int _), (2, .int _), (3, .long _), (5, .int _), (7, .int _)]) hx hb dX3_sourceRow_208 hl (by decide) rfl (fun ls hl => ?_)
                    refine lv_lload_n hx hb dX3_sourceRow_210 rfl (lv_at hl 5 rfl) ?_
                    refine lv_iload hx hb dX3_sourceRow_211 (lv_at hl 1 rfl) ?_
                    refine lv_if_eq (tgt := 223) hx hb dX3_sourceRow_213 (by decide) (fun c_213 => ?_) (fun c_213 => ?_)
                    · skip
                      refine lv_lconst (v := 0) hx hb dX3_sourceRow_223 (by decide) ?_
                      refine lv_lor hx hb dX3_sourceRow_224 ?_
                      refine lv_lstore_n (lv' := [(3, .long _), (6, .int _), (8, .int _), (0, .ref _), (1, .int _), (2, .int _), (5, .int _), (7, .int _)]) hx hb dX3_sourceRow_225 rfl hl (by decide) rfl (fun ls hl => ?_)
                      refine lv_iinc (lv' := [(7, .int (nI (kq + 1))), (3, .long _), (6, .int _), (8, .int _), (0, .ref _), (1, .int _), (2, .int _), (5, .int _)]) hx hb dX3_sourceRow_226 hl (k := 7) rfl (nI_1 _) (by decide) rfl (fun ls hl => ?_)
                      refine lv_goto (tgt := 54) hx hb dX3_sourceRow_229 (by decide) ?_
                      exact ih54 (kq + 1) _ _ (by omega) (by omega) (by rw [g_srow, ← g_isv_r hrg, hrow]; first | rw [if_pos c_213] | (rw [if_neg c_213]; rfl)) hrn ls (lv_sub hl [4, 5, 6, 1, 7, 2, 0] rfl)
                    · skip
                      refine lv_lconst (v := 1) hx hb dX3_sourceRow_216 (by decide) ?_
                      refine lv_iload hx hb dX3_sourceRow_217 (lv_at hl 7 rfl) ?_
                      refine lv_lshl hx hb dX3_sourceRow_219 rfl ?_
                      refine lv_goto (tgt := 224) hx hb dX3_sourceRow_220 (by decide) ?_
                      refine lv_lor hx hb dX3_sourceRow_224 ?_
                      refine lv_lstore_n (lv' := [(3, .long _), (6, .int _), (8, .int _), (0, .ref _), (1, .int _), (2, .int _), (5, .int _), (7, .int _)]) hx hb dX3_sourceRow_225 rfl hl (by decide) rfl (fun ls hl => ?_)
                      refine lv_iinc (lv' := [(7, .int (nI (kq + 1))), (3, .long _), (6, .int _), (8, .int _), (0, .ref _), (1, .int _), (2, .int _), (5, .int _)]) hx hb dX3_sourceRow_226 hl (k := 7) rfl (nI_1 _) (by decide) rfl (fun ls hl => ?_)
                      refine lv_goto (tgt := 54) hx hb dX3_sourceRow_229 (by decide) ?_
                      exact ih54 (kq + 1) _ _ (by omega) (by omega) (by rw [g_srow, ← g_isv_r hrg, hrow]; first | rw [if_pos c_213] | (rw [if_neg c_213]; rfl)) hrn ls (lv_sub hl [4, 5, 6, 1, 7, 2, 0] rfl)
            · skip
              have hrn : ¬ a0 = 0 → ¬ a0 = 1 → ¬ a0 = 2 → r = g_reg (f_taps (nI (2 ^ q))) (kq + 1) := fun _ _ h => absurd c_110 h
              refine lv_iload_n hx hb dX3_sourceRow_113 rfl (lv_at hl 2 rfl) ?_
              refine lv_iload hx hb dX3_sourceRow_114 (lv_at hl 6 rfl) ?_
              refine lv_iconst (v := 1) hx hb dX3_sourceRow_116 (by decide) ?_
              refine lv_iadd hx hb dX3_sourceRow_117 ?_
              refine lv_imul hx hb dX3_sourceRow_118 ?_
              refine lv_aload_n hx hb dX3_sourceRow_119 rfl (lv_at hl 0 rfl) ?_
              refine va_get (D := (dC, dI)) (ci := 3) (C := RX3) (T := TX3) (N := 13) hx hb hts inX3 hown hK hP 0 rfl rfl 0 (by decide) hw0 (fun _ h9 => h9) rfl dX3_sourceRow_120 ?_
              refine lv_idiv hx hb dX3_sourceRow_123 (pw_ne hq) ?_
              refine lv_iload_n hx hb dX3_sourceRow_124 rfl (lv_at hl 2 rfl) ?_
              refine lv_iload hx hb dX3_sourceRow_125 (lv_at hl 6 rfl) ?_
              refine lv_imul hx hb dX3_sourceRow_127 ?_
              refine lv_aload_n hx hb dX3_sourceRow_128 rfl (lv_at hl 0 rfl) ?_
              refine va_get (D := (dC, dI)) (ci := 3) (C := RX3) (T := TX3) (N := 13) hx hb hts inX3 hown hK hP 0 rfl rfl 0 (by decide) hw0 (fun _ h9 => h9) rfl dX3_sourceRow_129 ?_
              refine lv_idiv hx hb dX3_sourceRow_132 (pw_ne hq) ?_
              refine lv_icmp_le (tgt := 140) hx hb dX3_sourceRow_133 (by decide) (fun c_133 => ?_) (fun c_133 => ?_)
              · skip
                have hbb : bI (a1 * nI kq / nI (2 ^ q) < a1 * (nI kq + 1) / nI (2 ^ q)) = 0 := bI_f (Int32.not_lt.mpr c_133)
                refine lv_iconst (v := 0) hx hb dX3_sourceRow_140 (by decide) ?_
                refine st_i (v := g_isv q a0 a1 kq r) (by unfold g_isv; rw [if_neg c_64, if_neg c_85, if_pos c_110, hbb]) ?_
                refine lv_istore (lv' := [(8, .int _), (0, .ref _), (1, .int _), (2, .int _), (3, .long _), (5, .int _), (6, .int _), (7, .int _)]) hx hb dX3_sourceRow_141 hl (by decide) rfl (fun ls hl => ?_)
                refine lv_goto (tgt := 210) hx hb dX3_sourceRow_143 (by decide) ?_
                refine lv_lload_n hx hb dX3_sourceRow_210 rfl (lv_at hl 4 rfl) ?_
                refine lv_iload hx hb dX3_sourceRow_211 (lv_at hl 0 rfl) ?_
                refine lv_if_eq (tgt := 223) hx hb dX3_sourceRow_213 (by decide) (fun c_213 => ?_) (fun c_213 => ?_)
                · skip
                  refine lv_lconst (v := 0) hx hb dX3_sourceRow_223 (by decide) ?_
                  refine lv_lor hx hb dX3_sourceRow_224 ?_
                  refine lv_lstore_n (lv' := [(3, .long _), (8, .int _), (0, .ref _), (1, .int _), (2, .int _), (5, .int _), (6, .int _), (7, .int _)]) hx hb dX3_sourceRow_225 rfl hl (by decide) rfl (fun ls hl => ?_)
                  refine lv_iinc (lv' := [(7, .int (nI (kq + 1))), (3, .long _), (8, .int _), (0, .ref _), (1, .int _), (2, .int _), (5, .int _), (6, .int _)]) hx hb dX3_sourceRow_226 hl (k := 7) rfl (nI_1 _) (by decide) rfl (fun ls hl => ?_)
                  refine lv_goto (tgt := 54) hx hb dX3_sourceRow_229 (by decide) ?_
                  exact ih54 (kq + 1) _ _ (by omega) (by omega) (by rw [g_srow, ← g_isv_r hrg, hrow]; first | rw [if_pos c_213] | (rw [if_neg c_213]; rfl)) hrn ls (lv_sub hl [3, 4, 5, 1, 6, 7, 0] rfl)
                · skip
                  refine lv_lconst (v := 1) hx hb dX3_sourceRow_216 (by decide) ?_
                  refine lv_iload hx hb dX3_sourceRow_217 (lv_at hl 7 rfl) ?_
                  refine lv_lshl hx hb dX3_sourceRow_219 rfl ?_
                  refine lv_goto (tgt := 224) hx hb dX3_sourceRow_220 (by decide) ?_
                  refine lv_lor hx hb dX3_sourceRow_224 ?_
                  refine lv_lstore_n (lv' := [(3, .long _), (8, .int _), (0, .ref _), (1, .int _), (2, .int _), (5, .int _), (6, .int _), (7, .int _)]) hx hb dX3_sourceRow_225 rfl hl (by decide) rfl (fun ls hl => ?_)
                  refine lv_iinc (lv' := [(7, .int (nI (kq + 1))), (3, .long _), (8, .int _), (0, .ref _), (1, .int _), (2, .int _), (5, .int _), (6, .int _)]) hx hb dX3_sourceRow_226 hl (k := 7) rfl (nI_1 _) (by decide) rfl (fun ls hl => ?_)
                  refine lv_goto (tgt := 54) hx hb dX3_sourceRow_229 (by decide) ?_
                  exact ih54 (kq + 1) _ _ (by omega) (by omega) (by rw [g_srow, ← g_isv_r hrg, hrow]; first | rw [if_pos c_213] | (rw [if_neg c_213]; rfl)) hrn ls (lv_sub hl [3, 4, 5, 1, 6, 7, 0] rfl)
              · skip
                have hbb : bI (a1 * nI kq / nI (2 ^ q) < a1 * (nI kq + 1) / nI (2 ^ q)) = 1 := bI_t (Int32.not_le.mp c_133)
                refine lv_iconst (v := 1) hx hb dX3_sourceRow_136 (by decide) ?_
                refine lv_goto (tgt := 141) hx hb dX3_sourceRow_137 (by decide) ?_
                refine st_i (v := g_isv q a0 a1 kq r) (by unfold g_isv; rw [if_neg c_64, if_neg c_85, if_pos c_110, hbb]) ?_
                refine lv_istore (lv' := [(8, .int _), (0, .ref _), (1, .int _), (2, .int _), (3, .long _), (5, .int _), (6, .int _), (7, .int _)]) hx hb dX3_sourceRow_141 hl (by decide) rfl (fun ls hl => ?_)
                refine lv_goto (tgt := 210) hx hb dX3_sourceRow_143 (by decide) ?_
                refine lv_lload_n hx hb dX3_sourceRow_210 rfl (lv_at hl 4 rfl) ?_
                refine lv_iload hx hb dX3_sourceRow_211 (lv_at hl 0 rfl) ?_
                refine lv_if_eq (tgt := 223) hx hb dX3_sourceRow_213 (by decide) (fun c_213 => ?_) (fun c_213 => ?_)
                · skip
                  refine lv_lconst (v := 0) hx hb dX3_sourceRow_223 (by decide) ?_
                  refine lv_lor hx hb dX3_sourceRow_224 ?_
                  refine lv_lstore_n (lv' := [(3, .long _), (8, .int _), (0, .ref _), (1, .int _), (2, .int _), (5, .int _), (6, .int _), (7, .int _)]) hx hb dX3_sourceRow_225 rfl hl (by decide) rfl (fun ls hl => ?_)
                  refine lv_iinc (lv' := [(7, .int (nI (kq + 1))), (3, .long _), (8, .int _), (0, .ref _), (1, .int _), (2, .int _), (5, .int _), (6, .int _)]) hx hb dX3_sourceRow_226 hl (k := 7) rfl (nI_1 _) (by decide) rfl (fun ls hl => ?_)
                  refine lv_goto (tgt := 54) hx hb dX3_sourceRow_229 (by decide) ?_
                  exact ih54 (kq + 1) _ _ (by omega) (by omega) (by rw [g_srow, ← g_isv_r hrg, hrow]; first | rw [if_pos c_213] | (rw [if_neg c_213]; rfl)) hrn ls (lv_sub hl [3, 4, 5, 1, 6, 7, 0] rfl)
                · skip
                  refine lv_lconst (v := 1) hx hb dX3_sourceRow_216 (by decide) ?_
                  refine lv_iload hx hb dX3_sourceRow_217 (lv_at hl 7 rfl) ?_
                  refine lv_lshl hx hb dX3_sourceRow_219 rfl ?_
                  refine lv_goto (tgt := 224) hx hb dX3_sourceRow_220 (by decide) ?_
                  refine lv_lor hx hb dX3_sourceRow_224 ?_
                  refine lv_lstore_n (lv' := [(3, .long _), (8, .int _), (0, .ref _), (1, .int _), (2, .int _), (5, .int _), (6, .int _), (7, .int _)]) hx hb dX3_sourceRow_225 rfl hl (by decide) rfl (fun ls hl => ?_)
                  refine lv_iinc (lv' := [(7, .int (nI (kq + 1))), (3, .long _), (8, .int _), (0, .ref _), (1, .int _), (2, .int _), (5, .int _), (6, .int _)]) hx hb dX3_sourceRow_226 hl (k := 7) rfl (nI_1 _) (by decide) rfl (fun ls hl => ?_)
                  refine lv_goto (tgt := 54) hx hb dX3_sourceRow_229 (by decide) ?_
                  exact ih54 (kq + 1) _ _ (by omega) (by omega) (by rw [g_srow, ← g_isv_r hrg, hrow]; first | rw [if_pos c_213] | (rw [if_neg c_213]; rfl)) hrn ls (lv_sub hl [3, 4, 5, 1, 6, 7, 0] rfl)
          · skip
            have hrn : ¬ a0 = 0 → ¬ a0 = 1 → ¬ a0 = 2 → r = g_reg (f_taps (nI (2 ^ q))) (kq + 1) := fun _ h => absurd c_85 h
            refine lv_aload_n hx hb dX3_sourceRow_88 rfl (lv_at hl 0 rfl) ?_
            refine lv_iload hx hb dX3_sourceRow_89 (lv_at hl 6 rfl) ?_
            refine ro_i (va_runV ⟨hx, hb, hml, hown, hts⟩ (c_X3_round l hq) (cwV 1 hts gX3_sourceRow_X3_round rfl rfl rfl ⟨rfl, kd_X3_round⟩ ⟨Nat.le_of_ble_eq_true rfl, Nat.le_of_ble_eq_true rfl⟩) (preV1 hnw hK hP 0 3 rfl rfl) rfl rfl hl.1 rfl (lv_room (Nat.le_of_ble_eq_true rfl)) dX3_sourceRow_91 ⟨Nat.zero_le _, Nat.zero_le _⟩) ?_
            refine lv_iload_n hx hb dX3_sourceRow_94 rfl (lv_at hl 2 rfl) ?_
            refine lv_icmp_ge (tgt := 102) hx hb dX3_sourceRow_95 (by decide) (fun c_95 => ?_) (fun c_95 => ?_)
            · skip
              have hbb : bI (g_rv (nI kq) q < a1) = 0 := bI_f (Int32.not_lt.mpr c_95)
              refine lv_iconst (v := 0) hx hb dX3_sourceRow_102 (by decide) ?_
              refine st_i (v := g_isv q a0 a1 kq r) (by unfold g_isv; rw [if_neg c_64, if_pos c_85, hbb]) ?_
              refine lv_istore (lv' := [(8, .int _), (0, .ref _), (1, .int _), (2, .int _), (3, .long _), (5, .int _), (6, .int _), (7, .int _)]) hx hb dX3_sourceRow_103 hl (by decide) rfl (fun ls hl => ?_)
              refine lv_goto (tgt := 210) hx hb dX3_sourceRow_105 (by decide) ?_
              refine lv_lload_n hx hb dX3_sourceRow_210 rfl (lv_at hl 4 rfl) ?_
              refine lv_iload hx hb dX3_sourceRow_211 (lv_at hl 0 rfl) ?_
              refine lv_if_eq (tgt := 223) hx hb dX3_sourceRow_213 (by decide) (fun c_213 => ?_) (fun c_213 => ?_)
              · skip
                refine lv_lconst (v := 0) hx hb dX3_sourceRow_223 (by decide) ?_
                refine lv_lor hx hb dX3_sourceRow_224 ?_
                refine lv_lstore_n (lv' := [(3, .long _), (8, .int _), (0, .ref _), (1, .int _), (2, .int _), (5, .int _), (6, .int _), (7, .int _)]) hx hb dX3_sourceRow_225 rfl hl (by decide) rfl (fun ls hl => ?_)
                refine lv_iinc (lv' := [(7, .int (nI (kq + 1))), (3, .long _), (8, .int _), (0, .ref _), (1, .int _), (2, .int _), (5, .int _), (6, .int _)]) hx hb dX3_sourceRow_226 hl (k := 7) rfl (nI_1 _) (by decide) rfl (fun ls hl => ?_)
                refine lv_goto (tgt := 54) hx hb dX3_sourceRow_229 (by decide) ?_
                exact ih54 (kq + 1) _ _ (by omega) (by omega) (by rw [g_srow, ← g_isv_r hrg, hrow]; first | rw [if_pos c_213] | (rw [if_neg c_213]; rfl)) hrn ls (lv_sub hl [3, 4, 5, 1, 6, 7, 0] rfl)
              · skip
                refine lv_lconst (v := 1) hx hb dX3_sourceRow_216 (by decide) ?_
                refine lv_iload hx hb dX3_sourceRow_217 (lv_at hl 7 rfl) ?_
                refine lv_lshl hx hb dX3_sourceRow_219 rfl ?_
                refine lv_goto (tgt := 224) hx hb dX3_sourceRow_220 (by decide) ?_
                refine lv_lor hx hb dX3_sourceRow_224 ?_
                refine lv_lstore_n (lv' := [(3, .long _), (8, .int _), (0, .ref _), (1, .int _), (2, .int _), (5, .int _), (6, .int _), (7, .int _)]) hx hb dX3_sourceRow_225 rfl hl (by decide) rfl (fun ls hl => ?_)
                refine lv_iinc (lv' := [(7, .int (nI (kq + 1))), (3, .long _), (8, .int _), (0, .ref _), (1, .int _), (2, .int _), (5, .int _), (6, .int _)]) hx hb dX3_sourceRow_226 hl (k := 7) rfl (nI_1 _) (by decide) rfl (fun ls hl => ?_)
                refine lv_goto (tgt := 54) hx hb dX3_sourceRow_229 (by decide) ?_
                exact ih54 (kq + 1) _ _ (by omega) (by omega) (by rw [g_srow, ← g_isv_r hrg, hrow]; first | rw [if_pos c_213] | (rw [if_neg c_213]; rfl)) hrn ls (lv_sub hl [3, 4, 5, 1, 6, 7, 0] rfl)
            · skip
              have hbb : bI (g_rv (nI kq) q < a1) = 1 := bI_t (Int32.not_le.mp c_95)
              refine lv_iconst (v := 1) hx hb dX3_sourceRow_98 (by decide) ?_
              refine lv_goto (tgt := 103) hx hb dX3_sourceRow_99 (by decide) ?_
              refine st_i (v := g_isv q a0 a1 kq r) (by unfold g_isv; rw [if_neg c_64, if_pos c_85, hbb]) ?_
              refine lv_istore (lv' := [(8, .int _), (0, .ref _), (1, .int _), (2, .int _), (3, .long _), (5, .int _), (6, .int _), (7, .int _)]) hx hb dX3_sourceRow_103 hl (by decide) rfl (fun ls hl => ?_)
              refine lv_goto (tgt := 210) hx hb dX3_sourceRow_105 (by decide) ?_
              refine lv_lload_n hx hb dX3_sourceRow_210 rfl (lv_at hl 4 rfl) ?_
              refine lv_iload hx hb dX3_sourceRow_211 (lv_at hl 0 rfl) ?_
              refine lv_if_eq (tgt := 223) hx hb dX3_sourceRow_213 (by decide) (fun c_213 => ?_) (fun c_213 => ?_)
              · skip
                refine lv_lconst (v := 0) hx hb dX3_sourceRow_223 (by decide) ?_
                refine lv_lor hx hb dX3_sourceRow_224 ?_
                refine lv_lstore_n (lv' := [(3, .long _), (8, .int _), (0, .ref _), (1, .int _), (2, .int _), (5, .int _), (6, .int _), (7, .int _)]) hx hb dX3_sourceRow_225 rfl hl (by decide) rfl (fun ls hl => ?_)
                refine lv_iinc (lv' := [(7, .int (nI (kq + 1))), (3, .long _), (8, .int _), (0, .ref _), (1, .int _), (2, .int _), (5, .int _), (6, .int _)]) hx hb dX3_sourceRow_226 hl (k := 7) rfl (nI_1 _) (by decide) rfl (fun ls hl => ?_)
                refine lv_goto (tgt := 54) hx hb dX3_sourceRow_229 (by decide) ?_
                exact ih54 (kq + 1) _ _ (by omega) (by omega) (by rw [g_srow, ← g_isv_r hrg, hrow]; first | rw [if_pos c_213] | (rw [if_neg c_213]; rfl)) hrn ls (lv_sub hl [3, 4, 5, 1, 6, 7, 0] rfl)
              · skip
                refine lv_lconst (v := 1) hx hb dX3_sourceRow_216 (by decide) ?_
                refine lv_iload hx hb dX3_sourceRow_217 (lv_at hl 7 rfl) ?_
                refine lv_lshl hx hb dX3_sourceRow_219 rfl ?_
                refine lv_goto (tgt := 224) hx hb dX3_sourceRow_220 (by decide) ?_
                refine lv_lor hx hb dX3_sourceRow_224 ?_
                refine lv_lstore_n (lv' := [(3, .long _), (8, .int _), (0, .ref _), (1, .int _), (2, .int _), (5, .int _), (6, .int _), (7, .int _)]) hx hb dX3_sourceRow_225 rfl hl (by decide) rfl (fun ls hl => ?_)
                refine lv_iinc (lv' := [(7, .int (nI (kq + 1))), (3, .long _), (8, .int _), (0, .ref _), (1, .int _), (2, .int _), (5, .int _), (6, .int _)]) hx hb dX3_sourceRow_226 hl (k := 7) rfl (nI_1 _) (by decide) rfl (fun ls hl => ?_)
                refine lv_goto (tgt := 54) hx hb dX3_sourceRow_229 (by decide) ?_
                exact ih54 (kq + 1) _ _ (by omega) (by omega) (by rw [g_srow, ← g_isv_r hrg, hrow]; first | rw [if_pos c_213] | (rw [if_neg c_213]; rfl)) hrn ls (lv_sub hl [3, 4, 5, 1, 6, 7, 0] rfl)
        · skip
          have hrn : ¬ a0 = 0 → ¬ a0 = 1 → ¬ a0 = 2 → r = g_reg (f_taps (nI (2 ^ q))) (kq + 1) := fun h => absurd c_64 h
          refine lv_iload hx hb dX3_sourceRow_67 (lv_at hl 6 rfl) ?_
          refine lv_iload_n hx hb dX3_sourceRow_69 rfl (lv_at hl 2 rfl) ?_
          refine lv_icmp_ge (tgt := 77) hx hb dX3_sourceRow_70 (by decide) (fun c_70 => ?_) (fun c_70 => ?_)
          · skip
            have hbb : bI (nI kq < a1) = 0 := bI_f (Int32.not_lt.mpr c_70)
            refine lv_iconst (v := 0) hx hb dX3_sourceRow_77 (by decide) ?_
            refine st_i (v := g_isv q a0 a1 kq r) (by unfold g_isv; rw [if_pos c_64, hbb]) ?_
            refine lv_istore (lv' := [(8, .int _), (0, .ref _), (1, .int _), (2, .int _), (3, .long _), (5, .int _), (6, .int _), (7, .int _)]) hx hb dX3_sourceRow_78 hl (by decide) rfl (fun ls hl => ?_)
            refine lv_goto (tgt := 210) hx hb dX3_sourceRow_80 (by decide) ?_
            refine lv_lload_n hx hb dX3_sourceRow_210 rfl (lv_at hl 4 rfl) ?_
            refine lv_iload hx hb dX3_sourceRow_211 (lv_at hl 0 rfl) ?_
            refine lv_if_eq (tgt := 223) hx hb dX3_sourceRow_213 (by decide) (fun c_213 => ?_) (fun c_213 => ?_)
            · skip
              refine lv_lconst (v := 0) hx hb dX3_sourceRow_223 (by decide) ?_
              refine lv_lor hx hb dX3_sourceRow_224 ?_
              refine lv_lstore_n (lv' := [(3, .long _), (8, .int _), (0, .ref _), (1, .int _), (2, .int _), (5, .int _), (6, .int _), (7, .int _)]) hx hb dX3_sourceRow_225 rfl hl (by decide) rfl (fun ls hl => ?_)
              refine lv_iinc (lv' := [(7, .int (nI (kq + 1))), (3, .long _), (8, .int _), (0, .ref _), (1, .int _), (2, .int _), (5, .int _), (6, .int _)]) hx hb dX3_sourceRow_226 hl (k := 7) rfl (nI_1 _) (by decide) rfl (fun ls hl => ?_)
              refine lv_goto (tgt := 54) hx hb dX3_sourceRow_229 (by decide) ?_
              exact ih54 (kq + 1) _ _ (by omega) (by omega) (by rw [g_srow, ← g_isv_r hrg, hrow]; first | rw [if_pos c_213] | (rw [if_neg c_213]; rfl)) hrn ls (lv_sub hl [3, 4, 5, 1, 6, 7, 0] rfl)
            · skip
              refine lv_lconst (v := 1) hx hb dX3_sourceRow_216 (by decide) ?_
              refine lv_iload hx hb dX3_sourceRow_217 (lv_at hl 7 rfl) ?_
              refine lv_lshl hx hb dX3_sourceRow_219 rfl ?_
              refine lv_goto (tgt := 224) hx hb dX3_sourceRow_220 (by decide) ?_
              refine lv_lor hx hb dX3_sourceRow_224 ?_
              refine lv_lstore_n (lv' := [(3, .long _), (8, .int _), (0, .ref _), (1, .int _), (2, .int _), (5, .int _), (6, .int _), (7, .int _)]) hx hb dX3_sourceRow_225 rfl hl (by decide) rfl (fun ls hl => ?_)
              refine lv_iinc (lv' := [(7, .int (nI (kq + 1))), (3, .long _), (8, .int _), (0, .ref _), (1, .int _), (2, .int _), (5, .int _), (6, .int _)]) hx hb dX3_sourceRow_226 hl (k := 7) rfl (nI_1 _) (by decide) rfl (fun ls hl => ?_)
              refine lv_goto (tgt := 54) hx hb dX3_sourceRow_229 (by decide) ?_
              exact ih54 (kq + 1) _ _ (by omega) (by omega) (by rw [g_srow, ← g_isv_r hrg, hrow]; first | rw [if_pos c_213] | (rw [if_neg c_213]; rfl)) hrn ls (lv_sub hl [3, 4, 5, 1, 6, 7, 0] rfl)
          · skip
            have hbb : bI (nI kq < a1) = 1 := bI_t (Int32.not_le.mp c_70)
            refine lv_iconst (v := 1) hx hb dX3_sourceRow_73 (by decide) ?_
            refine lv_goto (tgt := 78) hx hb dX3_sourceRow_74 (by decide) ?_
            refine st_i (v := g_isv q a0 a1 kq r) (by unfold g_isv; rw [if_pos c_64, hbb]) ?_
            refine lv_istore (lv' := [(8, .int _), (0, .ref _), (1, .int _), (2, .int _), (3, .long _), (5, .int _), (6, .int _), (7, .int _)]) hx hb dX3_sourceRow_78 hl (by decide) rfl (fun ls hl => ?_)
            refine lv_goto (tgt := 210) hx hb dX3_sourceRow_80 (by decide) ?_
            refine lv_lload_n hx hb dX3_sourceRow_210 rfl (lv_at hl 4 rfl) ?_
            refine lv_iload hx hb dX3_sourceRow_211 (lv_at hl 0 rfl) ?_
            refine lv_if_eq (tgt := 223) hx hb dX3_sourceRow_213 (by decide) (fun c_213 => ?_) (fun c_213 => ?_)
            · skip
              refine lv_lconst (v := 0) hx hb dX3_sourceRow_223 (by decide) ?_
              refine lv_lor hx hb dX3_sourceRow_224 ?_
              refine lv_lstore_n (lv' := [(3, .long _), (8, .int _), (0, .ref _), (1, .int _), (2, .int _), (5, .int _), (6, .int _), (7, .int _)]) hx hb dX3_sourceRow_225 rfl hl (by decide) rfl (fun ls hl => ?_)
              refine lv_iinc (lv' := [(7, .int (nI (kq + 1))), (3, .long _), (8, .int _), (0, .ref _), (1, .int _), (2, .int _), (5, .int _), (6, .int _)]) hx hb dX3_sourceRow_226 hl (k := 7) rfl (nI_1 _) (by decide) rfl (fun ls hl => ?_)
              refine lv_goto (tgt := 54) hx hb dX3_sourceRow_229 (by decide) ?_
              exact ih54 (kq + 1) _ _ (by omega) (by omega) (by rw [g_srow, ← g_isv_r hrg, hrow]; first | rw [if_pos c_213] | (rw [if_neg c_213]; rfl)) hrn ls (lv_sub hl [3, 4, 5, 1, 6, 7, 0] rfl)
            · skip
              refine lv_lconst (v := 1) hx hb dX3_sourceRow_216 (by decide) ?_
              refine lv_iload hx hb dX3_sourceRow_217 (lv_at hl 7 rfl) ?_
              refine lv_lshl hx hb dX3_sourceRow_219 rfl ?_
              refine lv_goto (tgt := 224) hx hb dX3_sourceRow_220 (by decide) ?_
              refine lv_lor hx hb dX3_sourceRow_224 ?_
              refine lv_lstore_n (lv' := [(3, .long _), (8, .int _), (0, .ref _), (1, .int _), (2, .int _), (5, .int _), (6, .int _), (7, .int _)]) hx hb dX3_sourceRow_225 rfl hl (by decide) rfl (fun ls hl => ?_)
              refine lv_iinc (lv' := [(7, .int (nI (kq + 1))), (3, .long _), (8, .int _), (0, .ref _), (1, .int _), (2, .int _), (5, .int _), (6, .int _)]) hx hb dX3_sourceRow_226 hl (k := 7) rfl (nI_1 _) (by decide) rfl (fun ls hl => ?_)
              refine lv_goto (tgt := 54) hx hb dX3_sourceRow_229 (by decide) ?_
              exact ih54 (kq + 1) _ _ (by omega) (by omega) (by rw [g_srow, ← g_isv_r hrg, hrow]; first | rw [if_pos c_213] | (rw [if_neg c_213]; rfl)) hrn ls (lv_sub hl [3, 4, 5, 1, 6, 7, 0] rfl)
  refine lv_lconst (v := 0) hx hb dX3_sourceRow_0 (by decide) ?_
  refine lv_lstore_n (lv' := [(3, .long _), (0, .ref _), (1, .int _), (2, .int _)]) hx hb dX3_sourceRow_1 rfl hl (by decide) rfl (fun ls hl => ?_)
  refine lv_aload_n hx hb dX3_sourceRow_2 rfl (lv_at hl 1 rfl) ?_
  refine va_get (D := (dC, dI)) (ci := 3) (C := RX3) (T := TX3) (N := 13) hx hb hts inX3 hown hK hP 0 rfl rfl 0 (by decide) hw0 (fun _ h9 => h9) rfl dX3_sourceRow_3 ?_
  refine lv_bipush (v := 8) hx hb dX3_sourceRow_6 (by decide) ?_
  refine lv_icmp_ne (tgt := 16) hx hb dX3_sourceRow_8 (by decide) (fun c_8 => ?_) (fun c_8 => ?_)
  · skip
    refine lv_aload_n hx hb dX3_sourceRow_16 rfl (lv_at hl 1 rfl) ?_
    refine va_get (D := (dC, dI)) (ci := 3) (C := RX3) (T := TX3) (N := 13) hx hb hts inX3 hown hK hP 0 rfl rfl 0 (by decide) hw0 (fun _ h9 => h9) rfl dX3_sourceRow_17 ?_
    refine lv_bipush (v := 16) hx hb dX3_sourceRow_20 (by decide) ?_
    refine lv_icmp_ne (tgt := 30) hx hb dX3_sourceRow_22 (by decide) (fun c_22 => ?_) (fun c_22 => ?_)
    · skip
      refine lv_aload_n hx hb dX3_sourceRow_30 rfl (lv_at hl 1 rfl) ?_
      refine va_get (D := (dC, dI)) (ci := 3) (C := RX3) (T := TX3) (N := 13) hx hb hts inX3 hown hK hP 0 rfl rfl 0 (by decide) hw0 (fun _ h9 => h9) rfl dX3_sourceRow_31 ?_
      refine lv_bipush (v := 32) hx hb dX3_sourceRow_34 (by decide) ?_
      refine lv_icmp_ne (tgt := 44) hx hb dX3_sourceRow_36 (by decide) (fun c_36 => ?_) (fun c_36 => ?_)
      · skip
        have ht : f_taps (nI (2 ^ q)) = 48 := by unfold f_taps; rw [if_neg c_8, if_neg c_22, if_neg c_36]
        refine lv_bipush (v := 48) hx hb dX3_sourceRow_44 (by decide) ?_
        refine st_i (v := f_taps (nI (2 ^ q))) ht.symm ?_
        refine lv_istore (lv' := [(5, .int _), (3, .long _), (0, .ref _), (1, .int _), (2, .int _)]) hx hb dX3_sourceRow_46 hl (by decide) rfl (fun ls hl => ?_)
        refine lv_iconst (v := 1) hx hb dX3_sourceRow_48 (by decide) ?_
        refine lv_istore (lv' := [(6, .int _), (5, .int _), (3, .long _), (0, .ref _), (1, .int _), (2, .int _)]) hx hb dX3_sourceRow_49 hl (by decide) rfl (fun ls hl => ?_)
        refine lv_iconst (v := 0) hx hb dX3_sourceRow_51 (by decide) ?_
        refine lv_istore (lv' := [(7, .int _), (6, .int _), (5, .int _), (3, .long _), (0, .ref _), (1, .int _), (2, .int _)]) hx hb dX3_sourceRow_52 hl (by decide) rfl (fun ls hl => ?_)
        exact L54 (2 ^ q + 1) 0 _ _ (by omega) (Nat.zero_le _) rfl (fun _ _ _ => rfl) ls (lv_sub hl [4, 5, 6, 3, 2, 1, 0] rfl)
      · skip
        have ht : f_taps (nI (2 ^ q)) = 20 := by unfold f_taps; rw [if_neg c_8, if_neg c_22, if_pos c_36]
        refine lv_bipush (v := 20) hx hb dX3_sourceRow_39 (by decide) ?_
        refine lv_goto (tgt := 46) hx hb dX3_sourceRow_41 (by decide) ?_
        refine st_i (v := f_taps (nI (2 ^ q))) ht.symm ?_
        refine lv_istore (lv' := [(5, .int _), (3, .long _), (0, .ref _), (1, .int _), (2, .int _)]) hx hb dX3_sourceRow_46 hl (by decide) rfl (fun ls hl => ?_)
        refine lv_iconst (v := 1) hx hb dX3_sourceRow_48 (by decide) ?_
        refine lv_istore (lv' := [(6, .int _), (5, .int _), (3, .long _), (0, .ref _), (1, .int _), (2, .int _)]) hx hb dX3_sourceRow_49 hl (by decide) rfl (fun ls hl => ?_)
        refine lv_iconst (v := 0) hx hb dX3_sourceRow_51 (by decide) ?_
        refine lv_istore (lv' := [(7, .int _), (6, .int _), (5, .int _), (3, .long _), (0, .ref _), (1, .int _), (2, .int _)]) hx hb dX3_sourceRow_52 hl (by decide) rfl (fun ls hl => ?_)
        exact L54 (2 ^ q + 1) 0 _ _ (by omega) (Nat.zero_le _) rfl (fun _ _ _ => rfl) ls (lv_sub hl [4, 5, 6, 3, 2, 1, 0] rfl)
    · skip
      have ht : f_taps (nI (2 ^ q)) = 12 := by unfold f_taps; rw [if_neg c_8, if_pos c_22]
      refine lv_bipush (v := 12) hx hb dX3_sourceRow_25 (by decide) ?_
      refine lv_goto (tgt := 46) hx hb dX3_sourceRow_27 (by decide) ?_
      refine st_i (v := f_taps (nI (2 ^ q))) ht.symm ?_
      refine lv_istore (lv' := [(5, .int _), (3, .long _), (0, .ref _), (1, .int _), (2, .int _)]) hx hb dX3_sourceRow_46 hl (by decide) rfl (fun ls hl => ?_)
      refine lv_iconst (v := 1) hx hb dX3_sourceRow_48 (by decide) ?_
      refine lv_istore (lv' := [(6, .int _), (5, .int _), (3, .long _), (0, .ref _), (1, .int _), (2, .int _)]) hx hb dX3_sourceRow_49 hl (by decide) rfl (fun ls hl => ?_)
      refine lv_iconst (v := 0) hx hb dX3_sourceRow_51 (by decide) ?_
      refine lv_istore (lv' := [(7, .int _), (6, .int _), (5, .int _), (3, .long _), (0, .ref _), (1, .int _), (2, .int _)]) hx hb dX3_sourceRow_52 hl (by decide) rfl (fun ls hl => ?_)
      exact L54 (2 ^ q + 1) 0 _ _ (by omega) (Nat.zero_le _) rfl (fun _ _ _ => rfl) ls (lv_sub hl [4, 5, 6, 3, 2, 1, 0] rfl)
  · skip
    have ht : f_taps (nI (2 ^ q)) = 6 := by unfold f_taps; rw [if_pos c_8]
    refine lv_bipush (v := 6) hx hb dX3_sourceRow_11 (by decide) ?_
    refine lv_goto (tgt := 46) hx hb dX3_sourceRow_13 (by decide) ?_
    refine st_i (v := f_taps (nI (2 ^ q))) ht.symm ?_
    refine lv_istore (lv' := [(5, .int _), (3, .long _), (0, .ref _), (1, .int _), (2, .int _)]) hx hb dX3_sourceRow_46 hl (by decide) rfl (fun ls hl => ?_)
    refine lv_iconst (v := 1) hx hb dX3_sourceRow_48 (by decide) ?_
    refine lv_istore (lv' := [(6, .int _), (5, .int _), (3, .long _), (0, .ref _), (1, .int _), (2, .int _)]) hx hb dX3_sourceRow_49 hl (by decide) rfl (fun ls hl => ?_)
    refine lv_iconst (v := 0) hx hb dX3_sourceRow_51 (by decide) ?_
    refine lv_istore (lv' := [(7, .int _), (6, .int _), (5, .int _), (3, .long _), (0, .ref _), (1, .int _), (2, .int _)]) hx hb dX3_sourceRow_52 hl (by decide) rfl (fun ls hl => ?_)
    exact L54 (2 ^ q + 1) 0 _ _ (by omega) (Nat.zero_le _) rfl (fun _ _ _ => rfl) ls (lv_sub hl [4, 5, 6, 3, 2, 1, 0] rfl)
theorem kd_X3_isSource : yX3_isSource.cls ≠ "java/lang/invoke/MethodHandle" ∧ yX3_isSource.cls ≠ "java/lang/invoke/VarHandle" ∧ (parseMethodDescriptor yX3_isSource.desc).map (fun d => d.parameters.length) = some 2 := by decide +kernel
set_option maxHeartbeats 4000000 in
set_option maxRecDepth 100000 in
theorem c_X3_isSource (l : Launch) {dC : Nat → ClassId} {dI : Nat → Nat → Nat} {ad : Nat → Nat} {cI cJ : ClassId} {ln : Int32} {dg : Int32} {sc : Int32} {ms : Int32} {mi : Int32} {mv : Int32} {mw : Int32} {pu : Int64} {pl : Int64} {st : (Nat → Int64)} {fr : (Nat → Int64)} {sr : (Nat → Int64)} {nu : (Nat → Int32)} {a0 a1 : Int32} : Met l yX3_isSource wsX3_isSource ({ frames := 1, cells := 0, slots := 0, locals := 25 }) (va_Pc ([.ref (ad 0), .int a0, .int a1] : List Value) (gB (dC, dI) (tyw cI cJ) (yw ad cI cJ ln dg sc ms mi mv mw pu pl st fr sr nu))) (QcRead (bI (srcs a0 ∧ (0 ≤ a1 ∧ a1 ≤ ln)))) 0 0 (fun _ => False) := by
  refine Met.ofW (cc := cX3_isSource) (maxL := 3) (ret := (some .boolean)) (by decide) rfl ?_
  intro p e s m args below meth c s₁ B hml hv
  obtain ⟨rfl, hnw, hK, hP⟩ := hv
  have hx := B.exec
  have hb := B.bytes
  have hr := B.returns
  have hts := atoms_spec (ws := wsX3_isSource) B.pre
  have hown : s.vm.findClass RX3 = some m.cls := findClass_of_methodNamed B.named
  have hlocks := B.notSynchronized
  have hw0 := hts (.constantLong RX3 47 (3)) (by decide +kernel)
  have hw1 := hts (.fieldLink RX3 23 "BitStreamsModel" "size" "I") (by decide +kernel)
  have inX3 : ∀ w ∈ wsX30, w ∈ wsX3_isSource := by decide +kernel
  have hl := lv_entry ([.ref (ad 0), .int a0, .int a1] : List Value) (n := 3) (Nat.le_of_ble_eq_true rfl)
  rw [lg_entry_eq]
  generalize (lg_sl ([.ref (ad 0), .int a0, .int a1] : List Value) ++ List.replicate (3 - (lg_sl ([.ref (ad 0), .int a0, .int a1] : List Value)).length) Slot.unset).toArray = ls at hl ⊢
  have hl : lv_has ls 3 [(0, .ref (ad 0)), (1, .int a0), (2, .int a1)] := hl
  refine lv_iload_n hx hb dX3_isSource_0 rfl (lv_at hl 1 rfl) ?_
  refine lv_i2l hx hb dX3_isSource_1 rfl ?_
  refine lv_lconst (v := 0) hx hb dX3_isSource_2 (by decide) ?_
  refine lv_ldc2 (v := 3) hx hb hown hw0 dX3_isSource_3 ?_
  refine ro_i (va_runS ⟨hx, hb, hml, hown, hts⟩ (c_X3_in l ) (va_cwS 3 hts gX3_isSource_X3_in rfl rfl rfl kd_X3_in ⟨Nat.le_of_ble_eq_true rfl, Nat.le_of_ble_eq_true rfl⟩) preS0 rfl rfl hl.1 rfl (lv_room (Nat.le_of_ble_eq_true rfl)) dX3_isSource_6 ⟨Nat.zero_le _, Nat.zero_le _⟩) ?_
  refine lv_if_eq (tgt := 30) hx hb dX3_isSource_9 (by decide) (fun c_9 => ?_) (fun c_9 => ?_)
  · skip
    have c_9 := bI_eq.mp c_9
    have c_9 : ¬ (0 ≤ a0 ∧ a0 ≤ 3) := fun h => c_9 ((in32 rfl rfl).mpr h)
    have hv : bI (srcs a0 ∧ (0 ≤ a1 ∧ a1 ≤ ln)) = 0 := bI_f (fun h => c_9 h.1)
    refine lv_iconst (v := 0) hx hb dX3_isSource_30 (by decide) ?_
    exact W.zret hx hb hr (by first | rfl | exact bI_nar) (fun t ht _ => ri hv.symm ht) no_locs dX3_isSource_31
  · skip
    have c_9 := bI_ne.mp c_9
    have c_9 : 0 ≤ a0 ∧ a0 ≤ 3 := (in32 rfl rfl).mp c_9
    refine lv_iload_n hx hb dX3_isSource_12 rfl (lv_at hl 2 rfl) ?_
    refine lv_i2l hx hb dX3_isSource_13 rfl ?_
    refine lv_lconst (v := 0) hx hb dX3_isSource_14 (by decide) ?_
    refine lv_aload_n hx hb dX3_isSource_15 rfl (lv_at hl 0 rfl) ?_
    refine va_get (D := (dC, dI)) (ci := 3) (C := RX3) (T := TX3) (N := 13) hx hb hts inX3 hown hK hP 0 rfl rfl 0 (by decide) hw1 (fun _ h9 => h9) rfl dX3_isSource_16 ?_
    refine lv_i2l hx hb dX3_isSource_19 rfl ?_
    refine ro_i (va_runS ⟨hx, hb, hml, hown, hts⟩ (c_X3_in l ) (va_cwS 3 hts gX3_isSource_X3_in rfl rfl rfl kd_X3_in ⟨Nat.le_of_ble_eq_true rfl, Nat.le_of_ble_eq_true rfl⟩) preS0 rfl rfl hl.1 rfl (lv_room (Nat.le_of_ble_eq_true rfl)) dX3_isSource_20 ⟨Nat.zero_le _, Nat.zero_le _⟩) ?_
    refine lv_if_eq (tgt := 30) hx hb dX3_isSource_23 (by decide) (fun c_23 => ?_) (fun c_23 => ?_)
    · skip
      have c_23 := bI_eq.mp c_23
      have c_23 : ¬ (0 ≤ a1 ∧ a1 ≤ ln) := fun h => c_23 ((in32 rfl rfl).mpr h)
      have hv : bI (srcs a0 ∧ (0 ≤ a1 ∧ a1 ≤ ln)) = 0 := bI_f (fun h => c_23 h.2)
      refine lv_iconst (v := 0) hx hb dX3_isSource_30 (by decide) ?_
      exact W.zret hx hb hr (by first | rfl | exact bI_nar) (fun t ht _ => ri hv.symm ht) no_locs dX3_isSource_31
    · skip
      have c_23 := bI_ne.mp c_23
      have c_23 : 0 ≤ a1 ∧ a1 ≤ ln := (in32 rfl rfl).mp c_23
      have hv : bI (srcs a0 ∧ (0 ≤ a1 ∧ a1 ≤ ln)) = 1 := bI_t ⟨c_9, c_23⟩
      refine lv_iconst (v := 1) hx hb dX3_isSource_26 (by decide) ?_
      refine lv_goto (tgt := 31) hx hb dX3_isSource_27 (by decide) ?_
      exact W.zret hx hb hr (by first | rfl | exact bI_nar) (fun t ht _ => ri hv.symm ht) no_locs dX3_isSource_31
theorem kd_X3_isPartial : yX3_isPartial.cls ≠ "java/lang/invoke/MethodHandle" ∧ yX3_isPartial.cls ≠ "java/lang/invoke/VarHandle" ∧ (parseMethodDescriptor yX3_isPartial.desc).map (fun d => d.parameters.length) = some 1 := by decide +kernel
set_option maxHeartbeats 4000000 in
set_option maxRecDepth 100000 in
theorem c_X3_isPartial (l : Launch) {dC : Nat → ClassId} {dI : Nat → Nat → Nat} {ad : Nat → Nat} {cI cJ : ClassId} {ln : Int32} {dg : Int32} {sc : Int32} {ms : Int32} {mi : Int32} {mv : Int32} {mw : Int32} {pu : Int64} {pl : Int64} {st : (Nat → Int64)} {fr : (Nat → Int64)} {sr : (Nat → Int64)} {nu : (Nat → Int32)} {a0 : Int32} : Met l yX3_isPartial wsX3_isPartial ({ frames := 1, cells := 0, slots := 0, locals := 25 }) (va_Pc ([.ref (ad 0), .int a0] : List Value) (gB (dC, dI) (tyw cI cJ) (yw ad cI cJ ln dg sc ms mi mv mw pu pl st fr sr nu))) (QcRead (bI (dg ≤ a0 ∧ a0 ≤ 10))) 0 0 (fun _ => False) := by
  refine Met.ofW (cc := cX3_isPartial) (maxL := 2) (ret := (some .boolean)) (by decide) rfl ?_
  intro p e s m args below meth c s₁ B hml hv
  obtain ⟨rfl, hnw, hK, hP⟩ := hv
  have hx := B.exec
  have hb := B.bytes
  have hr := B.returns
  have hts := atoms_spec (ws := wsX3_isPartial) B.pre
  have hown : s.vm.findClass RX3 = some m.cls := findClass_of_methodNamed B.named
  have hlocks := B.notSynchronized
  have hw0 := hts (.fieldLink RX3 124 "BitStreamsModel" "degree" "I") (by decide +kernel)
  have hw1 := hts (.constantLong RX3 139 (10)) (by decide +kernel)
  have inX3 : ∀ w ∈ wsX30, w ∈ wsX3_isPartial := by decide +kernel
  have hl := lv_entry ([.ref (ad 0), .int a0] : List Value) (n := 2) (Nat.le_of_ble_eq_true rfl)
  rw [lg_entry_eq]
  generalize (lg_sl ([.ref (ad 0), .int a0] : List Value) ++ List.replicate (2 - (lg_sl ([.ref (ad 0), .int a0] : List Value)).length) Slot.unset).toArray = ls at hl ⊢
  have hl : lv_has ls 2 [(0, .ref (ad 0)), (1, .int a0)] := hl
  refine lv_iload_n hx hb dX3_isPartial_0 rfl (lv_at hl 1 rfl) ?_
  refine lv_i2l hx hb dX3_isPartial_1 rfl ?_
  refine lv_aload_n hx hb dX3_isPartial_2 rfl (lv_at hl 0 rfl) ?_
  refine va_get (D := (dC, dI)) (ci := 3) (C := RX3) (T := TX3) (N := 13) hx hb hts inX3 hown hK hP 0 rfl rfl 8 (by decide) hw0 (fun _ h9 => h9) rfl dX3_isPartial_3 ?_
  refine lv_i2l hx hb dX3_isPartial_6 rfl ?_
  refine lv_ldc2 (v := 10) hx hb hown hw1 dX3_isPartial_7 ?_
  refine ro_i (va_runS ⟨hx, hb, hml, hown, hts⟩ (c_X3_in l ) (va_cwS 3 hts gX3_isPartial_X3_in rfl rfl rfl kd_X3_in ⟨Nat.le_of_ble_eq_true rfl, Nat.le_of_ble_eq_true rfl⟩) preS0 rfl rfl hl.1 rfl (lv_room (Nat.le_of_ble_eq_true rfl)) dX3_isPartial_10 ⟨Nat.zero_le _, Nat.zero_le _⟩) ?_
  exact W.zret hx hb hr (by first | rfl | exact bI_nar) (fun t ht _ => ri (by exact bI_congr (in32 rfl rfl)) ht) no_locs dX3_isPartial_13
theorem kd_X3_gateRow : yX3_gateRow.cls ≠ "java/lang/invoke/MethodHandle" ∧ yX3_gateRow.cls ≠ "java/lang/invoke/VarHandle" ∧ (parseMethodDescriptor yX3_gateRow.desc).map (fun d => d.parameters.length) = some 4 := by decide +kernel
set_option maxHeartbeats 4000000 in
set_option maxRecDepth 100000 in
theorem c_X3_gateRow (l : Launch) {dC : Nat → ClassId} {dI : Nat → Nat → Nat} {ad : Nat → Nat} {cI cJ : ClassId} {ln : Int32} {dg : Int32} {sc : Int32} {ms : Int32} {mi : Int32} {mv : Int32} {mw : Int32} {pu : Int64} {pl : Int64} {st : (Nat → Int64)} {fr : (Nat → Int64)} {sr : (Nat → Int64)} {nu : (Nat → Int32)} {a0 : Int32} {a1 a2 a3 : Int64} : Met l yX3_gateRow wsX3_gateRow ({ frames := 1, cells := 0, slots := 0, locals := 23 }) (va_Pc ([.ref (ad 0), .int a0, .long a1, .long a2, .long a3] : List Value) (gB (dC, dI) (tyw cI cJ) (yw ad cI cJ ln dg sc ms mi mv mw pu pl st fr sr nu))) (qL (g_gr a0 a1 a2 a3 ln.toNatClampNeg)) 0 0 (fun _ => False) := by
  refine Met.ofW (cc := cX3_gateRow) (maxL := 11) (ret := (some .long)) (by decide) rfl ?_
  intro p e s m args below meth c s₁ B hml hv
  obtain ⟨rfl, hnw, hK, hP⟩ := hv
  have hx := B.exec
  have hb := B.bytes
  have hr := B.returns
  have hts := atoms_spec (ws := wsX3_gateRow) B.pre
  have hown : s.vm.findClass RX3 = some m.cls := findClass_of_methodNamed B.named
  have hlocks := B.notSynchronized
  have hw0 := hts (.fieldLink RX3 23 "BitStreamsModel" "size" "I") (by decide +kernel)
  have inX3 : ∀ w ∈ wsX30, w ∈ wsX3_gateRow := by decide +kernel
  have hl := lv_entry ([.ref (ad 0), .int a0, .long a1, .long a2, .long a3] : List Value) (n := 11) (Nat.le_of_ble_eq_true rfl)
  rw [lg_entry_eq]
  generalize (lg_sl ([.ref (ad 0), .int a0, .long a1, .long a2, .long a3] : List Value) ++ List.replicate (11 - (lg_sl ([.ref (ad 0), .int a0, .long a1, .long a2, .long a3] : List Value)).length) Slot.unset).toArray = ls at hl ⊢
  have hl : lv_has ls 11 [(0, .ref (ad 0)), (1, .int a0), (2, .long a1), (4, .long a2), (6, .long a3)] := hl
  refine lv_lconst (v := 0) hx hb dX3_gateRow_0 (by decide) ?_
  refine lv_lstore (lv' := [(8, .long _), (0, .ref _), (1, .int _), (2, .long _), (4, .long _), (6, .long _)]) hx hb dX3_gateRow_1 hl (by decide) rfl (fun ls hl => ?_)
  refine lv_iconst (v := 0) hx hb dX3_gateRow_3 (by decide) ?_
  refine lv_istore (lv' := [(10, .int _), (8, .long _), (0, .ref _), (1, .int _), (2, .long _), (4, .long _), (6, .long _)]) hx hb dX3_gateRow_4 hl (by decide) rfl (fun ls hl => ?_)
  have L6 : ∀ (n6 : Nat) (kq : Nat), ln.toNatClampNeg + 1 ≤ kq + n6 → (kq ≤ ln.toNatClampNeg) → ∀ (ls : Array Slot), lv_has ls 11 [(0, .ref (ad 0)), (1, .int a0), (2, .long a1), (4, .long a2), (6, .long a3), (8, .long (g_gr a0 a1 a2 a3 kq)), (10, .int (nI kq))] → W p l e { frames := 1, cells := 0, slots := 0, locals := 23 } s m ([.ref (ad 0), .int a0, .long a1, .long a2, .long a3] : List Value).toArray below meth c s.heap [] 0 0 (MQ below (qL (g_gr a0 a1 a2 a3 ln.toNatClampNeg)) ([.ref (ad 0), .int a0, .long a1, .long a2, .long a3] : List Value).toArray s 0 0 (fun _ => False)) (F0 m 6 ls []) := by
    intro n6
    induction n6 with
    | zero =>
      intro kq hf6 hk
      exact absurd hf6 (by omega)
    | succ n6 ih6 =>
      intro kq hf6 hk ls hl
      refine lv_iload hx hb dX3_gateRow_6 (lv_at hl 6 rfl) ?_
      refine lv_aload_n hx hb dX3_gateRow_8 rfl (lv_at hl 0 rfl) ?_
      refine va_get (D := (dC, dI)) (ci := 3) (C := RX3) (T := TX3) (N := 13) hx hb hts inX3 hown hK hP 0 rfl rfl 0 (by decide) hw0 (fun _ h9 => h9) rfl dX3_gateRow_9 ?_
      refine lv_icmp_ge (tgt := 57) hx hb dX3_gateRow_12 (by decide) (fun c_12 => ?_) (fun c_12 => ?_)
      · skip
        refine lv_lload hx hb dX3_gateRow_57 (lv_at hl 5 rfl) ?_
        exact W.lret hx hb hr (fun t ht _ => rl (by rw [cl_end hk c_12]) ht) no_locs dX3_gateRow_59
      · skip
        refine lv_lload hx hb dX3_gateRow_15 (lv_at hl 5 rfl) ?_
        refine lv_iload_n hx hb dX3_gateRow_17 rfl (lv_at hl 1 rfl) ?_
        refine lv_aload_n hx hb dX3_gateRow_18 rfl (lv_at hl 0 rfl) ?_
        refine lv_lload_n hx hb dX3_gateRow_19 rfl (lv_at hl 2 rfl) ?_
        refine lv_iload hx hb dX3_gateRow_20 (lv_at hl 6 rfl) ?_
        refine ro_i (va_runV ⟨hx, hb, hml, hown, hts⟩ (c_X3_bitOf l ) (cwV 2 hts gX3_gateRow_X3_bitOf rfl rfl rfl ⟨rfl, kd_X3_bitOf⟩ ⟨Nat.le_of_ble_eq_true rfl, Nat.le_of_ble_eq_true rfl⟩) (preV1 hnw hK hP 0 3 rfl rfl) rfl rfl hl.1 rfl (lv_room (Nat.le_of_ble_eq_true rfl)) dX3_gateRow_22 ⟨Nat.zero_le _, Nat.zero_le _⟩) ?_
        refine lv_aload_n hx hb dX3_gateRow_25 rfl (lv_at hl 0 rfl) ?_
        refine lv_lload hx hb dX3_gateRow_26 (lv_at hl 3 rfl) ?_
        refine lv_iload hx hb dX3_gateRow_28 (lv_at hl 6 rfl) ?_
        refine ro_i (va_runV ⟨hx, hb, hml, hown, hts⟩ (c_X3_bitOf l ) (cwV 2 hts gX3_gateRow_X3_bitOf rfl rfl rfl ⟨rfl, kd_X3_bitOf⟩ ⟨Nat.le_of_ble_eq_true rfl, Nat.le_of_ble_eq_true rfl⟩) (preV1 hnw hK hP 0 3 rfl rfl) rfl rfl hl.1 rfl (lv_room (Nat.le_of_ble_eq_true rfl)) dX3_gateRow_30 ⟨Nat.zero_le _, Nat.zero_le _⟩) ?_
        refine lv_aload_n hx hb dX3_gateRow_33 rfl (lv_at hl 0 rfl) ?_
        refine lv_lload hx hb dX3_gateRow_34 (lv_at hl 4 rfl) ?_
        refine lv_iload hx hb dX3_gateRow_36 (lv_at hl 6 rfl) ?_
        refine ro_i (va_runV ⟨hx, hb, hml, hown, hts⟩ (c_X3_bitOf l ) (cwV 2 hts gX3_gateRow_X3_bitOf rfl rfl rfl ⟨rfl, kd_X3_bitOf⟩ ⟨Nat.le_of_ble_eq_true rfl, Nat.le_of_ble_eq_true rfl⟩) (preV1 hnw hK hP 0 3 rfl rfl) rfl rfl hl.1 rfl (lv_room (Nat.le_of_ble_eq_true rfl)) dX3_gateRow_38 ⟨Nat.zero_le _, Nat.zero_le _⟩) ?_
        refine ro_i (va_runS ⟨hx, hb, hml, hown, hts⟩ (c_X3_gated l ) (va_cwS 4 hts gX3_gateRow_X3_gated rfl rfl rfl kd_X3_gated ⟨Nat.le_of_ble_eq_true rfl, Nat.le_of_ble_eq_true rfl⟩) preS0 rfl rfl hl.1 rfl (lv_room (Nat.le_of_ble_eq_true rfl)) dX3_gateRow_41 ⟨Nat.zero_le _, Nat.zero_le _⟩) ?_
        refine lv_i2l hx hb dX3_gateRow_44 rfl ?_
        refine lv_iload hx hb dX3_gateRow_45 (lv_at hl 6 rfl) ?_
        refine lv_lshl hx hb dX3_gateRow_47 rfl ?_
        refine lv_lor hx hb dX3_gateRow_48 ?_
        refine lv_lstore (lv' := [(8, .long _), (0, .ref _), (1, .int _), (2, .long _), (4, .long _), (6, .long _), (10, .int _)]) hx hb dX3_gateRow_49 hl (by decide) rfl (fun ls hl => ?_)
        refine lv_iinc (lv' := [(10, .int (nI (kq + 1))), (8, .long _), (0, .ref _), (1, .int _), (2, .long _), (4, .long _), (6, .long _)]) hx hb dX3_gateRow_51 hl (k := 6) rfl (nI_1 _) (by decide) rfl (fun ls hl => ?_)
        refine lv_goto (tgt := 6) hx hb dX3_gateRow_54 (by decide) ?_
        exact ih6 (kq + 1) (by have := cl_go hk c_12; omega) (cl_go hk c_12) ls (lv_sub hl [2, 3, 4, 5, 6, 1, 0] rfl)
  exact L6 (ln.toNatClampNeg + 1) 0 (by omega) (Nat.zero_le _) ls (lv_sub hl [2, 3, 4, 5, 6, 1, 0] rfl)
theorem kd_X3_shifted : yX3_shifted.cls ≠ "java/lang/invoke/MethodHandle" ∧ yX3_shifted.cls ≠ "java/lang/invoke/VarHandle" ∧ (parseMethodDescriptor yX3_shifted.desc).map (fun d => d.parameters.length) = some 2 := by decide +kernel
set_option maxHeartbeats 4000000 in
set_option maxRecDepth 100000 in
theorem c_X3_shifted (l : Launch) {dC : Nat → ClassId} {dI : Nat → Nat → Nat} {ad : Nat → Nat} {cI cJ : ClassId} {ln : Int32} {dg : Int32} {sc : Int32} {ms : Int32} {mi : Int32} {mv : Int32} {mw : Int32} {pu : Int64} {pl : Int64} {st : (Nat → Int64)} {fr : (Nat → Int64)} {sr : (Nat → Int64)} {nu : (Nat → Int32)} {a0 : Int64} {a1 : Int32} (hln : ¬ ln = 0) : Met l yX3_shifted wsX3_shifted ({ frames := 1, cells := 0, slots := 0, locals := 23 }) (va_Pc ([.ref (ad 0), .long a0, .int a1] : List Value) (gB (dC, dI) (tyw cI cJ) (yw ad cI cJ ln dg sc ms mi mv mw pu pl st fr sr nu))) (qL (g_sh ln a0 a1 ln.toNatClampNeg)) 0 0 (fun _ => False) := by
  refine Met.ofW (cc := cX3_shifted) (maxL := 7) (ret := (some .long)) (by decide) rfl ?_
  intro p e s m args below meth c s₁ B hml hv
  obtain ⟨rfl, hnw, hK, hP⟩ := hv
  have hx := B.exec
  have hb := B.bytes
  have hr := B.returns
  have hts := atoms_spec (ws := wsX3_shifted) B.pre
  have hown : s.vm.findClass RX3 = some m.cls := findClass_of_methodNamed B.named
  have hlocks := B.notSynchronized
  have hw0 := hts (.fieldLink RX3 23 "BitStreamsModel" "size" "I") (by decide +kernel)
  have inX3 : ∀ w ∈ wsX30, w ∈ wsX3_shifted := by decide +kernel
  have hl := lv_entry ([.ref (ad 0), .long a0, .int a1] : List Value) (n := 7) (Nat.le_of_ble_eq_true rfl)
  rw [lg_entry_eq]
  generalize (lg_sl ([.ref (ad 0), .long a0, .int a1] : List Value) ++ List.replicate (7 - (lg_sl ([.ref (ad 0), .long a0, .int a1] : List Value)).length) Slot.unset).toArray = ls at hl ⊢
  have hl : lv_has ls 7 [(0, .ref (ad 0)), (1, .long a0), (3, .int a1)] := hl
  refine lv_lconst (v := 0) hx hb dX3_shifted_0 (by decide) ?_
  refine lv_lstore (lv' := [(4, .long _), (0, .ref _), (1, .long _), (3, .int _)]) hx hb dX3_shifted_1 hl (by decide) rfl (fun ls hl => ?_)
  refine lv_iconst (v := 0) hx hb dX3_shifted_3 (by decide) ?_
  refine lv_istore (lv' := [(6, .int _), (4, .long _), (0, .ref _), (1, .long _), (3, .int _)]) hx hb dX3_shifted_4 hl (by decide) rfl (fun ls hl => ?_)
  have L6 : ∀ (n6 : Nat) (kq : Nat), ln.toNatClampNeg + 1 ≤ kq + n6 → (kq ≤ ln.toNatClampNeg) → ∀ (ls : Array Slot), lv_has ls 7 [(0, .ref (ad 0)), (1, .long a0), (3, .int a1), (4, .long (g_sh ln a0 a1 kq)), (6, .int (nI kq))] → W p l e { frames := 1, cells := 0, slots := 0, locals := 23 } s m ([.ref (ad 0), .long a0, .int a1] : List Value).toArray below meth c s.heap [] 0 0 (MQ below (qL (g_sh ln a0 a1 ln.toNatClampNeg)) ([.ref (ad 0), .long a0, .int a1] : List Value).toArray s 0 0 (fun _ => False)) (F0 m 6 ls []) := by
    intro n6
    induction n6 with
    | zero =>
      intro kq hf6 hk
      exact absurd hf6 (by omega)
    | succ n6 ih6 =>
      intro kq hf6 hk ls hl
      refine lv_iload hx hb dX3_shifted_6 (lv_at hl 4 rfl) ?_
      refine lv_aload_n hx hb dX3_shifted_8 rfl (lv_at hl 0 rfl) ?_
      refine va_get (D := (dC, dI)) (ci := 3) (C := RX3) (T := TX3) (N := 13) hx hb hts inX3 hown hK hP 0 rfl rfl 0 (by decide) hw0 (fun _ h9 => h9) rfl dX3_shifted_9 ?_
      refine lv_icmp_ge (tgt := 44) hx hb dX3_shifted_12 (by decide) (fun c_12 => ?_) (fun c_12 => ?_)
      · skip
        refine lv_lload hx hb dX3_shifted_44 (lv_at hl 3 rfl) ?_
        exact W.lret hx hb hr (fun t ht _ => rl (by rw [cl_end hk c_12]) ht) no_locs dX3_shifted_46
      · skip
        refine lv_lload hx hb dX3_shifted_15 (lv_at hl 3 rfl) ?_
        refine lv_aload_n hx hb dX3_shifted_17 rfl (lv_at hl 0 rfl) ?_
        refine lv_lload_n hx hb dX3_shifted_18 rfl (lv_at hl 1 rfl) ?_
        refine lv_iload hx hb dX3_shifted_19 (lv_at hl 4 rfl) ?_
        refine lv_iload_n hx hb dX3_shifted_21 rfl (lv_at hl 2 rfl) ?_
        refine lv_iadd hx hb dX3_shifted_22 ?_
        refine lv_aload_n hx hb dX3_shifted_23 rfl (lv_at hl 0 rfl) ?_
        refine va_get (D := (dC, dI)) (ci := 3) (C := RX3) (T := TX3) (N := 13) hx hb hts inX3 hown hK hP 0 rfl rfl 0 (by decide) hw0 (fun _ h9 => h9) rfl dX3_shifted_24 ?_
        refine lv_irem hx hb dX3_shifted_27 (hln) ?_
        refine ro_i (va_runV ⟨hx, hb, hml, hown, hts⟩ (c_X3_bitOf l ) (cwV 2 hts gX3_shifted_X3_bitOf rfl rfl rfl ⟨rfl, kd_X3_bitOf⟩ ⟨Nat.le_of_ble_eq_true rfl, Nat.le_of_ble_eq_true rfl⟩) (preV1 hnw hK hP 0 3 rfl rfl) rfl rfl hl.1 rfl (lv_room (Nat.le_of_ble_eq_true rfl)) dX3_shifted_28 ⟨Nat.zero_le _, Nat.zero_le _⟩) ?_
        refine lv_i2l hx hb dX3_shifted_31 rfl ?_
        refine lv_iload hx hb dX3_shifted_32 (lv_at hl 4 rfl) ?_
        refine lv_lshl hx hb dX3_shifted_34 rfl ?_
        refine lv_lor hx hb dX3_shifted_35 ?_
        refine lv_lstore (lv' := [(4, .long _), (0, .ref _), (1, .long _), (3, .int _), (6, .int _)]) hx hb dX3_shifted_36 hl (by decide) rfl (fun ls hl => ?_)
        refine lv_iinc (lv' := [(6, .int (nI (kq + 1))), (4, .long _), (0, .ref _), (1, .long _), (3, .int _)]) hx hb dX3_shifted_38 hl (k := 4) rfl (nI_1 _) (by decide) rfl (fun ls hl => ?_)
        refine lv_goto (tgt := 6) hx hb dX3_shifted_41 (by decide) ?_
        exact ih6 (kq + 1) (by have := cl_go hk c_12; omega) (cl_go hk c_12) ls (lv_sub hl [2, 3, 4, 1, 0] rfl)
  exact L6 (ln.toNatClampNeg + 1) 0 (by omega) (Nat.zero_le _) ls (lv_sub hl [2, 3, 4, 1, 0] rfl)
theorem kd_X3_bothOf : yX3_bothOf.cls ≠ "java/lang/invoke/MethodHandle" ∧ yX3_bothOf.cls ≠ "java/lang/invoke/VarHandle" ∧ (parseMethodDescriptor yX3_bothOf.desc).map (fun d => d.parameters.length) = some 3 := by decide +kernel
set_option maxHeartbeats 4000000 in
set_option maxRecDepth 100000 in
theorem c_X3_bothOf (l : Launch) {dC : Nat → ClassId} {dI : Nat → Nat → Nat} {ad : Nat → Nat} {cI cJ : ClassId} {ln : Int32} {dg : Int32} {sc : Int32} {ms : Int32} {mi : Int32} {mv : Int32} {mw : Int32} {pu : Int64} {pl : Int64} {st : (Nat → Int64)} {fr : (Nat → Int64)} {sr : (Nat → Int64)} {nu : (Nat → Int32)} {a0 a1 a2 : Int32} (ha : vp_in a0 12) (hb2 : vp_in a1 12) : Met l yX3_bothOf wsX3_bothOf ({ frames := 1, cells := 0, slots := 0, locals := 23 }) (va_Pc ([.ref (ad 0), .int a0, .int a1, .int a2] : List Value) (gB (dC, dI) (tyw cI cJ) (yw ad cI cJ ln dg sc ms mi mv mw pu pl st fr sr nu))) (QcRead (g_bo (st a0.toNatClampNeg) (st a1.toNatClampNeg) a2 ln.toNatClampNeg)) 0 0 (fun _ => False) := by
  refine Met.ofW (cc := cX3_bothOf) (maxL := 8) (ret := (some .int)) (by decide) rfl ?_
  intro p e s m args below meth c s₁ B hml hv
  obtain ⟨rfl, hnw, hK, hP⟩ := hv
  have hx := B.exec
  have hb := B.bytes
  have hr := B.returns
  have hts := atoms_spec (ws := wsX3_bothOf) B.pre
  have hown : s.vm.findClass RX3 = some m.cls := findClass_of_methodNamed B.named
  have hlocks := B.notSynchronized
  have hw0 := hts (.fieldLink RX3 23 "BitStreamsModel" "size" "I") (by decide +kernel)
  have hw1 := hts (.fieldLink RX3 7 "BitStreamsModel" "rows" "[J") (by decide +kernel)
  have inX3 : ∀ w ∈ wsX30, w ∈ wsX3_bothOf := by decide +kernel
  have hl := lv_entry ([.ref (ad 0), .int a0, .int a1, .int a2] : List Value) (n := 8) (Nat.le_of_ble_eq_true rfl)
  rw [lg_entry_eq]
  generalize (lg_sl ([.ref (ad 0), .int a0, .int a1, .int a2] : List Value) ++ List.replicate (8 - (lg_sl ([.ref (ad 0), .int a0, .int a1, .int a2] : List Value)).length) Slot.unset).toArray = ls at hl ⊢
  have hl : lv_has ls 8 [(0, .ref (ad 0)), (1, .int a0), (2, .int a1), (3, .int a2)] := hl
  refine lv_iconst (v := 0) hx hb dX3_bothOf_0 (by decide) ?_
  refine lv_istore (lv' := [(4, .int _), (0, .ref _), (1, .int _), (2, .int _), (3, .int _)]) hx hb dX3_bothOf_1 hl (by decide) rfl (fun ls hl => ?_)
  refine lv_iconst (v := 0) hx hb dX3_bothOf_3 (by decide) ?_
  refine lv_istore (lv' := [(5, .int _), (4, .int _), (0, .ref _), (1, .int _), (2, .int _), (3, .int _)]) hx hb dX3_bothOf_4 hl (by decide) rfl (fun ls hl => ?_)
  have L6 : ∀ (n6 : Nat) (kq : Nat), ln.toNatClampNeg + 1 ≤ kq + n6 → (kq ≤ ln.toNatClampNeg) → ∀ (ls : Array Slot), lv_has ls 8 [(0, .ref (ad 0)), (1, .int a0), (2, .int a1), (3, .int a2), (4, .int (g_bo (st a0.toNatClampNeg) (st a1.toNatClampNeg) a2 kq)), (5, .int (nI kq))] → W p l e { frames := 1, cells := 0, slots := 0, locals := 23 } s m ([.ref (ad 0), .int a0, .int a1, .int a2] : List Value).toArray below meth c s.heap [] 0 0 (MQ below (QcRead (g_bo (st a0.toNatClampNeg) (st a1.toNatClampNeg) a2 ln.toNatClampNeg)) ([.ref (ad 0), .int a0, .int a1, .int a2] : List Value).toArray s 0 0 (fun _ => False)) (F0 m 6 ls []) := by
    intro n6
    induction n6 with
    | zero =>
      intro kq hf6 hk
      exact absurd hf6 (by omega)
    | succ n6 ih6 =>
      intro kq hf6 hk ls hl
      refine lv_iload hx hb dX3_bothOf_6 (lv_at hl 5 rfl) ?_
      refine lv_aload_n hx hb dX3_bothOf_8 rfl (lv_at hl 0 rfl) ?_
      refine va_get (D := (dC, dI)) (ci := 3) (C := RX3) (T := TX3) (N := 13) hx hb hts inX3 hown hK hP 0 rfl rfl 0 (by decide) hw0 (fun _ h9 => h9) rfl dX3_bothOf_9 ?_
      refine lv_icmp_ge (tgt := 105) hx hb dX3_bothOf_12 (by decide) (fun c_12 => ?_) (fun c_12 => ?_)
      · skip
        refine lv_iload hx hb dX3_bothOf_105 (lv_at hl 4 rfl) ?_
        exact W.iret hx hb hr (fun t ht _ => ri (by rw [cl_end hk c_12]) ht) no_locs dX3_bothOf_107
      · skip
        refine lv_aload_n hx hb dX3_bothOf_15 rfl (lv_at hl 0 rfl) ?_
        refine lv_aload_n hx hb dX3_bothOf_16 rfl (lv_at hl 0 rfl) ?_
        refine va_get (D := (dC, dI)) (ci := 3) (C := RX3) (T := TX3) (N := 13) hx hb hts inX3 hown hK hP 0 rfl rfl 1 (by decide) hw1 (fun _ h9 => h9) rfl dX3_bothOf_17 ?_
        refine lv_iload_n hx hb dX3_bothOf_20 rfl (lv_at hl 1 rfl) ?_
        refine va_lald hx hb hK hP 1 1 rfl rfl (ha) dX3_bothOf_21 ?_
        refine lv_iload hx hb dX3_bothOf_22 (lv_at hl 5 rfl) ?_
        refine ro_i (va_runV ⟨hx, hb, hml, hown, hts⟩ (c_X3_bitOf l ) (cwV 2 hts gX3_bothOf_X3_bitOf rfl rfl rfl ⟨rfl, kd_X3_bitOf⟩ ⟨Nat.le_of_ble_eq_true rfl, Nat.le_of_ble_eq_true rfl⟩) (preV1 hnw hK hP 0 3 rfl rfl) rfl rfl hl.1 rfl (lv_room (Nat.le_of_ble_eq_true rfl)) dX3_bothOf_24 ⟨Nat.zero_le _, Nat.zero_le _⟩) ?_
        refine lv_istore (lv' := [(6, .int _), (0, .ref _), (1, .int _), (2, .int _), (3, .int _), (4, .int _), (5, .int _)]) hx hb dX3_bothOf_27 hl (by decide) rfl (fun ls hl => ?_)
        refine lv_aload_n hx hb dX3_bothOf_29 rfl (lv_at hl 1 rfl) ?_
        refine lv_aload_n hx hb dX3_bothOf_30 rfl (lv_at hl 1 rfl) ?_
        refine va_get (D := (dC, dI)) (ci := 3) (C := RX3) (T := TX3) (N := 13) hx hb hts inX3 hown hK hP 0 rfl rfl 1 (by decide) hw1 (fun _ h9 => h9) rfl dX3_bothOf_31 ?_
        refine lv_iload_n hx hb dX3_bothOf_34 rfl (lv_at hl 3 rfl) ?_
        refine va_lald hx hb hK hP 1 1 rfl rfl (hb2) dX3_bothOf_35 ?_
        refine lv_iload hx hb dX3_bothOf_36 (lv_at hl 6 rfl) ?_
        refine ro_i (va_runV ⟨hx, hb, hml, hown, hts⟩ (c_X3_bitOf l ) (cwV 2 hts gX3_bothOf_X3_bitOf rfl rfl rfl ⟨rfl, kd_X3_bitOf⟩ ⟨Nat.le_of_ble_eq_true rfl, Nat.le_of_ble_eq_true rfl⟩) (preV1 hnw hK hP 0 3 rfl rfl) rfl rfl hl.1 rfl (lv_room (Nat.le_of_ble_eq_true rfl)) dX3_bothOf_38 ⟨Nat.zero_le _, Nat.zero_le _⟩) ?_
        refine lv_istore (lv' := [(7, .int _), (6, .int _), (0, .ref _), (1, .int _), (2, .int _), (3, .int _), (4, .int _), (5, .int _)]) hx hb dX3_bothOf_41 hl (by decide) rfl (fun ls hl => ?_)
        refine lv_iload hx hb dX3_bothOf_43 (lv_at hl 6 rfl) ?_
        refine lv_iload_n hx hb dX3_bothOf_45 rfl (lv_at hl 5 rfl) ?_
        refine lv_if_ne (tgt := 57) hx hb dX3_bothOf_46 (by decide) (fun c_46 => ?_) (fun c_46 => ?_)
        · skip
          refine lv_iload_n hx hb dX3_bothOf_57 rfl (lv_at hl 5 rfl) ?_
          refine lv_iconst (v := 1) hx hb dX3_bothOf_58 (by decide) ?_
          refine lv_icmp_ne (tgt := 72) hx hb dX3_bothOf_59 (by decide) (fun c_59 => ?_) (fun c_59 => ?_)
          · skip
            refine lv_iload_n hx hb dX3_bothOf_72 rfl (lv_at hl 5 rfl) ?_
            refine lv_iconst (v := 2) hx hb dX3_bothOf_73 (by decide) ?_
            refine lv_icmp_ne (tgt := 87) hx hb dX3_bothOf_74 (by decide) (fun c_74 => ?_) (fun c_74 => ?_)
            · skip
              have hbx : ∀ x y z w : Int32, (if a2 = 0 then x else if a2 = 1 then y else if a2 = 2 then z else w) = w := fun x y z w => by rw [if_neg c_46, if_neg c_59, if_neg c_74]
              refine lv_iconst (v := 1) hx hb dX3_bothOf_87 (by decide) ?_
              refine lv_iload hx hb dX3_bothOf_88 (lv_at hl 1 rfl) ?_
              refine lv_isub hx hb dX3_bothOf_90 ?_
              refine lv_iconst (v := 1) hx hb dX3_bothOf_91 (by decide) ?_
              refine lv_iload hx hb dX3_bothOf_92 (lv_at hl 0 rfl) ?_
              refine lv_isub hx hb dX3_bothOf_94 ?_
              refine lv_imul hx hb dX3_bothOf_95 ?_
              refine st_i (v := g_bx a2 (g_bitOf (st a0.toNatClampNeg) (nI kq)) (g_bitOf (st a1.toNatClampNeg) (nI kq))) (by unfold g_bx; rw [hbx]) ?_
              refine lv_iadd hx hb dX3_bothOf_96 ?_
              refine lv_istore (lv' := [(4, .int _), (7, .int _), (6, .int _), (0, .ref _), (1, .int _), (2, .int _), (3, .int _), (5, .int _)]) hx hb dX3_bothOf_97 hl (by decide) rfl (fun ls hl => ?_)
              refine lv_iinc (lv' := [(5, .int (nI (kq + 1))), (4, .int _), (7, .int _), (6, .int _), (0, .ref _), (1, .int _), (2, .int _), (3, .int _)]) hx hb dX3_bothOf_99 hl (k := 7) rfl (nI_1 _) (by decide) rfl (fun ls hl => ?_)
              refine lv_goto (tgt := 6) hx hb dX3_bothOf_102 (by decide) ?_
              exact ih6 (kq + 1) (by have := cl_go hk c_12; omega) (cl_go hk c_12) ls (lv_sub hl [4, 5, 6, 7, 1, 0] rfl)
            · skip
              have hbx : ∀ x y z w : Int32, (if a2 = 0 then x else if a2 = 1 then y else if a2 = 2 then z else w) = z := fun x y z w => by rw [if_neg c_46, if_neg c_59, if_pos c_74]
              refine lv_iconst (v := 1) hx hb dX3_bothOf_77 (by decide) ?_
              refine lv_iload hx hb dX3_bothOf_78 (lv_at hl 1 rfl) ?_
              refine lv_isub hx hb dX3_bothOf_80 ?_
              refine lv_iload hx hb dX3_bothOf_81 (lv_at hl 0 rfl) ?_
              refine lv_imul hx hb dX3_bothOf_83 ?_
              refine lv_goto (tgt := 96) hx hb dX3_bothOf_84 (by decide) ?_
              refine st_i (v := g_bx a2 (g_bitOf (st a0.toNatClampNeg) (nI kq)) (g_bitOf (st a1.toNatClampNeg) (nI kq))) (by unfold g_bx; rw [hbx]) ?_
              refine lv_iadd hx hb dX3_bothOf_96 ?_
              refine lv_istore (lv' := [(4, .int _), (7, .int _), (6, .int _), (0, .ref _), (1, .int _), (2, .int _), (3, .int _), (5, .int _)]) hx hb dX3_bothOf_97 hl (by decide) rfl (fun ls hl => ?_)
              refine lv_iinc (lv' := [(5, .int (nI (kq + 1))), (4, .int _), (7, .int _), (6, .int _), (0, .ref _), (1, .int _), (2, .int _), (3, .int _)]) hx hb dX3_bothOf_99 hl (k := 7) rfl (nI_1 _) (by decide) rfl (fun ls hl => ?_)
              refine lv_goto (tgt := 6) hx hb dX3_bothOf_102 (by decide) ?_
              exact ih6 (kq + 1) (by have := cl_go hk c_12; omega) (cl_go hk c_12) ls (lv_sub hl [4, 5, 6, 7, 1, 0] rfl)
          · skip
            have hbx : ∀ x y z w : Int32, (if a2 = 0 then x else if a2 = 1 then y else if a2 = 2 then z else w) = y := fun x y z w => by rw [if_neg c_46, if_pos c_59]
            refine lv_iload hx hb dX3_bothOf_62 (lv_at hl 1 rfl) ?_
            refine lv_iconst (v := 1) hx hb dX3_bothOf_64 (by decide) ?_
            refine lv_iload hx hb dX3_bothOf_65 (lv_at hl 0 rfl) ?_
            refine lv_isub hx hb dX3_bothOf_67 ?_
            refine lv_imul hx hb dX3_bothOf_68 ?_
            refine lv_goto (tgt := 96) hx hb dX3_bothOf_69 (by decide) ?_
            refine st_i (v := g_bx a2 (g_bitOf (st a0.toNatClampNeg) (nI kq)) (g_bitOf (st a1.toNatClampNeg) (nI kq))) (by unfold g_bx; rw [hbx]) ?_
            refine lv_iadd hx hb dX3_bothOf_96 ?_
            refine lv_istore (lv' := [(4, .int _), (7, .int _), (6, .int _), (0, .ref _), (1, .int _), (2, .int _), (3, .int _), (5, .int _)]) hx hb dX3_bothOf_97 hl (by decide) rfl (fun ls hl => ?_)
            refine lv_iinc (lv' := [(5, .int (nI (kq + 1))), (4, .int _), (7, .int _), (6, .int _), (0, .ref _), (1, .int _), (2, .int _), (3, .int _)]) hx hb dX3_bothOf_99 hl (k := 7) rfl (nI_1 _) (by decide) rfl (fun ls hl => ?_)
            refine lv_goto (tgt := 6) hx hb dX3_bothOf_102 (by decide) ?_
            exact ih6 (kq + 1) (by have := cl_go hk c_12; omega) (cl_go hk c_12) ls (lv_sub hl [4, 5, 6, 7, 1, 0] rfl)
        · skip
          have hbx : ∀ x y z w : Int32, (if a2 = 0 then x else if a2 = 1 then y else if a2 = 2 then z else w) = x := fun x y z w => if_pos c_46
          refine lv_iload hx hb dX3_bothOf_49 (lv_at hl 1 rfl) ?_
          refine lv_iload hx hb dX3_bothOf_51 (lv_at hl 0 rfl) ?_
          refine lv_imul hx hb dX3_bothOf_53 ?_
          refine lv_goto (tgt := 96) hx hb dX3_bothOf_54 (by decide) ?_
          refine st_i (v := g_bx a2 (g_bitOf (st a0.toNatClampNeg) (nI kq)) (g_bitOf (st a1.toNatClampNeg) (nI kq))) (by unfold g_bx; rw [hbx]) ?_
          refine lv_iadd hx hb dX3_bothOf_96 ?_
          refine lv_istore (lv' := [(4, .int _), (7, .int _), (6, .int _), (0, .ref _), (1, .int _), (2, .int _), (3, .int _), (5, .int _)]) hx hb dX3_bothOf_97 hl (by decide) rfl (fun ls hl => ?_)
          refine lv_iinc (lv' := [(5, .int (nI (kq + 1))), (4, .int _), (7, .int _), (6, .int _), (0, .ref _), (1, .int _), (2, .int _), (3, .int _)]) hx hb dX3_bothOf_99 hl (k := 7) rfl (nI_1 _) (by decide) rfl (fun ls hl => ?_)
          refine lv_goto (tgt := 6) hx hb dX3_bothOf_102 (by decide) ?_
          exact ih6 (kq + 1) (by have := cl_go hk c_12; omega) (cl_go hk c_12) ls (lv_sub hl [4, 5, 6, 7, 1, 0] rfl)
  exact L6 (ln.toNatClampNeg + 1) 0 (by omega) (Nat.zero_le _) ls (lv_sub hl [2, 3, 4, 5, 1, 0] rfl)
theorem kd_X3_due : yX3_due.cls ≠ "java/lang/invoke/MethodHandle" ∧ yX3_due.cls ≠ "java/lang/invoke/VarHandle" ∧ (parseMethodDescriptor yX3_due.desc).map (fun d => d.parameters.length) = some 3 := by decide +kernel
set_option maxHeartbeats 4000000 in
set_option maxRecDepth 100000 in
theorem c_X3_due (l : Launch) {dC : Nat → ClassId} {dI : Nat → Nat → Nat} {ad : Nat → Nat} {cI cJ : ClassId} {ln : Int32} {dg : Int32} {sc : Int32} {ms : Int32} {mi : Int32} {mv : Int32} {mw : Int32} {pu : Int64} {pl : Int64} {st : (Nat → Int64)} {fr : (Nat → Int64)} {sr : (Nat → Int64)} {nu : (Nat → Int32)} {a0 a1 a2 : Int32} : Met l yX3_due wsX3_due ({ frames := 0, cells := 0, slots := 0, locals := 0 }) (va_Pc ([.ref (ad 0), .int a0, .int a1, .int a2] : List Value) (gB (dC, dI) (tyw cI cJ) (yw ad cI cJ ln dg sc ms mi mv mw pu pl st fr sr nu))) (QcRead (f_due ln a0 a1 a2)) 0 0 (fun _ => False) := by
  refine Met.ofW (cc := cX3_due) (maxL := 5) (ret := (some .int)) (by decide) rfl ?_
  intro p e s m args below meth c s₁ B hml hv
  obtain ⟨rfl, hnw, hK, hP⟩ := hv
  have hx := B.exec
  have hb := B.bytes
  have hr := B.returns
  have hts := atoms_spec (ws := wsX3_due) B.pre
  have hown : s.vm.findClass RX3 = some m.cls := findClass_of_methodNamed B.named
  have hlocks := B.notSynchronized
  have hw0 := hts (.fieldLink RX3 23 "BitStreamsModel" "size" "I") (by decide +kernel)
  have inX3 : ∀ w ∈ wsX30, w ∈ wsX3_due := by decide +kernel
  have hl := lv_entry ([.ref (ad 0), .int a0, .int a1, .int a2] : List Value) (n := 5) (Nat.le_of_ble_eq_true rfl)
  rw [lg_entry_eq]
  generalize (lg_sl ([.ref (ad 0), .int a0, .int a1, .int a2] : List Value) ++ List.replicate (5 - (lg_sl ([.ref (ad 0), .int a0, .int a1, .int a2] : List Value)).length) Slot.unset).toArray = ls at hl ⊢
  have hl : lv_has ls 5 [(0, .ref (ad 0)), (1, .int a0), (2, .int a1), (3, .int a2)] := hl
  refine lv_aload_n hx hb dX3_due_0 rfl (lv_at hl 0 rfl) ?_
  refine va_get (D := (dC, dI)) (ci := 3) (C := RX3) (T := TX3) (N := 13) hx hb hts inX3 hown hK hP 0 rfl rfl 0 (by decide) hw0 (fun _ h9 => h9) rfl dX3_due_1 ?_
  refine lv_iload_n hx hb dX3_due_4 rfl (lv_at hl 2 rfl) ?_
  refine lv_iload_n hx hb dX3_due_5 rfl (lv_at hl 3 rfl) ?_
  refine lv_iadd hx hb dX3_due_6 ?_
  refine lv_imul hx hb dX3_due_7 ?_
  refine lv_iconst (v := 2) hx hb dX3_due_8 (by decide) ?_
  refine lv_iload_n hx hb dX3_due_9 rfl (lv_at hl 2 rfl) ?_
  refine lv_imul hx hb dX3_due_10 ?_
  refine lv_iload_n hx hb dX3_due_11 rfl (lv_at hl 3 rfl) ?_
  refine lv_imul hx hb dX3_due_12 ?_
  refine lv_isub hx hb dX3_due_13 ?_
  refine lv_istore (lv' := [(4, .int _), (0, .ref _), (1, .int _), (2, .int _), (3, .int _)]) hx hb dX3_due_14 hl (by decide) rfl (fun ls hl => ?_)
  refine lv_iload_n hx hb dX3_due_16 rfl (lv_at hl 2 rfl) ?_
  refine lv_if_ne (tgt := 26) hx hb dX3_due_17 (by decide) (fun c_17 => ?_) (fun c_17 => ?_)
  · skip
    refine lv_iload_n hx hb dX3_due_26 rfl (lv_at hl 2 rfl) ?_
    refine lv_iconst (v := 1) hx hb dX3_due_27 (by decide) ?_
    refine lv_icmp_ne (tgt := 46) hx hb dX3_due_28 (by decide) (fun c_28 => ?_) (fun c_28 => ?_)
    · skip
      refine lv_iload_n hx hb dX3_due_46 rfl (lv_at hl 2 rfl) ?_
      refine lv_iconst (v := 2) hx hb dX3_due_47 (by decide) ?_
      refine lv_icmp_ne (tgt := 56) hx hb dX3_due_48 (by decide) (fun c_48 => ?_) (fun c_48 => ?_)
      · skip
        have hdu : f_due ln a0 a1 a2 = ln * ln - (ln * (a1 + a2) - 2 * a1 * a2) := by unfold f_due; rw [if_neg c_17, if_neg c_28, if_neg c_48]
        refine lv_aload_n hx hb dX3_due_56 rfl (lv_at hl 1 rfl) ?_
        refine va_get (D := (dC, dI)) (ci := 3) (C := RX3) (T := TX3) (N := 13) hx hb hts inX3 hown hK hP 0 rfl rfl 0 (by decide) hw0 (fun _ h9 => h9) rfl dX3_due_57 ?_
        refine lv_aload_n hx hb dX3_due_60 rfl (lv_at hl 1 rfl) ?_
        refine va_get (D := (dC, dI)) (ci := 3) (C := RX3) (T := TX3) (N := 13) hx hb hts inX3 hown hK hP 0 rfl rfl 0 (by decide) hw0 (fun _ h9 => h9) rfl dX3_due_61 ?_
        refine lv_imul hx hb dX3_due_64 ?_
        refine lv_iload hx hb dX3_due_65 (lv_at hl 0 rfl) ?_
        refine lv_isub hx hb dX3_due_67 ?_
        exact W.iret hx hb hr (fun t ht _ => ri hdu.symm ht) no_locs dX3_due_68
      · skip
        have hdu : f_due ln a0 a1 a2 = ln * (a1 + a2) - 2 * a1 * a2 := by unfold f_due; rw [if_neg c_17, if_neg c_28, if_pos c_48]
        refine lv_iload hx hb dX3_due_51 (lv_at hl 0 rfl) ?_
        refine lv_goto (tgt := 68) hx hb dX3_due_53 (by decide) ?_
        exact W.iret hx hb hr (fun t ht _ => ri hdu.symm ht) no_locs dX3_due_68
    · skip
      have hdu : f_due ln a0 a1 a2 = ln * (a1 + a2) - a1 * a2 := by unfold f_due; rw [if_neg c_17, if_pos c_28]
      refine lv_aload_n hx hb dX3_due_31 rfl (lv_at hl 1 rfl) ?_
      refine va_get (D := (dC, dI)) (ci := 3) (C := RX3) (T := TX3) (N := 13) hx hb hts inX3 hown hK hP 0 rfl rfl 0 (by decide) hw0 (fun _ h9 => h9) rfl dX3_due_32 ?_
      refine lv_iload_n hx hb dX3_due_35 rfl (lv_at hl 3 rfl) ?_
      refine lv_iload_n hx hb dX3_due_36 rfl (lv_at hl 4 rfl) ?_
      refine lv_iadd hx hb dX3_due_37 ?_
      refine lv_imul hx hb dX3_due_38 ?_
      refine lv_iload_n hx hb dX3_due_39 rfl (lv_at hl 3 rfl) ?_
      refine lv_iload_n hx hb dX3_due_40 rfl (lv_at hl 4 rfl) ?_
      refine lv_imul hx hb dX3_due_41 ?_
      refine lv_isub hx hb dX3_due_42 ?_
      refine lv_goto (tgt := 68) hx hb dX3_due_43 (by decide) ?_
      exact W.iret hx hb hr (fun t ht _ => ri hdu.symm ht) no_locs dX3_due_68
  · skip
    have hdu : f_due ln a0 a1 a2 = a1 * a2 := by unfold f_due; rw [if_pos c_17]
    refine lv_iload_n hx hb dX3_due_20 rfl (lv_at hl 3 rfl) ?_
    refine lv_iload_n hx hb dX3_due_21 rfl (lv_at hl 4 rfl) ?_
    refine lv_imul hx hb dX3_due_22 ?_
    refine lv_goto (tgt := 68) hx hb dX3_due_23 (by decide) ?_
    exact W.iret hx hb hr (fun t ht _ => ri hdu.symm ht) no_locs dX3_due_68
theorem kd_X3_findPart : yX3_findPart.cls ≠ "java/lang/invoke/MethodHandle" ∧ yX3_findPart.cls ≠ "java/lang/invoke/VarHandle" ∧ (parseMethodDescriptor yX3_findPart.desc).map (fun d => d.parameters.length) = some 2 := by decide +kernel
set_option maxHeartbeats 4000000 in
set_option maxRecDepth 100000 in
theorem c_X3_findPart (l : Launch) {dC : Nat → ClassId} {dI : Nat → Nat → Nat} {ad : Nat → Nat} {cI cJ : ClassId} {ln : Int32} {sc : Int32} {ms : Int32} {mi : Int32} {mv : Int32} {mw : Int32} {pu : Int64} {pl : Int64} {st : (Nat → Int64)} {fr : (Nat → Int64)} {sr : (Nat → Int64)} {nu : (Nat → Int32)} {sz : Nat} {d mm j : Nat} (hd : d ≤ 4) (hdm : d ≤ mm) (hm : mm ≤ 10) (hj : j ≤ mm) (hcm : cmOK (g_U d nu mm j) (g_Y d sc mm)) : Met l yX3_findPart wsX3_findPart ({ frames := 1, cells := 0, slots := 0, locals := 29 }) (va_Pc ([.ref (ad 0), .int (nI mm), .int (nI j)] : List Value) (gW sz (dC, dI) (tyw cI cJ) (yw ad cI cJ ln (nI d) sc ms mi mv mw pu pl st fr sr nu))) (va_Qv (fun _u : Unit => True) (fun _u t => va_P (dC, dI) vwCl (yw ad cI cJ ln (nI d) sc ms mi mv mw ((g_U d nu mm j) / (g_G (g_U d nu mm j) (g_Y d sc mm))) ((g_Y d sc mm) / (g_G (g_U d nu mm j) (g_Y d sc mm))) st fr sr nu) t.heap) (va_A (yw ad cI cJ ln (nI d) sc ms mi mv mw pu pl st fr sr nu) sz)) 0 0 (va_A (yw ad cI cJ ln (nI d) sc ms mi mv mw pu pl st fr sr nu) sz) := by
  refine Met.ofW (cc := cX3_findPart) (maxL := 9) (ret := none) (by decide) rfl ?_
  intro p e s m args below meth c s₁ B hml hv
  obtain ⟨rfl, hsz, ⟨hnw, hK, hP⟩, hD0⟩ := hv
  have hx := B.exec
  have hb := B.bytes
  have hr := B.returns
  have hts := atoms_spec (ws := wsX3_findPart) B.pre
  have hown : s.vm.findClass RX3 = some m.cls := findClass_of_methodNamed B.named
  have hlocks := B.notSynchronized
  subst hsz
  have hD := hD0.self (sz := s.heap.size)
  generalize hAe : va_A (yw ad cI cJ ln (nI d) sc ms mi mv mw pu pl st fr sr nu) s.heap.size = A at hD ⊢
  have hA : ∀ q : Nat, s.heap.size ≤ q → A q := fun q h => by rw [← hAe]; exact Or.inr h
  have hS : va_S A s.heap s.heap [] := va_S.rf
  have hw0 := hts (.fieldLink RX3 124 "BitStreamsModel" "degree" "I") (by decide +kernel)
  have hw1 := hts (.fieldLink RX3 30 "BitStreamsModel" "scale" "I") (by decide +kernel)
  have hw2 := hts (.fieldLink RX3 132 "BitStreamsModel" "partUp" "J") (by decide +kernel)
  have hw3 := hts (.fieldLink RX3 136 "BitStreamsModel" "partLow" "J") (by decide +kernel)
  have hw4 := hts (.fieldLink RX3 19 "BitStreamsModel" "terms" "[I") (by decide +kernel)
  have inX3 : ∀ w ∈ wsX30, w ∈ wsX3_findPart := by decide +kernel
  have hl := lv_entry ([.ref (ad 0), .int (nI mm), .int (nI j)] : List Value) (n := 9) (Nat.le_of_ble_eq_true rfl)
  rw [lg_entry_eq]
  generalize (lg_sl ([.ref (ad 0), .int (nI mm), .int (nI j)] : List Value) ++ List.replicate (9 - (lg_sl ([.ref (ad 0), .int (nI mm), .int (nI j)] : List Value)).length) Slot.unset).toArray = ls at hl ⊢
  have hl : lv_has ls 9 [(0, .ref (ad 0)), (1, .int (nI mm)), (2, .int (nI j))] := hl
  refine lv_lconst (v := 1) hx hb dX3_findPart_0 (by decide) ?_
  refine lv_lstore_n (lv' := [(3, .long _), (0, .ref _), (1, .int _), (2, .int _)]) hx hb dX3_findPart_1 rfl hl (by decide) rfl (fun ls hl => ?_)
  refine lv_iconst (v := 0) hx hb dX3_findPart_2 (by decide) ?_
  refine lv_istore (lv' := [(5, .int _), (3, .long _), (0, .ref _), (1, .int _), (2, .int _)]) hx hb dX3_findPart_3 hl (by decide) rfl (fun ls hl => ?_)
  have L5 : ∀ (n5 : Nat) (kq : Nat), d + 2 ≤ kq + n5 → (kq ≤ d + 1) → ∀ (H : Heap) (locs : List Loc), va_P (dC, dI) vwCl (yw ad cI cJ ln (nI d) sc ms mi mv mw pu pl st fr sr nu) H → va_S A s.heap H locs → ∀ (ls : Array Slot), lv_has ls 9 [(0, .ref (ad 0)), (1, .int (nI mm)), (2, .int (nI j)), (3, .long (g_low (nI mm) kq)), (5, .int (nI kq))] → W p l e { frames := 1, cells := 0, slots := 0, locals := 29 } s m ([.ref (ad 0), .int (nI mm), .int (nI j)] : List Value).toArray below meth c H locs 0 0 (MQ below (va_Qv (fun _u : Unit => True) (fun _u t => va_P (dC, dI) vwCl (yw ad cI cJ ln (nI d) sc ms mi mv mw ((g_U d nu mm j) / (g_G (g_U d nu mm j) (g_Y d sc mm))) ((g_Y d sc mm) / (g_G (g_U d nu mm j) (g_Y d sc mm))) st fr sr nu) t.heap) A) ([.ref (ad 0), .int (nI mm), .int (nI j)] : List Value).toArray s 0 0 (A)) (F0 m 5 ls []) := by
    intro n5
    induction n5 with
    | zero =>
      intro kq hf5 hk
      exact absurd hf5 (by omega)
    | succ n5 ih5 =>
      intro kq hf5 hk H locs hP hS ls hl
      have hD : va_D A (yw ad cI cJ ln (nI d) sc ms mi mv mw pu pl st fr sr nu) := va_D_addr hD rfl
      refine lv_iload hx hb dX3_findPart_5 (lv_at hl 4 rfl) ?_
      refine lv_aload_n hx hb dX3_findPart_7 rfl (lv_at hl 0 rfl) ?_
      refine va_get (D := (dC, dI)) (ci := 3) (C := RX3) (T := TX3) (N := 13) hx hb hts inX3 hown hK hP 0 rfl rfl 8 (by decide) hw0 (fun _ h9 => h9) rfl dX3_findPart_8 ?_
      refine lv_icmp_gt (tgt := 29) hx hb dX3_findPart_11 (by decide) (fun c_11 => ?_) (fun c_11 => ?_)
      · skip
        have hz1 := nI_nlt_end hk (by omega) c_11
        refine lv_lconst (v := 0) hx hb dX3_findPart_29 (by decide) ?_
        refine lv_lstore (lv' := [(5, .long _), (0, .ref _), (1, .int _), (2, .int _), (3, .long _)]) hx hb dX3_findPart_30 hl (by decide) rfl (fun ls hl => ?_)
        refine lv_iconst (v := 0) hx hb dX3_findPart_32 (by decide) ?_
        refine lv_istore (lv' := [(7, .int _), (5, .long _), (0, .ref _), (1, .int _), (2, .int _), (3, .long _)]) hx hb dX3_findPart_33 hl (by decide) rfl (fun ls hl => ?_)
        have L35 : ∀ (n35 : Nat) (iq : Nat), min d j + 2 ≤ iq + n35 → (iq ≤ min d j + 1) → ∀ (H : Heap) (locs : List Loc), va_P (dC, dI) vwCl (yw ad cI cJ ln (nI d) sc ms mi mv mw pu pl st fr sr nu) H → va_S A s.heap H locs → ∀ (ls : Array Slot), lv_has ls 9 [(0, .ref (ad 0)), (1, .int (nI mm)), (2, .int (nI j)), (3, .long (g_low (nI mm) (d + 1))), (5, .long (g_pu nu (g_low (nI mm) (d + 1)) (nI mm) (nI j) iq)), (7, .int (nI iq))] → W p l e { frames := 1, cells := 0, slots := 0, locals := 29 } s m ([.ref (ad 0), .int (nI mm), .int (nI j)] : List Value).toArray below meth c H locs 0 0 (MQ below (va_Qv (fun _u : Unit => True) (fun _u t => va_P (dC, dI) vwCl (yw ad cI cJ ln (nI d) sc ms mi mv mw ((g_U d nu mm j) / (g_G (g_U d nu mm j) (g_Y d sc mm))) ((g_Y d sc mm) / (g_G (g_U d nu mm j) (g_Y d sc mm))) st fr sr nu) t.heap) A) ([.ref (ad 0), .int (nI mm), .int (nI j)] : List Value).toArray s 0 0 (A)) (F0 m 35 ls []) := by
          intro n35
          induction n35 with
          | zero =>
            intro iq hf35 hi
            exact absurd hf35 (by omega)
          | succ n35 ih35 =>
            intro iq hf35 hi H locs hP hS ls hl
            have hD : va_D A (yw ad cI cJ ln (nI d) sc ms mi mv mw pu pl st fr sr nu) := va_D_addr hD rfl
            refine lv_iload hx hb dX3_findPart_35 (lv_at hl 5 rfl) ?_
            refine lv_aload_n hx hb dX3_findPart_37 rfl (lv_at hl 0 rfl) ?_
            refine va_get (D := (dC, dI)) (ci := 3) (C := RX3) (T := TX3) (N := 13) hx hb hts inX3 hown hK hP 0 rfl rfl 8 (by decide) hw0 (fun _ h9 => h9) rfl dX3_findPart_38 ?_
            refine lv_icmp_gt (tgt := 85) hx hb dX3_findPart_41 (by decide) (fun c_41 => ?_) (fun c_41 => ?_)
            · skip
              have hz : iq = min d j + 1 := by have := nI_nlt_end (k := iq) (n := d) (by omega) (by omega) c_41; omega
              refine lv_lload_n hx hb dX3_findPart_85 rfl (lv_at hl 3 rfl) ?_
              refine lv_aload_n hx hb dX3_findPart_86 rfl (lv_at hl 0 rfl) ?_
              refine va_get (D := (dC, dI)) (ci := 3) (C := RX3) (T := TX3) (N := 13) hx hb hts inX3 hown hK hP 0 rfl rfl 9 (by decide) hw1 (fun _ h9 => h9) rfl dX3_findPart_87 ?_
              refine lv_i2l hx hb dX3_findPart_90 rfl ?_
              refine lv_lmul hx hb dX3_findPart_91 ?_
              refine st_l (v := g_Y d sc mm) rfl ?_
              refine lv_lstore_n (lv' := [(3, .long _), (0, .ref _), (1, .int _), (2, .int _), (5, .long _), (7, .int _)]) hx hb dX3_findPart_92 rfl hl (by decide) rfl (fun ls hl => ?_)
              rw [hz] at hl
              refine lv_lload hx hb dX3_findPart_93 (lv_at hl 4 rfl) ?_
              refine lv_lload_n hx hb dX3_findPart_95 rfl (lv_at hl 0 rfl) ?_
              refine st_l (v := lN (g_Y d sc mm).toInt.natAbs) hcm.2.2.1 ?_
              refine ro_l (va_runS ⟨hx, hb, hml, hown, hts⟩ (c_X3_common l (a0 := g_U d nu mm j) (X := (g_U d nu mm j).toInt.natAbs) (Y := (g_Y d sc mm).toInt.natAbs) hcm.1 hcm.2.1 hcm.2.2.2.1) (va_cwS 2 hts gX3_findPart_X3_common rfl rfl rfl kd_X3_common ⟨Nat.le_of_ble_eq_true rfl, Nat.le_of_ble_eq_true rfl⟩) preS0 rfl rfl hl.1 rfl (lv_room (Nat.le_of_ble_eq_true rfl)) dX3_findPart_96 ⟨Nat.zero_le _, Nat.zero_le _⟩) ?_
              refine st_l (v := g_G (g_U d nu mm j) (g_Y d sc mm)) rfl ?_
              refine lv_lstore (lv' := [(7, .long _), (3, .long _), (0, .ref _), (1, .int _), (2, .int _), (5, .long _)]) hx hb dX3_findPart_99 hl (by decide) rfl (fun ls hl => ?_)
              refine lv_aload_n hx hb dX3_findPart_101 rfl (lv_at hl 2 rfl) ?_
              refine lv_lload hx hb dX3_findPart_102 (lv_at hl 5 rfl) ?_
              refine lv_lload hx hb dX3_findPart_104 (lv_at hl 0 rfl) ?_
              refine lv_ldiv hx hb dX3_findPart_106 (hcm.2.2.2.2) ?_
              refine va_put (D := (dC, dI)) (ci := 3) (ty := .long) (C := RX3) (T := TX3) (N := 13) hx hb hts inX3 tyX3 tyX3_ok nmX3 hown hK hP hD hS 0 rfl rfl 11 (by decide) hw2 (fun _ h9 => h9) rfl (by decide +kernel) rfl rfl (Nat.le_of_ble_eq_true rfl) dX3_findPart_107 (fun H locs hP hD hS => ?_)
              have hP : va_P (dC, dI) vwCl (yw ad cI cJ ln (nI d) sc ms mi mv mw ((g_U d nu mm j) / (g_G (g_U d nu mm j) (g_Y d sc mm))) pl st fr sr nu) H := hP
              have hD : va_D A (yw ad cI cJ ln (nI d) sc ms mi mv mw ((g_U d nu mm j) / (g_G (g_U d nu mm j) (g_Y d sc mm))) pl st fr sr nu) := va_D_addr hD rfl
              refine lv_aload_n hx hb dX3_findPart_110 rfl (lv_at hl 2 rfl) ?_
              refine lv_lload_n hx hb dX3_findPart_111 rfl (lv_at hl 1 rfl) ?_
              refine lv_lload hx hb dX3_findPart_112 (lv_at hl 0 rfl) ?_
              refine lv_ldiv hx hb dX3_findPart_114 (hcm.2.2.2.2) ?_
              refine va_put (D := (dC, dI)) (ci := 3) (ty := .long) (C := RX3) (T := TX3) (N := 13) hx hb hts inX3 tyX3 tyX3_ok nmX3 hown hK hP hD hS 0 rfl rfl 12 (by decide) hw3 (fun _ h9 => h9) rfl (by decide +kernel) rfl rfl (Nat.le_of_ble_eq_true rfl) dX3_findPart_115 (fun H locs hP hD hS => ?_)
              have hP : va_P (dC, dI) vwCl (yw ad cI cJ ln (nI d) sc ms mi mv mw ((g_U d nu mm j) / (g_G (g_U d nu mm j) (g_Y d sc mm))) ((g_Y d sc mm) / (g_G (g_U d nu mm j) (g_Y d sc mm))) st fr sr nu) H := hP
              have hD : va_D A (yw ad cI cJ ln (nI d) sc ms mi mv mw ((g_U d nu mm j) / (g_G (g_U d nu mm j) (g_Y d sc mm))) ((g_Y d sc mm) / (g_G (g_U d nu mm j) (g_Y d sc mm))) st fr sr nu) := va_D_addr hD rfl
              exact W.vret hx hb hr (fun t ht _ => ⟨⟨(), rfl, trivial, wpost ht hP⟩, hS.F ht⟩) hS.2.2 dX3_findPart_118
            · skip
              have hz2 := nI_nlt_go (k := iq) (n := d) (by omega) (by omega) c_41
              refine lv_iload hx hb dX3_findPart_44 (lv_at hl 5 rfl) ?_
              refine lv_iload_n hx hb dX3_findPart_46 rfl (lv_at hl 2 rfl) ?_
              refine lv_icmp_gt (tgt := 85) hx hb dX3_findPart_47 (by decide) (fun c_47 => ?_) (fun c_47 => ?_)
              · skip
                have hz : iq = min d j + 1 := by have := nI_nlt_end (k := iq) (n := j) (by omega) (by omega) c_47; omega
                refine lv_lload_n hx hb dX3_findPart_85 rfl (lv_at hl 3 rfl) ?_
                refine lv_aload_n hx hb dX3_findPart_86 rfl (lv_at hl 0 rfl) ?_
                refine va_get (D := (dC, dI)) (ci := 3) (C := RX3) (T := TX3) (N := 13) hx hb hts inX3 hown hK hP 0 rfl rfl 9 (by decide) hw1 (fun _ h9 => h9) rfl dX3_findPart_87 ?_
                refine lv_i2l hx hb dX3_findPart_90 rfl ?_
                refine lv_lmul hx hb dX3_findPart_91 ?_
                refine st_l (v := g_Y d sc mm) rfl ?_
                refine lv_lstore_n (lv' := [(3, .long _), (0, .ref _), (1, .int _), (2, .int _), (5, .long _), (7, .int _)]) hx hb dX3_findPart_92 rfl hl (by decide) rfl (fun ls hl => ?_)
                rw [hz] at hl
                refine lv_lload hx hb dX3_findPart_93 (lv_at hl 4 rfl) ?_
                refine lv_lload_n hx hb dX3_findPart_95 rfl (lv_at hl 0 rfl) ?_
                refine st_l (v := lN (g_Y d sc mm).toInt.natAbs) hcm.2.2.1 ?_
                refine ro_l (va_runS ⟨hx, hb, hml, hown, hts⟩ (c_X3_common l (a0 := g_U d nu mm j) (X := (g_U d nu mm j).toInt.natAbs) (Y := (g_Y d sc mm).toInt.natAbs) hcm.1 hcm.2.1 hcm.2.2.2.1) (va_cwS 2 hts gX3_findPart_X3_common rfl rfl rfl kd_X3_common ⟨Nat.le_of_ble_eq_true rfl, Nat.le_of_ble_eq_true rfl⟩) preS0 rfl rfl hl.1 rfl (lv_room (Nat.le_of_ble_eq_true rfl)) dX3_findPart_96 ⟨Nat.zero_le _, Nat.zero_le _⟩) ?_
                refine st_l (v := g_G (g_U d nu mm j) (g_Y d sc mm)) rfl ?_
                refine lv_lstore (lv' := [(7, .long _), (3, .long _), (0, .ref _), (1, .int _), (2, .int _), (5, .long _)]) hx hb dX3_findPart_99 hl (by decide) rfl (fun ls hl => ?_)
                refine lv_aload_n hx hb dX3_findPart_101 rfl (lv_at hl 2 rfl) ?_
                refine lv_lload hx hb dX3_findPart_102 (lv_at hl 5 rfl) ?_
                refine lv_lload hx hb dX3_findPart_104 (lv_at hl 0 rfl) ?_
                refine lv_ldiv hx hb dX3_findPart_106 (hcm.2.2.2.2) ?_
                refine va_put (D := (dC, dI)) (ci := 3) (ty := .long) (C := RX3) (T := TX3) (N := 13) hx hb hts inX3 tyX3 tyX3_ok nmX3 hown hK hP hD hS 0 rfl rfl 11 (by decide) hw2 (fun _ h9 => h9) rfl (by decide +kernel) rfl rfl (Nat.le_of_ble_eq_true rfl) dX3_findPart_107 (fun H locs hP hD hS => ?_)
                have hP : va_P (dC, dI) vwCl (yw ad cI cJ ln (nI d) sc ms mi mv mw ((g_U d nu mm j) / (g_G (g_U d nu mm j) (g_Y d sc mm))) pl st fr sr nu) H := hP
                have hD : va_D A (yw ad cI cJ ln (nI d) sc ms mi mv mw ((g_U d nu mm j) / (g_G (g_U d nu mm j) (g_Y d sc mm))) pl st fr sr nu) := va_D_addr hD rfl
                refine lv_aload_n hx hb dX3_findPart_110 rfl (lv_at hl 2 rfl) ?_
                refine lv_lload_n hx hb dX3_findPart_111 rfl (lv_at hl 1 rfl) ?_
                refine lv_lload hx hb dX3_findPart_112 (lv_at hl 0 rfl) ?_
                refine lv_ldiv hx hb dX3_findPart_114 (hcm.2.2.2.2) ?_
                refine va_put (D := (dC, dI)) (ci := 3) (ty := .long) (C := RX3) (T := TX3) (N := 13) hx hb hts inX3 tyX3 tyX3_ok nmX3 hown hK hP hD hS 0 rfl rfl 12 (by decide) hw3 (fun _ h9 => h9) rfl (by decide +kernel) rfl rfl (Nat.le_of_ble_eq_true rfl) dX3_findPart_115 (fun H locs hP hD hS => ?_)
                have hP : va_P (dC, dI) vwCl (yw ad cI cJ ln (nI d) sc ms mi mv mw ((g_U d nu mm j) / (g_G (g_U d nu mm j) (g_Y d sc mm))) ((g_Y d sc mm) / (g_G (g_U d nu mm j) (g_Y d sc mm))) st fr sr nu) H := hP
                have hD : va_D A (yw ad cI cJ ln (nI d) sc ms mi mv mw ((g_U d nu mm j) / (g_G (g_U d nu mm j) (g_Y d sc mm))) ((g_Y d sc mm) / (g_G (g_U d nu mm j) (g_Y d sc mm))) st fr sr nu) := va_D_addr hD rfl
                exact W.vret hx hb hr (fun t ht _ => ⟨⟨(), rfl, trivial, wpost ht hP⟩, hS.F ht⟩) hS.2.2 dX3_findPart_118
              · skip
                have hz3 := nI_nlt_go (k := iq) (n := j) (by omega) (by omega) c_47
                refine lv_lload hx hb dX3_findPart_50 (lv_at hl 4 rfl) ?_
                refine lv_iload_n hx hb dX3_findPart_52 rfl (lv_at hl 2 rfl) ?_
                refine lv_iload hx hb dX3_findPart_53 (lv_at hl 5 rfl) ?_
                refine ro_l (va_runS ⟨hx, hb, hml, hown, hts⟩ (c_X3_chosen l ) (va_cwS 2 hts gX3_findPart_X3_chosen rfl rfl rfl kd_X3_chosen ⟨Nat.le_of_ble_eq_true rfl, Nat.le_of_ble_eq_true rfl⟩) preS0 rfl rfl hl.1 rfl (lv_room (Nat.le_of_ble_eq_true rfl)) dX3_findPart_55 ⟨Nat.zero_le _, Nat.zero_le _⟩) ?_
                refine st_l (v := g_chosen (nI j) iq) (by rw [nI_cl (by omega)]) ?_
                refine lv_aload_n hx hb dX3_findPart_58 rfl (lv_at hl 0 rfl) ?_
                refine va_get (D := (dC, dI)) (ci := 3) (C := RX3) (T := TX3) (N := 13) hx hb hts inX3 hown hK hP 0 rfl rfl 10 (by decide) hw4 (fun _ h9 => h9) rfl dX3_findPart_59 ?_
                refine lv_iload hx hb dX3_findPart_62 (lv_at hl 5 rfl) ?_
                refine va_iald hx hb hK hP 4 0 rfl rfl (vp_in_nI (by omega) (by omega)) dX3_findPart_64 ?_
                refine st_i (v := nu iq) (by rw [nI_cl (by omega)]) ?_
                refine lv_i2l hx hb dX3_findPart_65 rfl ?_
                refine lv_lmul hx hb dX3_findPart_66 ?_
                refine lv_lload_n hx hb dX3_findPart_67 rfl (lv_at hl 3 rfl) ?_
                refine lv_iload_n hx hb dX3_findPart_68 rfl (lv_at hl 1 rfl) ?_
                refine lv_iload hx hb dX3_findPart_69 (lv_at hl 5 rfl) ?_
                refine ro_l (va_runS ⟨hx, hb, hml, hown, hts⟩ (c_X3_chosen l ) (va_cwS 2 hts gX3_findPart_X3_chosen rfl rfl rfl kd_X3_chosen ⟨Nat.le_of_ble_eq_true rfl, Nat.le_of_ble_eq_true rfl⟩) preS0 rfl rfl hl.1 rfl (lv_room (Nat.le_of_ble_eq_true rfl)) dX3_findPart_71 ⟨Nat.zero_le _, Nat.zero_le _⟩) ?_
                refine st_l (v := g_chosen (nI mm) iq) (by rw [nI_cl (by omega)]) ?_
                refine lv_ldiv hx hb dX3_findPart_74 (ch_ne mm (by omega) iq (by omega) (by omega)) ?_
                refine lv_lmul hx hb dX3_findPart_75 ?_
                refine lv_ladd hx hb dX3_findPart_76 ?_
                refine lv_lstore (lv' := [(5, .long _), (0, .ref _), (1, .int _), (2, .int _), (3, .long _), (7, .int _)]) hx hb dX3_findPart_77 hl (by decide) rfl (fun ls hl => ?_)
                refine lv_iinc (lv' := [(7, .int (nI (iq + 1))), (5, .long _), (0, .ref _), (1, .int _), (2, .int _), (3, .long _)]) hx hb dX3_findPart_79 hl (k := 5) rfl (nI_1 _) (by decide) rfl (fun ls hl => ?_)
                refine lv_goto (tgt := 35) hx hb dX3_findPart_82 (by decide) ?_
                exact ih35 (iq + 1) (by omega) (by omega) _ _ hP hS ls (lv_sub hl [2, 3, 4, 5, 1, 0] rfl)
        rw [hz1] at hl
        exact L35 (min d j + 2) 0 (by omega) (Nat.zero_le _) _ _ hP hS ls (lv_sub hl [2, 3, 4, 5, 1, 0] rfl)
      · skip
        have hz1 := nI_nlt_go hk (by omega) c_11
        refine lv_lload_n hx hb dX3_findPart_14 rfl (lv_at hl 3 rfl) ?_
        refine lv_iload_n hx hb dX3_findPart_15 rfl (lv_at hl 1 rfl) ?_
        refine lv_iload hx hb dX3_findPart_16 (lv_at hl 4 rfl) ?_
        refine ro_l (va_runS ⟨hx, hb, hml, hown, hts⟩ (c_X3_chosen l ) (va_cwS 2 hts gX3_findPart_X3_chosen rfl rfl rfl kd_X3_chosen ⟨Nat.le_of_ble_eq_true rfl, Nat.le_of_ble_eq_true rfl⟩) preS0 rfl rfl hl.1 rfl (lv_room (Nat.le_of_ble_eq_true rfl)) dX3_findPart_18 ⟨Nat.zero_le _, Nat.zero_le _⟩) ?_
        refine st_l (v := g_chosen (nI mm) kq) (by rw [nI_cl (by omega)]) ?_
        refine lv_lmul hx hb dX3_findPart_21 ?_
        refine lv_lstore_n (lv' := [(3, .long _), (0, .ref _), (1, .int _), (2, .int _), (5, .int _)]) hx hb dX3_findPart_22 rfl hl (by decide) rfl (fun ls hl => ?_)
        refine lv_iinc (lv' := [(5, .int (nI (kq + 1))), (3, .long _), (0, .ref _), (1, .int _), (2, .int _)]) hx hb dX3_findPart_23 hl (k := 4) rfl (nI_1 _) (by decide) rfl (fun ls hl => ?_)
        refine lv_goto (tgt := 5) hx hb dX3_findPart_26 (by decide) ?_
        exact ih5 (kq + 1) (by omega) (by omega) _ _ hP hS ls (lv_sub hl [2, 3, 4, 1, 0] rfl)
  exact L5 (d + 2) 0 (by omega) (Nat.zero_le _) _ _ hP hS ls (lv_sub hl [2, 3, 4, 1, 0] rfl)
theorem kd_X3_mayBeMade : yX3_mayBeMade.cls ≠ "java/lang/invoke/MethodHandle" ∧ yX3_mayBeMade.cls ≠ "java/lang/invoke/VarHandle" ∧ (parseMethodDescriptor yX3_mayBeMade.desc).map (fun d => d.parameters.length) = some 1 := by decide +kernel
set_option maxHeartbeats 4000000 in
set_option maxRecDepth 100000 in
theorem c_X3_mayBeMade (l : Launch) {dC : Nat → ClassId} {dI : Nat → Nat → Nat} {ad : Nat → Nat} {cI cJ : ClassId} {ln : Int32} {sc : Int32} {ms : Int32} {mi : Int32} {mv : Int32} {mw : Int32} {pu : Int64} {pl : Int64} {st : (Nat → Int64)} {fr : (Nat → Int64)} {sr : (Nat → Int64)} {nu : (Nat → Int32)} {sz : Nat} {d mm : Nat} (hd : d ≤ 4) (hdm : d ≤ mm) (hm : mm ≤ 10) (hcm : ∀ j, j ≤ mm → cmOK (g_U d nu mm j) (g_Y d sc mm)) : Met l yX3_mayBeMade wsX3_mayBeMade ({ frames := 2, cells := 0, slots := 0, locals := 57 }) (va_Pc ([.ref (ad 0), .int (nI mm)] : List Value) (gW sz (dC, dI) (tyw cI cJ) (yw ad cI cJ ln (nI d) sc ms mi mv mw pu pl st fr sr nu))) (va_Qi (fun r (u : (Int64 × Int64)) => r = g_mv d nu sc mm (mm + 1)) (fun u t => va_P (dC, dI) vwCl (yw ad cI cJ ln (nI d) sc ms mi mv mw u.1 u.2 st fr sr nu) t.heap) (va_A (yw ad cI cJ ln (nI d) sc ms mi mv mw pu pl st fr sr nu) sz)) 0 0 (va_A (yw ad cI cJ ln (nI d) sc ms mi mv mw pu pl st fr sr nu) sz) := by
  refine Met.ofW (cc := cX3_mayBeMade) (maxL := 4) (ret := (some .boolean)) (by decide) rfl ?_
  intro p e s m args below meth c s₁ B hml hv
  obtain ⟨rfl, hsz, ⟨hnw, hK, hP⟩, hD0⟩ := hv
  have hx := B.exec
  have hb := B.bytes
  have hr := B.returns
  have hts := atoms_spec (ws := wsX3_mayBeMade) B.pre
  have hown : s.vm.findClass RX3 = some m.cls := findClass_of_methodNamed B.named
  have hlocks := B.notSynchronized
  subst hsz
  have hD := hD0.self (sz := s.heap.size)
  generalize hAe : va_A (yw ad cI cJ ln (nI d) sc ms mi mv mw pu pl st fr sr nu) s.heap.size = A at hD ⊢
  have hA : ∀ q : Nat, s.heap.size ≤ q → A q := fun q h => by rw [← hAe]; exact Or.inr h
  have hS : va_S A s.heap s.heap [] := va_S.rf
  have hw0 := hts (.fieldLink RX3 132 "BitStreamsModel" "partUp" "J") (by decide +kernel)
  have hw1 := hts (.fieldLink RX3 136 "BitStreamsModel" "partLow" "J") (by decide +kernel)
  have inX3 : ∀ w ∈ wsX30, w ∈ wsX3_mayBeMade := by decide +kernel
  have hl := lv_entry ([.ref (ad 0), .int (nI mm)] : List Value) (n := 4) (Nat.le_of_ble_eq_true rfl)
  rw [lg_entry_eq]
  generalize (lg_sl ([.ref (ad 0), .int (nI mm)] : List Value) ++ List.replicate (4 - (lg_sl ([.ref (ad 0), .int (nI mm)] : List Value)).length) Slot.unset).toArray = ls at hl ⊢
  have hl : lv_has ls 4 [(0, .ref (ad 0)), (1, .int (nI mm))] := hl
  refine lv_iconst (v := 1) hx hb dX3_mayBeMade_0 (by decide) ?_
  refine st_i (v := g_mv d nu sc mm 0) (bI_t (fun i h => absurd h (Nat.not_lt_zero i))).symm ?_
  refine lv_istore_n (lv' := [(2, .int _), (0, .ref _), (1, .int _)]) hx hb dX3_mayBeMade_1 rfl hl (by decide) rfl (fun ls hl => ?_)
  refine lv_iconst (v := 0) hx hb dX3_mayBeMade_2 (by decide) ?_
  refine lv_istore_n (lv' := [(3, .int _), (2, .int _), (0, .ref _), (1, .int _)]) hx hb dX3_mayBeMade_3 rfl hl (by decide) rfl (fun ls hl => ?_)
  have L4 : ∀ (n4 : Nat) (kq : Nat) (x y : Int64), mm + 2 ≤ kq + n4 → (kq ≤ mm + 1) → ∀ (H : Heap) (locs : List Loc), va_P (dC, dI) vwCl (yw ad cI cJ ln (nI d) sc ms mi mv mw x y st fr sr nu) H → va_S A s.heap H locs → ∀ (ls : Array Slot), lv_has ls 4 [(0, .ref (ad 0)), (1, .int (nI mm)), (2, .int (g_mv d nu sc mm kq)), (3, .int (nI kq))] → W p l e { frames := 2, cells := 0, slots := 0, locals := 57 } s m ([.ref (ad 0), .int (nI mm)] : List Value).toArray below meth c H locs 0 0 (MQ below (va_Qi (fun r (u : (Int64 × Int64)) => r = g_mv d nu sc mm (mm + 1)) (fun u t => va_P (dC, dI) vwCl (yw ad cI cJ ln (nI d) sc ms mi mv mw u.1 u.2 st fr sr nu) t.heap) A) ([.ref (ad 0), .int (nI mm)] : List Value).toArray s 0 0 (A)) (F0 m 4 ls []) := by
    intro n4
    induction n4 with
    | zero =>
      intro kq x y hf4 hk
      exact absurd hf4 (by omega)
    | succ n4 ih4 =>
      intro kq x y hf4 hk H locs hP hS ls hl
      have hD : va_D A (yw ad cI cJ ln (nI d) sc ms mi mv mw x y st fr sr nu) := va_D_addr hD rfl
      refine lv_iload_n hx hb dX3_mayBeMade_4 rfl (lv_at hl 3 rfl) ?_
      refine lv_iload_n hx hb dX3_mayBeMade_5 rfl (lv_at hl 1 rfl) ?_
      refine lv_icmp_gt (tgt := 52) hx hb dX3_mayBeMade_6 (by decide) (fun c_6 => ?_) (fun c_6 => ?_)
      · skip
        have hz := nI_nlt_end hk (by omega) c_6
        rw [hz] at hl
        refine lv_iload_n hx hb dX3_mayBeMade_52 rfl (lv_at hl 2 rfl) ?_
        exact W.zret hx hb hr (by first | rfl | exact bI_nar) (fun t ht _ => ⟨⟨_, (x, y), rfl, rfl, wpost ht hP⟩, hS.F ht⟩) hS.2.2 dX3_mayBeMade_53
      · skip
        have hz := nI_nlt_go hk (by omega) c_6
        refine lv_aload_n hx hb dX3_mayBeMade_9 rfl (lv_at hl 0 rfl) ?_
        refine lv_iload_n hx hb dX3_mayBeMade_10 rfl (lv_at hl 1 rfl) ?_
        refine lv_iload_n hx hb dX3_mayBeMade_11 rfl (lv_at hl 3 rfl) ?_
        refine wr_v (va_runV ⟨hx, hb, hml, hown, hts⟩ (c_X3_findPart l hd hdm hm hz (hcm kq hz)) (cwV 2 hts gX3_mayBeMade_X3_findPart rfl rfl rfl ⟨rfl, kd_X3_findPart⟩ ⟨Nat.le_of_ble_eq_true rfl, Nat.le_of_ble_eq_true rfl⟩) (preV2 hnw hK hP hD 0 3 rfl rfl) rfl rfl hl.1 rfl (lv_room (Nat.le_of_ble_eq_true rfl)) dX3_mayBeMade_12 ⟨Nat.zero_le _, Nat.zero_le _⟩) hD hS hA (fun _ => rfl) (fun u_12 H locs h_12 hP hD hS => ?_)
        have hP : va_P (dC, dI) vwCl (yw ad cI cJ ln (nI d) sc ms mi mv mw (g_U d nu mm kq / g_G (g_U d nu mm kq) (g_Y d sc mm)) ((g_Y d sc mm) / g_G (g_U d nu mm kq) (g_Y d sc mm)) st fr sr nu) H := hP
        have hD : va_D A (yw ad cI cJ ln (nI d) sc ms mi mv mw (g_U d nu mm kq / g_G (g_U d nu mm kq) (g_Y d sc mm)) ((g_Y d sc mm) / g_G (g_U d nu mm kq) (g_Y d sc mm)) st fr sr nu) := va_D_addr hD rfl
        refine lv_iload_n hx hb dX3_mayBeMade_15 rfl (lv_at hl 2 rfl) ?_
        refine lv_if_eq (tgt := 44) hx hb dX3_mayBeMade_16 (by decide) (fun c_16 => ?_) (fun c_16 => ?_)
        · skip
          have c_16 := bI_eq.mp c_16
          have hv : g_mv d nu sc mm (kq + 1) = 0 := bI_f (fun h => c_16 (fun i hi => h i (by omega)))
          refine lv_iconst (v := 0) hx hb dX3_mayBeMade_44 (by decide) ?_
          refine st_i (v := g_mv d nu sc mm (kq + 1)) hv.symm ?_
          refine lv_istore_n (lv' := [(2, .int _), (0, .ref _), (1, .int _), (3, .int _)]) hx hb dX3_mayBeMade_45 rfl hl (by decide) rfl (fun ls hl => ?_)
          refine lv_iinc (lv' := [(3, .int (nI (kq + 1))), (2, .int _), (0, .ref _), (1, .int _)]) hx hb dX3_mayBeMade_46 hl (k := 3) rfl (nI_1 _) (by decide) rfl (fun ls hl => ?_)
          refine lv_goto (tgt := 4) hx hb dX3_mayBeMade_49 (by decide) ?_
          exact ih4 (kq + 1) _ _ (by omega) (by omega) _ _ hP hS ls (lv_sub hl [2, 3, 1, 0] rfl)
        · skip
          have c_16 := bI_ne.mp c_16
          refine lv_aload_n hx hb dX3_mayBeMade_19 rfl (lv_at hl 0 rfl) ?_
          refine va_get (D := (dC, dI)) (ci := 3) (C := RX3) (T := TX3) (N := 13) hx hb hts inX3 hown hK hP 0 rfl rfl 11 (by decide) hw0 (fun _ h9 => h9) rfl dX3_mayBeMade_20 ?_
          refine lv_lconst (v := 0) hx hb dX3_mayBeMade_23 (by decide) ?_
          refine W.lcmp hx hb dX3_mayBeMade_24 ?_
          refine lv_if_lt (tgt := 44) hx hb dX3_mayBeMade_25 (by decide) (fun c_25 => ?_) (fun c_25 => ?_)
          · skip
            have c_25 := (lg_cmp_lt _ _).mp c_25
            have hv : g_mv d nu sc mm (kq + 1) = 0 := bI_f (fun h => (h kq (by omega)).1 c_25)
            refine lv_iconst (v := 0) hx hb dX3_mayBeMade_44 (by decide) ?_
            refine st_i (v := g_mv d nu sc mm (kq + 1)) hv.symm ?_
            refine lv_istore_n (lv' := [(2, .int _), (0, .ref _), (1, .int _), (3, .int _)]) hx hb dX3_mayBeMade_45 rfl hl (by decide) rfl (fun ls hl => ?_)
            refine lv_iinc (lv' := [(3, .int (nI (kq + 1))), (2, .int _), (0, .ref _), (1, .int _)]) hx hb dX3_mayBeMade_46 hl (k := 3) rfl (nI_1 _) (by decide) rfl (fun ls hl => ?_)
            refine lv_goto (tgt := 4) hx hb dX3_mayBeMade_49 (by decide) ?_
            exact ih4 (kq + 1) _ _ (by omega) (by omega) _ _ hP hS ls (lv_sub hl [2, 3, 1, 0] rfl)
          · skip
            have c_25 := fun h => c_25 ((lg_cmp_lt _ _).mpr h)
            refine lv_aload_n hx hb dX3_mayBeMade_28 rfl (lv_at hl 0 rfl) ?_
            refine va_get (D := (dC, dI)) (ci := 3) (C := RX3) (T := TX3) (N := 13) hx hb hts inX3 hown hK hP 0 rfl rfl 11 (by decide) hw0 (fun _ h9 => h9) rfl dX3_mayBeMade_29 ?_
            refine lv_aload_n hx hb dX3_mayBeMade_32 rfl (lv_at hl 0 rfl) ?_
            refine va_get (D := (dC, dI)) (ci := 3) (C := RX3) (T := TX3) (N := 13) hx hb hts inX3 hown hK hP 0 rfl rfl 12 (by decide) hw1 (fun _ h9 => h9) rfl dX3_mayBeMade_33 ?_
            refine W.lcmp hx hb dX3_mayBeMade_36 ?_
            refine lv_if_gt (tgt := 44) hx hb dX3_mayBeMade_37 (by decide) (fun c_37 => ?_) (fun c_37 => ?_)
            · skip
              have c_37 := (lg_cmp_gt _ _).mp c_37
              have hv : g_mv d nu sc mm (kq + 1) = 0 := bI_f (fun h => (h kq (by omega)).2 c_37)
              refine lv_iconst (v := 0) hx hb dX3_mayBeMade_44 (by decide) ?_
              refine st_i (v := g_mv d nu sc mm (kq + 1)) hv.symm ?_
              refine lv_istore_n (lv' := [(2, .int _), (0, .ref _), (1, .int _), (3, .int _)]) hx hb dX3_mayBeMade_45 rfl hl (by decide) rfl (fun ls hl => ?_)
              refine lv_iinc (lv' := [(3, .int (nI (kq + 1))), (2, .int _), (0, .ref _), (1, .int _)]) hx hb dX3_mayBeMade_46 hl (k := 3) rfl (nI_1 _) (by decide) rfl (fun ls hl => ?_)
              refine lv_goto (tgt := 4) hx hb dX3_mayBeMade_49 (by decide) ?_
              exact ih4 (kq + 1) _ _ (by omega) (by omega) _ _ hP hS ls (lv_sub hl [2, 3, 1, 0] rfl)
            · skip
              have c_37 := fun h => c_37 ((lg_cmp_gt _ _).mpr h)
              have hv : g_mv d nu sc mm (kq + 1) = 1 := bI_t (fun i hi => by rcases Nat.lt_or_ge i kq with z | z; exact c_16 i z; rw [show i = kq by omega]; exact ⟨c_25, c_37⟩)
              refine lv_iconst (v := 1) hx hb dX3_mayBeMade_40 (by decide) ?_
              refine lv_goto (tgt := 45) hx hb dX3_mayBeMade_41 (by decide) ?_
              refine st_i (v := g_mv d nu sc mm (kq + 1)) hv.symm ?_
              refine lv_istore_n (lv' := [(2, .int _), (0, .ref _), (1, .int _), (3, .int _)]) hx hb dX3_mayBeMade_45 rfl hl (by decide) rfl (fun ls hl => ?_)
              refine lv_iinc (lv' := [(3, .int (nI (kq + 1))), (2, .int _), (0, .ref _), (1, .int _)]) hx hb dX3_mayBeMade_46 hl (k := 3) rfl (nI_1 _) (by decide) rfl (fun ls hl => ?_)
              refine lv_goto (tgt := 4) hx hb dX3_mayBeMade_49 (by decide) ?_
              exact ih4 (kq + 1) _ _ (by omega) (by omega) _ _ hP hS ls (lv_sub hl [2, 3, 1, 0] rfl)
  skip
  exact L4 (mm + 2) 0 pu pl (by omega) (Nat.zero_le _) _ _ hP hS ls (lv_sub hl [2, 3, 1, 0] rfl)
