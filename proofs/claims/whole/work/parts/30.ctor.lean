/-! the constructors -/
theorem kd_X1_init : yX1_init.cls ≠ "java/lang/invoke/MethodHandle" ∧ yX1_init.cls ≠ "java/lang/invoke/VarHandle" ∧ (parseMethodDescriptor yX1_init.desc).map (fun d => d.parameters.length) = some 0 := by decide +kernel
theorem kd_X0_init : yX0_init.cls ≠ "java/lang/invoke/MethodHandle" ∧ yX0_init.cls ≠ "java/lang/invoke/VarHandle" ∧ (parseMethodDescriptor yX0_init.desc).map (fun d => d.parameters.length) = some 0 := by decide +kernel
theorem kd_X2_init : yX2_init.cls ≠ "java/lang/invoke/MethodHandle" ∧ yX2_init.cls ≠ "java/lang/invoke/VarHandle" ∧ (parseMethodDescriptor yX2_init.desc).map (fun d => d.parameters.length) = some 0 := by decide +kernel
theorem kd_X3_init : yX3_init.cls ≠ "java/lang/invoke/MethodHandle" ∧ yX3_init.cls ≠ "java/lang/invoke/VarHandle" ∧ (parseMethodDescriptor yX3_init.desc).map (fun d => d.parameters.length) = some 0 := by decide +kernel
set_option maxHeartbeats 4000000 in
set_option maxRecDepth 100000 in
theorem c_X1_init (l : Launch) {dC : Nat → ClassId} {dI : Nat → Nat → Nat} {h0 sz : Nat} : Met l yX1_init wsX1_init ({ frames := 1, cells := 0, slots := 0, locals := 20 }) (va_Pc ([.ref h0] : List Value) (gW sz (dC, dI) [] ([(h0, .inr (1, [.int 0, .int 0]))]))) (va_Qv (fun _u : Unit => True) (fun _u t => va_P (dC, dI) vwCl [(h0, .inr (1, [.int (nI 8), .int (nI 3)]))] t.heap) (va_A ([(h0, .inr (1, [.int 0, .int 0]))]) sz)) 0 0 (va_A ([(h0, .inr (1, [.int 0, .int 0]))]) sz) := by
  refine Met.ofW (cc := cX1_init) (maxL := 1) (ret := none) (by decide) rfl ?_
  intro p e s m args below meth c s₁ B hml hv
  obtain ⟨rfl, hsz, ⟨hnw, hK, hP⟩, hD0⟩ := hv
  have hx := B.exec
  have hb := B.bytes
  have hr := B.returns
  have hts := atoms_spec (ws := wsX1_init) B.pre
  have hown : s.vm.findClass RX1 = some m.cls := findClass_of_methodNamed B.named
  have hlocks := B.notSynchronized
  have hin : meth.name = "<init>" := (name_of_methodNamed B.named B.method).1
  subst hsz
  have hD := hD0.self (sz := s.heap.size)
  generalize hAe : va_A ([(h0, .inr (1, [.int 0, .int 0]))]) s.heap.size = A at hD ⊢
  have hA : ∀ q : Nat, s.heap.size ≤ q → A q := fun q h => by rw [← hAe]; exact Or.inr h
  have hS : va_S A s.heap s.heap [] := va_S.rf
  have hl := lv_entry ([.ref h0] : List Value) (n := 1) (Nat.le_of_ble_eq_true rfl)
  rw [lg_entry_eq]
  generalize (lg_sl ([.ref h0] : List Value) ++ List.replicate (1 - (lg_sl ([.ref h0] : List Value)).length) Slot.unset).toArray = ls at hl ⊢
  have hl : lv_has ls 1 [(0, .ref h0)] := hl
  refine lv_aload_n hx hb dX1_init_0 rfl (lv_at hl 0 rfl) ?_
  refine W.objInit hx hb hown (hts (.methodLink RX1 3 objectInit) (by decide +kernel)) (hts (.instanceMethod objectInit) (by decide +kernel)) (hts (.code objectInit ⟨#[0xb1]⟩ 1 none) (by decide +kernel)) rfl (by rw [hml]; exact hl.1) rfl dX1_init_1 (Nat.le_of_ble_eq_true rfl) (Nat.le_of_ble_eq_true rfl) ?_
  refine W.eq (g2 := F0 m 4 ls []) rfl ?_
  refine lv_aload_n hx hb dX1_init_4 rfl (lv_at hl 0 rfl) ?_
  refine lv_bipush (v := 8) hx hb dX1_init_5 (by decide) ?_
  refine st_i (v := nI 8) rfl ?_
  refine va_put (D := (dC, dI)) (ci := 1) (v := .int (nI 8)) (ty := .int) (C := RX1) (T := TX1) (N := 2) hx hb hts (by decide +kernel) tyX1 tyX1_ok nmX1 hown hK hP hD hS 0 rfl rfl 0 (by decide) (hts (.fieldLink RX1 9 "BitStreams$Rows" "length" "I") (by decide +kernel)) (fun _ h9 => h9) rfl (by decide +kernel) rfl rfl (Nat.le_of_ble_eq_true rfl) dX1_init_7 (fun H locs hP hD hS => ?_)
  have hP : va_P (dC, dI) vwCl ([(h0, .inr (1, [.int (nI 8), .int 0]))]) H := hP
  have hD : va_D A ([(h0, .inr (1, [.int (nI 8), .int 0]))]) := hD
  refine lv_aload_n hx hb dX1_init_10 rfl (lv_at hl 0 rfl) ?_
  refine lv_bipush (v := 7) hx hb dX1_init_11 (by decide) ?_
  refine ro_i (va_runS ⟨hx, hb, hml, hown, hts⟩ (c_J6_bitCount_0f7a4 l) (va_cwS 1 hts gX1_init_J6_bitCount_0f7a4 rfl rfl rfl kd_J6_bitCount_0f7a4 ⟨Nat.le_of_ble_eq_true rfl, Nat.le_of_ble_eq_true rfl⟩) preS0 rfl rfl hl.1 rfl (lv_room (Nat.le_of_ble_eq_true rfl)) dX1_init_13 ⟨Nat.zero_le _, Nat.zero_le _⟩) ?_
  refine st_i (v := nI 3) (by decide) ?_
  refine va_put (D := (dC, dI)) (ci := 1) (v := .int (nI 3)) (ty := .int) (C := RX1) (T := TX1) (N := 2) hx hb hts (by decide +kernel) tyX1 tyX1_ok nmX1 hown hK hP hD hS 0 rfl rfl 1 (by decide) (hts (.fieldLink RX1 21 "BitStreams$Rows" "figures" "I") (by decide +kernel)) (fun _ h9 => h9) rfl (by decide +kernel) rfl rfl (Nat.le_of_ble_eq_true rfl) dX1_init_16 (fun H locs hP hD hS => ?_)
  have hP : va_P (dC, dI) vwCl ([(h0, .inr (1, [.int (nI 8), .int (nI 3)]))]) H := hP
  have hD : va_D A ([(h0, .inr (1, [.int (nI 8), .int (nI 3)]))]) := hD
  exact W.vret hx hb hr (fun t ht _ => ⟨⟨(), rfl, trivial, wpost ht hP⟩, hS.F ht⟩) hS.2.2 dX1_init_19
set_option maxHeartbeats 4000000 in
set_option maxRecDepth 100000 in
theorem c_X0_init (l : Launch) {dC : Nat → ClassId} {dI : Nat → Nat → Nat} {h0 sz : Nat} : Met l yX0_init wsX0_init ({ frames := 1, cells := 1, slots := 5, locals := 20 }) (va_Pc ([.ref h0] : List Value) (gW sz (dC, dI) [] ([(h0, .inr (0, [.null, .int 0, .int 0]))]))) (va_Qv (fun _u : Nat × ClassId => True) (fun u t => va_P (dC, dI) vwCl [(h0, .inr (0, [.ref u.1, .int (nI 0), .int (nI 1)])), (u.1, .inl (u.2, 5, .inl (fun _ => 0)))] t.heap ∧ va_K (dC, dI) vwCl [(u.2, .int)] t ∧ va_D (va_A ([(h0, .inr (0, [.null, .int 0, .int 0]))]) sz) [(h0, .inr (0, [.ref u.1, .int (nI 0), .int (nI 1)])), (u.1, .inl (u.2, 5, .inl (fun _ => 0)))]) (va_A ([(h0, .inr (0, [.null, .int 0, .int 0]))]) sz)) 1 5 (va_A ([(h0, .inr (0, [.null, .int 0, .int 0]))]) sz) := by
  refine Met.ofW (cc := cX0_init) (maxL := 1) (ret := none) (by decide) rfl ?_
  intro p e s m args below meth c s₁ B hml hv
  obtain ⟨rfl, hsz, ⟨hnw, hK, hP⟩, hD0⟩ := hv
  have hx := B.exec
  have hb := B.bytes
  have hr := B.returns
  have hts := atoms_spec (ws := wsX0_init) B.pre
  have hown : s.vm.findClass RX0 = some m.cls := findClass_of_methodNamed B.named
  have hlocks := B.notSynchronized
  have hin : meth.name = "<init>" := (name_of_methodNamed B.named B.method).1
  subst hsz
  have hD := hD0.self (sz := s.heap.size)
  generalize hAe : va_A ([(h0, .inr (0, [.null, .int 0, .int 0]))]) s.heap.size = A at hD ⊢
  have hA : ∀ q : Nat, s.heap.size ≤ q → A q := fun q h => by rw [← hAe]; exact Or.inr h
  have hS : va_S A s.heap s.heap [] := va_S.rf
  have hl := lv_entry ([.ref h0] : List Value) (n := 1) (Nat.le_of_ble_eq_true rfl)
  rw [lg_entry_eq]
  generalize (lg_sl ([.ref h0] : List Value) ++ List.replicate (1 - (lg_sl ([.ref h0] : List Value)).length) Slot.unset).toArray = ls at hl ⊢
  have hl : lv_has ls 1 [(0, .ref h0)] := hl
  refine lv_aload_n hx hb dX0_init_0 rfl (lv_at hl 0 rfl) ?_
  refine W.objInit hx hb hown (hts (.methodLink RX0 3 objectInit) (by decide +kernel)) (hts (.instanceMethod objectInit) (by decide +kernel)) (hts (.code objectInit ⟨#[0xb1]⟩ 1 none) (by decide +kernel)) rfl (by rw [hml]; exact hl.1) rfl dX0_init_1 (Nat.le_of_ble_eq_true rfl) (Nat.le_of_ble_eq_true rfl) ?_
  refine W.eq (g2 := F0 m 4 ls []) rfl ?_
  refine lv_aload_n hx hb dX0_init_4 rfl (lv_at hl 0 rfl) ?_
  refine lv_iconst (v := 5) hx hb dX0_init_5 (by decide) ?_
  refine va_newa (atype := .int) (ty := .int) (a0 := (5, .inl (fun _ => 0))) (N' := 5) hx hb (hts (.arrayClass .int) (by decide +kernel)) rfl hK hP hD hS hA (fun cA => rfl) (by decide) (by decide) (by decide) (Nat.le_of_ble_eq_true rfl) (Nat.le_of_ble_eq_true rfl) dX0_init_6 (fun q1 cI H hK hP hD hS => ?_)
  have hP : va_P (dC, dI) vwCl ([(h0, .inr (0, [.null, .int 0, .int 0])), (q1, .inl (cI, 5, .inl (fun _ => 0)))]) H := hP
  have hD : va_D A ([(h0, .inr (0, [.null, .int 0, .int 0])), (q1, .inl (cI, 5, .inl (fun _ => 0)))]) := hD
  refine va_putF (D := (dC, dI)) (ci := 0) (v := .ref q1) (ty := .array .int) (C := RX0) (T := TX0) (N := 3) hx hb hts (by decide +kernel) tyX0 tyX0_ok nmX0 hown hK hP hD hS 0 rfl rfl 0 (by decide) (hts (.fieldLink RX0 9 "BitStreams$Form" "numbers" "[I") (by decide +kernel)) (fun _ h9 => h9) rfl hin rfl (by decide +kernel) rfl rfl (Nat.le_of_ble_eq_true rfl) dX0_init_8 (fun H locs hP hD hS => ?_)
  have hP : va_P (dC, dI) vwCl ([(h0, .inr (0, [.ref q1, .int 0, .int 0])), (q1, .inl (cI, 5, .inl (fun _ => 0)))]) H := hP
  have hD : va_D A ([(h0, .inr (0, [.ref q1, .int 0, .int 0])), (q1, .inl (cI, 5, .inl (fun _ => 0)))]) := hD
  refine lv_aload_n hx hb dX0_init_11 rfl (lv_at hl 0 rfl) ?_
  refine lv_iconst (v := 0) hx hb dX0_init_12 (by decide) ?_
  refine st_i (v := nI 0) rfl ?_
  refine va_put (D := (dC, dI)) (ci := 0) (v := .int (nI 0)) (ty := .int) (C := RX0) (T := TX0) (N := 3) hx hb hts (by decide +kernel) tyX0 tyX0_ok nmX0 hown hK hP hD hS 0 rfl rfl 1 (by decide) (hts (.fieldLink RX0 15 "BitStreams$Form" "degree" "I") (by decide +kernel)) (fun _ h9 => h9) rfl (by decide +kernel) rfl rfl (Nat.le_of_ble_eq_true rfl) dX0_init_13 (fun H locs hP hD hS => ?_)
  have hP : va_P (dC, dI) vwCl ([(h0, .inr (0, [.ref q1, .int (nI 0), .int 0])), (q1, .inl (cI, 5, .inl (fun _ => 0)))]) H := hP
  have hD : va_D A ([(h0, .inr (0, [.ref q1, .int (nI 0), .int 0])), (q1, .inl (cI, 5, .inl (fun _ => 0)))]) := hD
  refine lv_aload_n hx hb dX0_init_16 rfl (lv_at hl 0 rfl) ?_
  refine lv_iconst (v := 1) hx hb dX0_init_17 (by decide) ?_
  refine st_i (v := nI 1) rfl ?_
  refine va_put (D := (dC, dI)) (ci := 0) (v := .int (nI 1)) (ty := .int) (C := RX0) (T := TX0) (N := 3) hx hb hts (by decide +kernel) tyX0 tyX0_ok nmX0 hown hK hP hD hS 0 rfl rfl 2 (by decide) (hts (.fieldLink RX0 19 "BitStreams$Form" "scale" "I") (by decide +kernel)) (fun _ h9 => h9) rfl (by decide +kernel) rfl rfl (Nat.le_of_ble_eq_true rfl) dX0_init_18 (fun H locs hP hD hS => ?_)
  have hP : va_P (dC, dI) vwCl ([(h0, .inr (0, [.ref q1, .int (nI 0), .int (nI 1)])), (q1, .inl (cI, 5, .inl (fun _ => 0)))]) H := hP
  have hD : va_D A ([(h0, .inr (0, [.ref q1, .int (nI 0), .int (nI 1)])), (q1, .inl (cI, 5, .inl (fun _ => 0)))]) := hD
  exact W.vret hx hb hr (fun t ht hW => ⟨⟨(q1, cI), rfl, trivial, wpost ht hP, va_K.moved hW.alike hK, hD⟩, hS.F ht⟩) hS.2.2 dX0_init_21
theorem va_K_same {D : va_G} {cl : List vw_C} {tys : List (ClassId × FieldType)} {s : State} (hK : va_K D cl tys s) {i j : Nat} {c1 c2 : ClassId} (h1 : tys[i]? = some (c1, .long)) (h2 : tys[j]? = some (c2, .long)) : c1 = c2 := Option.some.inj ((hK.2 i _ h1).2.symm.trans (hK.2 j _ h2).2)
set_option maxHeartbeats 4000000 in
set_option maxRecDepth 100000 in
theorem c_X3_init (l : Launch) {dC : Nat → ClassId} {dI : Nat → Nat → Nat} {h0 sz : Nat} : Met l yX3_init wsX3_init ({ frames := 1, cells := 4, slots := 147, locals := 20 }) (va_Pc ([.ref h0] : List Value) (gW sz (dC, dI) [] ([(h0, .inr (3, [.int 0, .null, .int 0, .int 0, .int 0, .null, .null, .int 0, .int 0, .int 0, .null, .long 0, .long 0]))]))) (va_Qv (fun _u : Unit => True) (fun _u t => ∃ (ad : Nat → Nat) (cI cJ : ClassId), ad 0 = h0 ∧ va_P (dC, dI) vwCl (yw ad cI cJ (nI (2 ^ 3)) (nI 0) (nI 1) (-1) (nI 0) 0 0 0 0 (fun _ => 0) (fun _ => 0) (fun _ => 0) (fun _ => 0)) t.heap ∧ va_K (dC, dI) vwCl (tyw cI cJ) t ∧ va_D (va_A ([(h0, .inr (3, [.int 0, .null, .int 0, .int 0, .int 0, .null, .null, .int 0, .int 0, .int 0, .null, .long 0, .long 0]))]) sz) (yw ad cI cJ (nI (2 ^ 3)) (nI 0) (nI 1) (-1) (nI 0) 0 0 0 0 (fun _ => 0) (fun _ => 0) (fun _ => 0) (fun _ => 0))) (va_A ([(h0, .inr (3, [.int 0, .null, .int 0, .int 0, .int 0, .null, .null, .int 0, .int 0, .int 0, .null, .long 0, .long 0]))]) sz)) 4 147 (va_A ([(h0, .inr (3, [.int 0, .null, .int 0, .int 0, .int 0, .null, .null, .int 0, .int 0, .int 0, .null, .long 0, .long 0]))]) sz) := by
  refine Met.ofW (cc := cX3_init) (maxL := 1) (ret := none) (by decide) rfl ?_
  intro p e s m args below meth c s₁ B hml hv
  obtain ⟨rfl, hsz, ⟨hnw, hK, hP⟩, hD0⟩ := hv
  have hx := B.exec
  have hb := B.bytes
  have hr := B.returns
  have hts := atoms_spec (ws := wsX3_init) B.pre
  have hown : s.vm.findClass RX3 = some m.cls := findClass_of_methodNamed B.named
  have hlocks := B.notSynchronized
  have hin : meth.name = "<init>" := (name_of_methodNamed B.named B.method).1
  subst hsz
  have hD := hD0.self (sz := s.heap.size)
  generalize hAe : va_A ([(h0, .inr (3, [.int 0, .null, .int 0, .int 0, .int 0, .null, .null, .int 0, .int 0, .int 0, .null, .long 0, .long 0]))]) s.heap.size = A at hD ⊢
  have hA : ∀ q : Nat, s.heap.size ≤ q → A q := fun q h => by rw [← hAe]; exact Or.inr h
  have hS : va_S A s.heap s.heap [] := va_S.rf
  have hl := lv_entry ([.ref h0] : List Value) (n := 1) (Nat.le_of_ble_eq_true rfl)
  rw [lg_entry_eq]
  generalize (lg_sl ([.ref h0] : List Value) ++ List.replicate (1 - (lg_sl ([.ref h0] : List Value)).length) Slot.unset).toArray = ls at hl ⊢
  have hl : lv_has ls 1 [(0, .ref h0)] := hl
  refine lv_aload_n hx hb dX3_init_0 rfl (lv_at hl 0 rfl) ?_
  refine W.objInit hx hb hown (hts (.methodLink RX3 1 objectInit) (by decide +kernel)) (hts (.instanceMethod objectInit) (by decide +kernel)) (hts (.code objectInit ⟨#[0xb1]⟩ 1 none) (by decide +kernel)) rfl (by rw [hml]; exact hl.1) rfl dX3_init_1 (Nat.le_of_ble_eq_true rfl) (Nat.le_of_ble_eq_true rfl) ?_
  refine W.eq (g2 := F0 m 4 ls []) rfl ?_
  refine lv_aload_n hx hb dX3_init_4 rfl (lv_at hl 0 rfl) ?_
  refine lv_bipush (v := 12) hx hb dX3_init_5 (by decide) ?_
  refine va_newa (atype := .long) (ty := .long) (a0 := (12, .inr (.inl (fun _ => 0)))) (N' := 12) hx hb (hts (.arrayClass .long) (by decide +kernel)) rfl hK hP hD hS hA (fun cA => rfl) (by decide) (by decide) (by decide) (Nat.le_of_ble_eq_true rfl) (Nat.le_of_ble_eq_true rfl) dX3_init_7 (fun q1 cJ1 H hK hP hD hS => ?_)
  have hP : va_P (dC, dI) vwCl ([(h0, .inr (3, [.int 0, .null, .int 0, .int 0, .int 0, .null, .null, .int 0, .int 0, .int 0, .null, .long 0, .long 0])), (q1, .inl (cJ1, 12, .inr (.inl (fun _ => 0))))]) H := hP
  have hD : va_D A ([(h0, .inr (3, [.int 0, .null, .int 0, .int 0, .int 0, .null, .null, .int 0, .int 0, .int 0, .null, .long 0, .long 0])), (q1, .inl (cJ1, 12, .inr (.inl (fun _ => 0))))]) := hD
  refine va_putF (D := (dC, dI)) (ci := 3) (v := .ref q1) (ty := .array .long) (C := RX3) (T := TX3) (N := 13) hx hb hts (by decide +kernel) tyX3 tyX3_ok nmX3 hown hK hP hD hS 0 rfl rfl 1 (by decide) (hts (.fieldLink RX3 7 "BitStreamsModel" "rows" "[J") (by decide +kernel)) (fun _ h9 => h9) rfl hin rfl (by decide +kernel) rfl rfl (Nat.le_of_ble_eq_true rfl) dX3_init_9 (fun H locs hP hD hS => ?_)
  have hP : va_P (dC, dI) vwCl ([(h0, .inr (3, [.int 0, .ref q1, .int 0, .int 0, .int 0, .null, .null, .int 0, .int 0, .int 0, .null, .long 0, .long 0])), (q1, .inl (cJ1, 12, .inr (.inl (fun _ => 0))))]) H := hP
  have hD : va_D A ([(h0, .inr (3, [.int 0, .ref q1, .int 0, .int 0, .int 0, .null, .null, .int 0, .int 0, .int 0, .null, .long 0, .long 0])), (q1, .inl (cJ1, 12, .inr (.inl (fun _ => 0))))]) := hD
  refine lv_aload_n hx hb dX3_init_12 rfl (lv_at hl 0 rfl) ?_
  refine lv_bipush (v := 65) hx hb dX3_init_13 (by decide) ?_
  refine va_newa (atype := .long) (ty := .long) (a0 := (65, .inr (.inl (fun _ => 0)))) (N' := 65) hx hb (hts (.arrayClass .long) (by decide +kernel)) rfl hK hP hD hS hA (fun cA => rfl) (by decide) (by decide) (by decide) (Nat.le_of_ble_eq_true rfl) (Nat.le_of_ble_eq_true rfl) dX3_init_15 (fun q2 cJ2 H hK hP hD hS => ?_)
  have hP : va_P (dC, dI) vwCl ([(h0, .inr (3, [.int 0, .ref q1, .int 0, .int 0, .int 0, .null, .null, .int 0, .int 0, .int 0, .null, .long 0, .long 0])), (q1, .inl (cJ1, 12, .inr (.inl (fun _ => 0)))), (q2, .inl (cJ2, 65, .inr (.inl (fun _ => 0))))]) H := hP
  have hD : va_D A ([(h0, .inr (3, [.int 0, .ref q1, .int 0, .int 0, .int 0, .null, .null, .int 0, .int 0, .int 0, .null, .long 0, .long 0])), (q1, .inl (cJ1, 12, .inr (.inl (fun _ => 0)))), (q2, .inl (cJ2, 65, .inr (.inl (fun _ => 0))))]) := hD
  refine va_putF (D := (dC, dI)) (ci := 3) (v := .ref q2) (ty := .array .long) (C := RX3) (T := TX3) (N := 13) hx hb hts (by decide +kernel) tyX3 tyX3_ok nmX3 hown hK hP hD hS 0 rfl rfl 5 (by decide) (hts (.fieldLink RX3 13 "BitStreamsModel" "firsts" "[J") (by decide +kernel)) (fun _ h9 => h9) rfl hin rfl (by decide +kernel) rfl rfl (Nat.le_of_ble_eq_true rfl) dX3_init_17 (fun H locs hP hD hS => ?_)
  have hP : va_P (dC, dI) vwCl ([(h0, .inr (3, [.int 0, .ref q1, .int 0, .int 0, .int 0, .ref q2, .null, .int 0, .int 0, .int 0, .null, .long 0, .long 0])), (q1, .inl (cJ1, 12, .inr (.inl (fun _ => 0)))), (q2, .inl (cJ2, 65, .inr (.inl (fun _ => 0))))]) H := hP
  have hD : va_D A ([(h0, .inr (3, [.int 0, .ref q1, .int 0, .int 0, .int 0, .ref q2, .null, .int 0, .int 0, .int 0, .null, .long 0, .long 0])), (q1, .inl (cJ1, 12, .inr (.inl (fun _ => 0)))), (q2, .inl (cJ2, 65, .inr (.inl (fun _ => 0))))]) := hD
  refine lv_aload_n hx hb dX3_init_20 rfl (lv_at hl 0 rfl) ?_
  refine lv_bipush (v := 65) hx hb dX3_init_21 (by decide) ?_
  refine va_newa (atype := .long) (ty := .long) (a0 := (65, .inr (.inl (fun _ => 0)))) (N' := 65) hx hb (hts (.arrayClass .long) (by decide +kernel)) rfl hK hP hD hS hA (fun cA => rfl) (by decide) (by decide) (by decide) (Nat.le_of_ble_eq_true rfl) (Nat.le_of_ble_eq_true rfl) dX3_init_23 (fun q3 cJ3 H hK hP hD hS => ?_)
  have hP : va_P (dC, dI) vwCl ([(h0, .inr (3, [.int 0, .ref q1, .int 0, .int 0, .int 0, .ref q2, .null, .int 0, .int 0, .int 0, .null, .long 0, .long 0])), (q1, .inl (cJ1, 12, .inr (.inl (fun _ => 0)))), (q2, .inl (cJ2, 65, .inr (.inl (fun _ => 0)))), (q3, .inl (cJ3, 65, .inr (.inl (fun _ => 0))))]) H := hP
  have hD : va_D A ([(h0, .inr (3, [.int 0, .ref q1, .int 0, .int 0, .int 0, .ref q2, .null, .int 0, .int 0, .int 0, .null, .long 0, .long 0])), (q1, .inl (cJ1, 12, .inr (.inl (fun _ => 0)))), (q2, .inl (cJ2, 65, .inr (.inl (fun _ => 0)))), (q3, .inl (cJ3, 65, .inr (.inl (fun _ => 0))))]) := hD
  refine va_putF (D := (dC, dI)) (ci := 3) (v := .ref q3) (ty := .array .long) (C := RX3) (T := TX3) (N := 13) hx hb hts (by decide +kernel) tyX3 tyX3_ok nmX3 hown hK hP hD hS 0 rfl rfl 6 (by decide) (hts (.fieldLink RX3 16 "BitStreamsModel" "others" "[J") (by decide +kernel)) (fun _ h9 => h9) rfl hin rfl (by decide +kernel) rfl rfl (Nat.le_of_ble_eq_true rfl) dX3_init_25 (fun H locs hP hD hS => ?_)
  have hP : va_P (dC, dI) vwCl ([(h0, .inr (3, [.int 0, .ref q1, .int 0, .int 0, .int 0, .ref q2, .ref q3, .int 0, .int 0, .int 0, .null, .long 0, .long 0])), (q1, .inl (cJ1, 12, .inr (.inl (fun _ => 0)))), (q2, .inl (cJ2, 65, .inr (.inl (fun _ => 0)))), (q3, .inl (cJ3, 65, .inr (.inl (fun _ => 0))))]) H := hP
  have hD : va_D A ([(h0, .inr (3, [.int 0, .ref q1, .int 0, .int 0, .int 0, .ref q2, .ref q3, .int 0, .int 0, .int 0, .null, .long 0, .long 0])), (q1, .inl (cJ1, 12, .inr (.inl (fun _ => 0)))), (q2, .inl (cJ2, 65, .inr (.inl (fun _ => 0)))), (q3, .inl (cJ3, 65, .inr (.inl (fun _ => 0))))]) := hD
  refine lv_aload_n hx hb dX3_init_28 rfl (lv_at hl 0 rfl) ?_
  refine lv_iconst (v := 5) hx hb dX3_init_29 (by decide) ?_
  refine va_newa (atype := .int) (ty := .int) (a0 := (5, .inl (fun _ => 0))) (N' := 5) hx hb (hts (.arrayClass .int) (by decide +kernel)) rfl hK hP hD hS hA (fun cA => rfl) (by decide) (by decide) (by decide) (Nat.le_of_ble_eq_true rfl) (Nat.le_of_ble_eq_true rfl) dX3_init_30 (fun q4 cI H hK hP hD hS => ?_)
  have hP : va_P (dC, dI) vwCl ([(h0, .inr (3, [.int 0, .ref q1, .int 0, .int 0, .int 0, .ref q2, .ref q3, .int 0, .int 0, .int 0, .null, .long 0, .long 0])), (q1, .inl (cJ1, 12, .inr (.inl (fun _ => 0)))), (q2, .inl (cJ2, 65, .inr (.inl (fun _ => 0)))), (q3, .inl (cJ3, 65, .inr (.inl (fun _ => 0)))), (q4, .inl (cI, 5, .inl (fun _ => 0)))]) H := hP
  have hD : va_D A ([(h0, .inr (3, [.int 0, .ref q1, .int 0, .int 0, .int 0, .ref q2, .ref q3, .int 0, .int 0, .int 0, .null, .long 0, .long 0])), (q1, .inl (cJ1, 12, .inr (.inl (fun _ => 0)))), (q2, .inl (cJ2, 65, .inr (.inl (fun _ => 0)))), (q3, .inl (cJ3, 65, .inr (.inl (fun _ => 0)))), (q4, .inl (cI, 5, .inl (fun _ => 0)))]) := hD
  refine va_putF (D := (dC, dI)) (ci := 3) (v := .ref q4) (ty := .array .int) (C := RX3) (T := TX3) (N := 13) hx hb hts (by decide +kernel) tyX3 tyX3_ok nmX3 hown hK hP hD hS 0 rfl rfl 10 (by decide) (hts (.fieldLink RX3 19 "BitStreamsModel" "terms" "[I") (by decide +kernel)) (fun _ h9 => h9) rfl hin rfl (by decide +kernel) rfl rfl (Nat.le_of_ble_eq_true rfl) dX3_init_32 (fun H locs hP hD hS => ?_)
  have hP : va_P (dC, dI) vwCl ([(h0, .inr (3, [.int 0, .ref q1, .int 0, .int 0, .int 0, .ref q2, .ref q3, .int 0, .int 0, .int 0, .ref q4, .long 0, .long 0])), (q1, .inl (cJ1, 12, .inr (.inl (fun _ => 0)))), (q2, .inl (cJ2, 65, .inr (.inl (fun _ => 0)))), (q3, .inl (cJ3, 65, .inr (.inl (fun _ => 0)))), (q4, .inl (cI, 5, .inl (fun _ => 0)))]) H := hP
  have hD : va_D A ([(h0, .inr (3, [.int 0, .ref q1, .int 0, .int 0, .int 0, .ref q2, .ref q3, .int 0, .int 0, .int 0, .ref q4, .long 0, .long 0])), (q1, .inl (cJ1, 12, .inr (.inl (fun _ => 0)))), (q2, .inl (cJ2, 65, .inr (.inl (fun _ => 0)))), (q3, .inl (cJ3, 65, .inr (.inl (fun _ => 0)))), (q4, .inl (cI, 5, .inl (fun _ => 0)))]) := hD
  refine lv_aload_n hx hb dX3_init_35 rfl (lv_at hl 0 rfl) ?_
  refine lv_bipush (v := 8) hx hb dX3_init_36 (by decide) ?_
  refine st_i (v := (nI (2 ^ 3))) rfl ?_
  refine va_put (D := (dC, dI)) (ci := 3) (v := .int (nI (2 ^ 3))) (ty := .int) (C := RX3) (T := TX3) (N := 13) hx hb hts (by decide +kernel) tyX3 tyX3_ok nmX3 hown hK hP hD hS 0 rfl rfl 0 (by decide) (hts (.fieldLink RX3 23 "BitStreamsModel" "size" "I") (by decide +kernel)) (fun _ h9 => h9) rfl (by decide +kernel) rfl rfl (Nat.le_of_ble_eq_true rfl) dX3_init_38 (fun H locs hP hD hS => ?_)
  have hP : va_P (dC, dI) vwCl ([(h0, .inr (3, [.int (nI (2 ^ 3)), .ref q1, .int 0, .int 0, .int 0, .ref q2, .ref q3, .int 0, .int 0, .int 0, .ref q4, .long 0, .long 0])), (q1, .inl (cJ1, 12, .inr (.inl (fun _ => 0)))), (q2, .inl (cJ2, 65, .inr (.inl (fun _ => 0)))), (q3, .inl (cJ3, 65, .inr (.inl (fun _ => 0)))), (q4, .inl (cI, 5, .inl (fun _ => 0)))]) H := hP
  have hD : va_D A ([(h0, .inr (3, [.int (nI (2 ^ 3)), .ref q1, .int 0, .int 0, .int 0, .ref q2, .ref q3, .int 0, .int 0, .int 0, .ref q4, .long 0, .long 0])), (q1, .inl (cJ1, 12, .inr (.inl (fun _ => 0)))), (q2, .inl (cJ2, 65, .inr (.inl (fun _ => 0)))), (q3, .inl (cJ3, 65, .inr (.inl (fun _ => 0)))), (q4, .inl (cI, 5, .inl (fun _ => 0)))]) := hD
  refine lv_aload_n hx hb dX3_init_41 rfl (lv_at hl 0 rfl) ?_
  refine lv_iconst (v := (-1)) hx hb dX3_init_42 (by decide) ?_
  refine st_i (v := (-1)) rfl ?_
  refine va_put (D := (dC, dI)) (ci := 3) (v := .int (-1)) (ty := .int) (C := RX3) (T := TX3) (N := 13) hx hb hts (by decide +kernel) tyX3 tyX3_ok nmX3 hown hK hP hD hS 0 rfl rfl 7 (by decide) (hts (.fieldLink RX3 27 "BitStreamsModel" "behind" "I") (by decide +kernel)) (fun _ h9 => h9) rfl (by decide +kernel) rfl rfl (Nat.le_of_ble_eq_true rfl) dX3_init_43 (fun H locs hP hD hS => ?_)
  have hP : va_P (dC, dI) vwCl ([(h0, .inr (3, [.int (nI (2 ^ 3)), .ref q1, .int 0, .int 0, .int 0, .ref q2, .ref q3, .int (-1), .int 0, .int 0, .ref q4, .long 0, .long 0])), (q1, .inl (cJ1, 12, .inr (.inl (fun _ => 0)))), (q2, .inl (cJ2, 65, .inr (.inl (fun _ => 0)))), (q3, .inl (cJ3, 65, .inr (.inl (fun _ => 0)))), (q4, .inl (cI, 5, .inl (fun _ => 0)))]) H := hP
  have hD : va_D A ([(h0, .inr (3, [.int (nI (2 ^ 3)), .ref q1, .int 0, .int 0, .int 0, .ref q2, .ref q3, .int (-1), .int 0, .int 0, .ref q4, .long 0, .long 0])), (q1, .inl (cJ1, 12, .inr (.inl (fun _ => 0)))), (q2, .inl (cJ2, 65, .inr (.inl (fun _ => 0)))), (q3, .inl (cJ3, 65, .inr (.inl (fun _ => 0)))), (q4, .inl (cI, 5, .inl (fun _ => 0)))]) := hD
  refine lv_aload_n hx hb dX3_init_46 rfl (lv_at hl 0 rfl) ?_
  refine lv_iconst (v := 1) hx hb dX3_init_47 (by decide) ?_
  refine st_i (v := (nI 1)) rfl ?_
  refine va_put (D := (dC, dI)) (ci := 3) (v := .int (nI 1)) (ty := .int) (C := RX3) (T := TX3) (N := 13) hx hb hts (by decide +kernel) tyX3 tyX3_ok nmX3 hown hK hP hD hS 0 rfl rfl 9 (by decide) (hts (.fieldLink RX3 30 "BitStreamsModel" "scale" "I") (by decide +kernel)) (fun _ h9 => h9) rfl (by decide +kernel) rfl rfl (Nat.le_of_ble_eq_true rfl) dX3_init_48 (fun H locs hP hD hS => ?_)
  have hP : va_P (dC, dI) vwCl ([(h0, .inr (3, [.int (nI (2 ^ 3)), .ref q1, .int 0, .int 0, .int 0, .ref q2, .ref q3, .int (-1), .int 0, .int (nI 1), .ref q4, .long 0, .long 0])), (q1, .inl (cJ1, 12, .inr (.inl (fun _ => 0)))), (q2, .inl (cJ2, 65, .inr (.inl (fun _ => 0)))), (q3, .inl (cJ3, 65, .inr (.inl (fun _ => 0)))), (q4, .inl (cI, 5, .inl (fun _ => 0)))]) H := hP
  have hD : va_D A ([(h0, .inr (3, [.int (nI (2 ^ 3)), .ref q1, .int 0, .int 0, .int 0, .ref q2, .ref q3, .int (-1), .int 0, .int (nI 1), .ref q4, .long 0, .long 0])), (q1, .inl (cJ1, 12, .inr (.inl (fun _ => 0)))), (q2, .inl (cJ2, 65, .inr (.inl (fun _ => 0)))), (q3, .inl (cJ3, 65, .inr (.inl (fun _ => 0)))), (q4, .inl (cI, 5, .inl (fun _ => 0)))]) := hD
  have ej2 : cJ2 = cJ1 := va_K_same hK (i := 1) (j := 0) rfl rfl
  have ej3 : cJ3 = cJ1 := va_K_same hK (i := 2) (j := 0) rfl rfl
  subst ej2 ej3
  have hK9 : va_K (dC, dI) vwCl (tyw cI cJ3) s := hK.sub [3, 0] rfl
  exact W.vret hx hb hr (fun t ht hW => ⟨⟨(), rfl, trivial, fun k => match k with | 0 => h0 | 1 => q1 | 2 => q2 | 3 => q3 | _ => q4, cI, cJ3, rfl, wpost ht hP, va_K.moved hW.alike hK9, hD⟩, hS.F ht⟩) hS.2.2 dX3_init_51
set_option maxHeartbeats 4000000 in
set_option maxRecDepth 100000 in
theorem c_X2_init (l : Launch) {dC : Nat → ClassId} {dI : Nat → Nat → Nat} {h0 sz : Nat} : Met l yX2_init wsX2_init ({ frames := 2, cells := 7, slots := 163, locals := 40 }) (va_Pc ([.ref h0] : List Value) (gW sz (dC, dI) [] ([(h0, .inr (2, [.null, .null, .null, .null, .null, .null, .int 0, .int 0, .int 0, .int 0]))]))) (va_Qv (fun _u : Unit => True) (fun _u t => ∃ (ad : Nat → Nat) (cI cJ : ClassId), ad 0 = h0 ∧ va_P (dC, dI) vwCl (xw ad cI cJ (nI (2 ^ 3)) (nI 3) (nI 0) (nI 1) (-1) (nI 0) 0 0 (fun _ => 0) (fun _ => 0) (fun _ => 0) (fun _ => 0) (fun _ => 0)) t.heap ∧ va_K (dC, dI) vwCl (tyw cI cJ) t ∧ va_D (va_A ([(h0, .inr (2, [.null, .null, .null, .null, .null, .null, .int 0, .int 0, .int 0, .int 0]))]) sz) (xw ad cI cJ (nI (2 ^ 3)) (nI 3) (nI 0) (nI 1) (-1) (nI 0) 0 0 (fun _ => 0) (fun _ => 0) (fun _ => 0) (fun _ => 0) (fun _ => 0))) (va_A ([(h0, .inr (2, [.null, .null, .null, .null, .null, .null, .int 0, .int 0, .int 0, .int 0]))]) sz)) 7 163 (va_A ([(h0, .inr (2, [.null, .null, .null, .null, .null, .null, .int 0, .int 0, .int 0, .int 0]))]) sz) := by
  refine Met.ofW (cc := cX2_init) (maxL := 1) (ret := none) (by decide) rfl ?_
  intro p e s m args below meth c s₁ B hml hv
  obtain ⟨rfl, hsz, ⟨hnw, hK, hP⟩, hD0⟩ := hv
  have hx := B.exec
  have hb := B.bytes
  have hr := B.returns
  have hts := atoms_spec (ws := wsX2_init) B.pre
  have hown : s.vm.findClass RX2 = some m.cls := findClass_of_methodNamed B.named
  have hlocks := B.notSynchronized
  have hin : meth.name = "<init>" := (name_of_methodNamed B.named B.method).1
  subst hsz
  have hD := hD0.self (sz := s.heap.size)
  generalize hAe : va_A ([(h0, .inr (2, [.null, .null, .null, .null, .null, .null, .int 0, .int 0, .int 0, .int 0]))]) s.heap.size = A at hD ⊢
  have hA : ∀ q : Nat, s.heap.size ≤ q → A q := fun q h => by rw [← hAe]; exact Or.inr h
  have hS : va_S A s.heap s.heap [] := va_S.rf
  have hl := lv_entry ([.ref h0] : List Value) (n := 1) (Nat.le_of_ble_eq_true rfl)
  rw [lg_entry_eq]
  generalize (lg_sl ([.ref h0] : List Value) ++ List.replicate (1 - (lg_sl ([.ref h0] : List Value)).length) Slot.unset).toArray = ls at hl ⊢
  have hl : lv_has ls 1 [(0, .ref h0)] := hl
  refine lv_aload_n hx hb dX2_init_0 rfl (lv_at hl 0 rfl) ?_
  refine W.objInit hx hb hown (hts (.methodLink RX2 1 objectInit) (by decide +kernel)) (hts (.instanceMethod objectInit) (by decide +kernel)) (hts (.code objectInit ⟨#[0xb1]⟩ 1 none) (by decide +kernel)) rfl (by rw [hml]; exact hl.1) rfl dX2_init_1 (Nat.le_of_ble_eq_true rfl) (Nat.le_of_ble_eq_true rfl) ?_
  refine W.eq (g2 := F0 m 4 ls []) rfl ?_
  refine lv_aload_n hx hb dX2_init_4 rfl (lv_at hl 0 rfl) ?_
  refine va_new (ci := 1) (fs := [.int 0, .int 0]) (C := RX1) (T := TX1) (N := 2) hx hb hts (by decide +kernel) tyX1 tyX1_ok hown (hts (.classLink RX2 7 RX1) (by decide +kernel)) (hts (.instantiable RX1 2) (by decide +kernel)) (hts (.initialized RX1) (by decide +kernel)) hK hP hD hS hA rfl (fun j hj => by rcases (show j = 0 ∨ j = 1 by omega) with rfl | rfl <;> rfl) (Nat.le_of_ble_eq_true rfl) (Nat.le_of_ble_eq_true rfl) dX2_init_5 (fun q1 H hP hD hS => ?_)
  have hP : va_P (dC, dI) vwCl ([(h0, .inr (2, [.null, .null, .null, .null, .null, .null, .int 0, .int 0, .int 0, .int 0])), (q1, .inr (1, [.int 0, .int 0]))]) H := hP
  have hD : va_D A ([(h0, .inr (2, [.null, .null, .null, .null, .null, .null, .int 0, .int 0, .int 0, .int 0])), (q1, .inr (1, [.int 0, .int 0]))]) := hD
  refine lv_dup hx hb dX2_init_8 rfl ?_
  have hPc := hP.sub (ws' := [(q1, .inr (1, [.int 0, .int 0]))]) [1] rfl
  have hDc := hD.sub (ws' := [(q1, .inr (1, [.int 0, .int 0]))]) [1] (by decide) rfl
  have hFc := va_free (wc := [(q1, .inr (1, [.int 0, .int 0]))]) hD hS hA [1] rfl
  refine va_callv (va_runIN (As := []) (rest := [.ref q1, .ref h0]) ⟨hx, hb, hml, hown, hts⟩ (c_X1_init l (sz := H.size)) ⟨va_cnB 0 hts gX2_init_X1_init_n9 rfl rfl rfl (hnw.at 0 rfl) (hts (.initialized RX1) (by decide +kernel)) kd_X1_init ⟨Nat.le_of_ble_eq_true rfl, Nat.le_of_ble_eq_true rfl⟩, rfl, hts (.instanceMethod yX1_init) (by decide +kernel)⟩ ⟨gW_blind, fun U hU hW => ⟨rfl, by rw [hU], ⟨nw.warm hW hnw, va_K.moved hW.alike (hK.sub [] rfl), by rw [hU]; exact hPc⟩, hDc.weaken (fun _ _ _ _ => trivial)⟩⟩ rfl rfl hl.1 rfl (lv_room (Nat.le_of_ble_eq_true rfl)) dX2_init_9 ⟨Nat.le_of_ble_eq_true rfl, Nat.le_of_ble_eq_true rfl⟩) hS (fun q _ h => hFc q h) hFc (fun u1 t H1 locs ht hvm hw hB hz1 hk1 hS => ?_)
  have hP1 : va_P (dC, dI) vwCl [(q1, .inr (1, [.int (nI 8), .int (nI 3)]))] H1 := by rw [← ht]; exact hB
  have hD1 : va_D (va_A [(q1, .inr (1, [.int 0, .int 0]))] H.size) [(q1, .inr (1, [.int (nI 8), .int (nI 3)]))] := va_D_addr (hDc.self (sz := H.size)) rfl
  obtain ⟨hP, hD⟩ := va_join (wr := [(h0, .inr (2, [.null, .null, .null, .null, .null, .null, .int 0, .int 0, .int 0, .int 0]))]) (w1 := [(q1, .inr (1, [.int (nI 8), .int (nI 3)]))]) hP hD [1] [0] rfl rfl (by decide) (by decide) hk1 hFc hP1 hD1
  generalize H1 = H at hP hS ⊢
  have hP : va_P (dC, dI) vwCl ([(h0, .inr (2, [.null, .null, .null, .null, .null, .null, .int 0, .int 0, .int 0, .int 0])), (q1, .inr (1, [.int (nI 8), .int (nI 3)]))]) H := hP
  have hD : va_D A ([(h0, .inr (2, [.null, .null, .null, .null, .null, .null, .int 0, .int 0, .int 0, .int 0])), (q1, .inr (1, [.int (nI 8), .int (nI 3)]))]) := hD
  refine va_putF (D := (dC, dI)) (ci := 2) (v := .ref q1) (ty := .object "BitStreams$Rows") (C := RX2) (T := TX2) (N := 10) hx hb hts (by decide +kernel) tyX2 tyX2_ok nmX2 hown hK hP hD hS 0 rfl rfl 0 (by decide) (hts (.fieldLink RX2 10 "BitStreams" "rows" "LBitStreams$Rows;") (by decide +kernel)) (fun _ h9 => h9) rfl hin rfl (by decide +kernel) rfl rfl (Nat.le_of_ble_eq_true rfl) dX2_init_12 (fun H locs hP hD hS => ?_)
  have hP : va_P (dC, dI) vwCl ([(h0, .inr (2, [.ref q1, .null, .null, .null, .null, .null, .int 0, .int 0, .int 0, .int 0])), (q1, .inr (1, [.int (nI 8), .int (nI 3)]))]) H := hP
  have hD : va_D A ([(h0, .inr (2, [.ref q1, .null, .null, .null, .null, .null, .int 0, .int 0, .int 0, .int 0])), (q1, .inr (1, [.int (nI 8), .int (nI 3)]))]) := hD
  refine lv_aload_n hx hb dX2_init_15 rfl (lv_at hl 0 rfl) ?_
  refine va_new (ci := 0) (fs := [.null, .int 0, .int 0]) (C := RX0) (T := TX0) (N := 3) hx hb hts (by decide +kernel) tyX0 tyX0_ok hown (hts (.classLink RX2 16 RX0) (by decide +kernel)) (hts (.instantiable RX0 3) (by decide +kernel)) (hts (.initialized RX0) (by decide +kernel)) hK hP hD hS hA rfl (fun j hj => by rcases (show j = 0 ∨ j = 1 ∨ j = 2 by omega) with rfl | rfl | rfl <;> rfl) (Nat.le_of_ble_eq_true rfl) (Nat.le_of_ble_eq_true rfl) dX2_init_16 (fun q2 H hP hD hS => ?_)
  have hP : va_P (dC, dI) vwCl ([(h0, .inr (2, [.ref q1, .null, .null, .null, .null, .null, .int 0, .int 0, .int 0, .int 0])), (q1, .inr (1, [.int (nI 8), .int (nI 3)])), (q2, .inr (0, [.null, .int 0, .int 0]))]) H := hP
  have hD : va_D A ([(h0, .inr (2, [.ref q1, .null, .null, .null, .null, .null, .int 0, .int 0, .int 0, .int 0])), (q1, .inr (1, [.int (nI 8), .int (nI 3)])), (q2, .inr (0, [.null, .int 0, .int 0]))]) := hD
  refine lv_dup hx hb dX2_init_19 rfl ?_
  have hPc := hP.sub (ws' := [(q2, .inr (0, [.null, .int 0, .int 0]))]) [2] rfl
  have hDc := hD.sub (ws' := [(q2, .inr (0, [.null, .int 0, .int 0]))]) [2] (by decide) rfl
  have hFc := va_free (wc := [(q2, .inr (0, [.null, .int 0, .int 0]))]) hD hS hA [2] rfl
  refine va_callv (va_runIN (As := []) (rest := [.ref q2, .ref h0]) ⟨hx, hb, hml, hown, hts⟩ (c_X0_init l (sz := H.size)) ⟨va_cnB 0 hts gX2_init_X0_init_n18 rfl rfl rfl (hnw.at 2 rfl) (hts (.initialized RX0) (by decide +kernel)) kd_X0_init ⟨Nat.le_of_ble_eq_true rfl, Nat.le_of_ble_eq_true rfl⟩, rfl, hts (.instanceMethod yX0_init) (by decide +kernel)⟩ ⟨gW_blind, fun U hU hW => ⟨rfl, by rw [hU], ⟨nw.warm hW hnw, va_K.moved hW.alike (hK.sub [] rfl), by rw [hU]; exact hPc⟩, hDc.weaken (fun _ _ _ _ => trivial)⟩⟩ rfl rfl hl.1 rfl (lv_room (Nat.le_of_ble_eq_true rfl)) dX2_init_20 ⟨Nat.le_of_ble_eq_true rfl, Nat.le_of_ble_eq_true rfl⟩) hS (fun q _ h => hFc q h) hFc (fun u2 t H1 locs ht hvm hw hB hz1 hk1 hS => ?_)
  obtain ⟨q7, cI⟩ := u2
  obtain ⟨hP1, hK1, hD1⟩ := hB
  have hP1 : va_P (dC, dI) vwCl [(q2, .inr (0, [.ref q7, .int (nI 0), .int (nI 1)])), (q7, .inl (cI, 5, .inl (fun _ => 0)))] H1 := by rw [← ht]; exact hP1
  have hK1 := va_K.moved hvm.symm hK1
  obtain ⟨hP, hD⟩ := va_join (wr := [(h0, .inr (2, [.ref q1, .null, .null, .null, .null, .null, .int 0, .int 0, .int 0, .int 0])), (q1, .inr (1, [.int (nI 8), .int (nI 3)]))]) (w1 := [(q2, .inr (0, [.ref q7, .int (nI 0), .int (nI 1)])), (q7, .inl (cI, 5, .inl (fun _ => 0)))]) hP hD [2] [0, 1] rfl rfl (by decide) (by decide) hk1 hFc hP1 hD1
  have hK := (hK.sub (tys' := []) [] rfl).app hK1
  generalize H1 = H at hP hS ⊢
  have hP : va_P (dC, dI) vwCl ([(h0, .inr (2, [.ref q1, .null, .null, .null, .null, .null, .int 0, .int 0, .int 0, .int 0])), (q1, .inr (1, [.int (nI 8), .int (nI 3)])), (q2, .inr (0, [.ref q7, .int (nI 0), .int (nI 1)])), (q7, .inl (cI, 5, .inl (fun _ => 0)))]) H := hP
  have hD : va_D A ([(h0, .inr (2, [.ref q1, .null, .null, .null, .null, .null, .int 0, .int 0, .int 0, .int 0])), (q1, .inr (1, [.int (nI 8), .int (nI 3)])), (q2, .inr (0, [.ref q7, .int (nI 0), .int (nI 1)])), (q7, .inl (cI, 5, .inl (fun _ => 0)))]) := hD
  refine va_putF (D := (dC, dI)) (ci := 2) (v := .ref q2) (ty := .object "BitStreams$Form") (C := RX2) (T := TX2) (N := 10) hx hb hts (by decide +kernel) tyX2 tyX2_ok nmX2 hown hK hP hD hS 0 rfl rfl 1 (by decide) (hts (.fieldLink RX2 19 "BitStreams" "form" "LBitStreams$Form;") (by decide +kernel)) (fun _ h9 => h9) rfl hin rfl (by decide +kernel) rfl rfl (Nat.le_of_ble_eq_true rfl) dX2_init_23 (fun H locs hP hD hS => ?_)
  have hP : va_P (dC, dI) vwCl ([(h0, .inr (2, [.ref q1, .ref q2, .null, .null, .null, .null, .int 0, .int 0, .int 0, .int 0])), (q1, .inr (1, [.int (nI 8), .int (nI 3)])), (q2, .inr (0, [.ref q7, .int (nI 0), .int (nI 1)])), (q7, .inl (cI, 5, .inl (fun _ => 0)))]) H := hP
  have hD : va_D A ([(h0, .inr (2, [.ref q1, .ref q2, .null, .null, .null, .null, .int 0, .int 0, .int 0, .int 0])), (q1, .inr (1, [.int (nI 8), .int (nI 3)])), (q2, .inr (0, [.ref q7, .int (nI 0), .int (nI 1)])), (q7, .inl (cI, 5, .inl (fun _ => 0)))]) := hD
  refine lv_aload_n hx hb dX2_init_26 rfl (lv_at hl 0 rfl) ?_
  refine lv_bipush (v := 12) hx hb dX2_init_27 (by decide) ?_
  refine va_newa (atype := .long) (ty := .long) (a0 := (12, .inr (.inl (fun _ => 0)))) (N' := 12) hx hb (hts (.arrayClass .long) (by decide +kernel)) rfl hK hP hD hS hA (fun cA => rfl) (by decide) (by decide) (by decide) (Nat.le_of_ble_eq_true rfl) (Nat.le_of_ble_eq_true rfl) dX2_init_29 (fun q3 cJ1 H hK hP hD hS => ?_)
  have hP : va_P (dC, dI) vwCl ([(h0, .inr (2, [.ref q1, .ref q2, .null, .null, .null, .null, .int 0, .int 0, .int 0, .int 0])), (q1, .inr (1, [.int (nI 8), .int (nI 3)])), (q2, .inr (0, [.ref q7, .int (nI 0), .int (nI 1)])), (q7, .inl (cI, 5, .inl (fun _ => 0))), (q3, .inl (cJ1, 12, .inr (.inl (fun _ => 0))))]) H := hP
  have hD : va_D A ([(h0, .inr (2, [.ref q1, .ref q2, .null, .null, .null, .null, .int 0, .int 0, .int 0, .int 0])), (q1, .inr (1, [.int (nI 8), .int (nI 3)])), (q2, .inr (0, [.ref q7, .int (nI 0), .int (nI 1)])), (q7, .inl (cI, 5, .inl (fun _ => 0))), (q3, .inl (cJ1, 12, .inr (.inl (fun _ => 0))))]) := hD
  refine va_putF (D := (dC, dI)) (ci := 2) (v := .ref q3) (ty := .array .long) (C := RX2) (T := TX2) (N := 10) hx hb hts (by decide +kernel) tyX2 tyX2_ok nmX2 hown hK hP hD hS 0 rfl rfl 2 (by decide) (hts (.fieldLink RX2 23 "BitStreams" "streams" "[J") (by decide +kernel)) (fun _ h9 => h9) rfl hin rfl (by decide +kernel) rfl rfl (Nat.le_of_ble_eq_true rfl) dX2_init_31 (fun H locs hP hD hS => ?_)
  have hP : va_P (dC, dI) vwCl ([(h0, .inr (2, [.ref q1, .ref q2, .ref q3, .null, .null, .null, .int 0, .int 0, .int 0, .int 0])), (q1, .inr (1, [.int (nI 8), .int (nI 3)])), (q2, .inr (0, [.ref q7, .int (nI 0), .int (nI 1)])), (q7, .inl (cI, 5, .inl (fun _ => 0))), (q3, .inl (cJ1, 12, .inr (.inl (fun _ => 0))))]) H := hP
  have hD : va_D A ([(h0, .inr (2, [.ref q1, .ref q2, .ref q3, .null, .null, .null, .int 0, .int 0, .int 0, .int 0])), (q1, .inr (1, [.int (nI 8), .int (nI 3)])), (q2, .inr (0, [.ref q7, .int (nI 0), .int (nI 1)])), (q7, .inl (cI, 5, .inl (fun _ => 0))), (q3, .inl (cJ1, 12, .inr (.inl (fun _ => 0))))]) := hD
  refine lv_aload_n hx hb dX2_init_34 rfl (lv_at hl 0 rfl) ?_
  refine lv_bipush (v := 65) hx hb dX2_init_35 (by decide) ?_
  refine va_newa (atype := .long) (ty := .long) (a0 := (65, .inr (.inl (fun _ => 0)))) (N' := 65) hx hb (hts (.arrayClass .long) (by decide +kernel)) rfl hK hP hD hS hA (fun cA => rfl) (by decide) (by decide) (by decide) (Nat.le_of_ble_eq_true rfl) (Nat.le_of_ble_eq_true rfl) dX2_init_37 (fun q4 cJ2 H hK hP hD hS => ?_)
  have hP : va_P (dC, dI) vwCl ([(h0, .inr (2, [.ref q1, .ref q2, .ref q3, .null, .null, .null, .int 0, .int 0, .int 0, .int 0])), (q1, .inr (1, [.int (nI 8), .int (nI 3)])), (q2, .inr (0, [.ref q7, .int (nI 0), .int (nI 1)])), (q7, .inl (cI, 5, .inl (fun _ => 0))), (q3, .inl (cJ1, 12, .inr (.inl (fun _ => 0)))), (q4, .inl (cJ2, 65, .inr (.inl (fun _ => 0))))]) H := hP
  have hD : va_D A ([(h0, .inr (2, [.ref q1, .ref q2, .ref q3, .null, .null, .null, .int 0, .int 0, .int 0, .int 0])), (q1, .inr (1, [.int (nI 8), .int (nI 3)])), (q2, .inr (0, [.ref q7, .int (nI 0), .int (nI 1)])), (q7, .inl (cI, 5, .inl (fun _ => 0))), (q3, .inl (cJ1, 12, .inr (.inl (fun _ => 0)))), (q4, .inl (cJ2, 65, .inr (.inl (fun _ => 0))))]) := hD
  refine va_putF (D := (dC, dI)) (ci := 2) (v := .ref q4) (ty := .array .long) (C := RX2) (T := TX2) (N := 10) hx hb hts (by decide +kernel) tyX2 tyX2_ok nmX2 hown hK hP hD hS 0 rfl rfl 3 (by decide) (hts (.fieldLink RX2 27 "BitStreams" "firstRows" "[J") (by decide +kernel)) (fun _ h9 => h9) rfl hin rfl (by decide +kernel) rfl rfl (Nat.le_of_ble_eq_true rfl) dX2_init_39 (fun H locs hP hD hS => ?_)
  have hP : va_P (dC, dI) vwCl ([(h0, .inr (2, [.ref q1, .ref q2, .ref q3, .ref q4, .null, .null, .int 0, .int 0, .int 0, .int 0])), (q1, .inr (1, [.int (nI 8), .int (nI 3)])), (q2, .inr (0, [.ref q7, .int (nI 0), .int (nI 1)])), (q7, .inl (cI, 5, .inl (fun _ => 0))), (q3, .inl (cJ1, 12, .inr (.inl (fun _ => 0)))), (q4, .inl (cJ2, 65, .inr (.inl (fun _ => 0))))]) H := hP
  have hD : va_D A ([(h0, .inr (2, [.ref q1, .ref q2, .ref q3, .ref q4, .null, .null, .int 0, .int 0, .int 0, .int 0])), (q1, .inr (1, [.int (nI 8), .int (nI 3)])), (q2, .inr (0, [.ref q7, .int (nI 0), .int (nI 1)])), (q7, .inl (cI, 5, .inl (fun _ => 0))), (q3, .inl (cJ1, 12, .inr (.inl (fun _ => 0)))), (q4, .inl (cJ2, 65, .inr (.inl (fun _ => 0))))]) := hD
  refine lv_aload_n hx hb dX2_init_42 rfl (lv_at hl 0 rfl) ?_
  refine lv_bipush (v := 65) hx hb dX2_init_43 (by decide) ?_
  refine va_newa (atype := .long) (ty := .long) (a0 := (65, .inr (.inl (fun _ => 0)))) (N' := 65) hx hb (hts (.arrayClass .long) (by decide +kernel)) rfl hK hP hD hS hA (fun cA => rfl) (by decide) (by decide) (by decide) (Nat.le_of_ble_eq_true rfl) (Nat.le_of_ble_eq_true rfl) dX2_init_45 (fun q5 cJ3 H hK hP hD hS => ?_)
  have hP : va_P (dC, dI) vwCl ([(h0, .inr (2, [.ref q1, .ref q2, .ref q3, .ref q4, .null, .null, .int 0, .int 0, .int 0, .int 0])), (q1, .inr (1, [.int (nI 8), .int (nI 3)])), (q2, .inr (0, [.ref q7, .int (nI 0), .int (nI 1)])), (q7, .inl (cI, 5, .inl (fun _ => 0))), (q3, .inl (cJ1, 12, .inr (.inl (fun _ => 0)))), (q4, .inl (cJ2, 65, .inr (.inl (fun _ => 0)))), (q5, .inl (cJ3, 65, .inr (.inl (fun _ => 0))))]) H := hP
  have hD : va_D A ([(h0, .inr (2, [.ref q1, .ref q2, .ref q3, .ref q4, .null, .null, .int 0, .int 0, .int 0, .int 0])), (q1, .inr (1, [.int (nI 8), .int (nI 3)])), (q2, .inr (0, [.ref q7, .int (nI 0), .int (nI 1)])), (q7, .inl (cI, 5, .inl (fun _ => 0))), (q3, .inl (cJ1, 12, .inr (.inl (fun _ => 0)))), (q4, .inl (cJ2, 65, .inr (.inl (fun _ => 0)))), (q5, .inl (cJ3, 65, .inr (.inl (fun _ => 0))))]) := hD
  refine va_putF (D := (dC, dI)) (ci := 2) (v := .ref q5) (ty := .array .long) (C := RX2) (T := TX2) (N := 10) hx hb hts (by decide +kernel) tyX2 tyX2_ok nmX2 hown hK hP hD hS 0 rfl rfl 4 (by decide) (hts (.fieldLink RX2 30 "BitStreams" "secondRows" "[J") (by decide +kernel)) (fun _ h9 => h9) rfl hin rfl (by decide +kernel) rfl rfl (Nat.le_of_ble_eq_true rfl) dX2_init_47 (fun H locs hP hD hS => ?_)
  have hP : va_P (dC, dI) vwCl ([(h0, .inr (2, [.ref q1, .ref q2, .ref q3, .ref q4, .ref q5, .null, .int 0, .int 0, .int 0, .int 0])), (q1, .inr (1, [.int (nI 8), .int (nI 3)])), (q2, .inr (0, [.ref q7, .int (nI 0), .int (nI 1)])), (q7, .inl (cI, 5, .inl (fun _ => 0))), (q3, .inl (cJ1, 12, .inr (.inl (fun _ => 0)))), (q4, .inl (cJ2, 65, .inr (.inl (fun _ => 0)))), (q5, .inl (cJ3, 65, .inr (.inl (fun _ => 0))))]) H := hP
  have hD : va_D A ([(h0, .inr (2, [.ref q1, .ref q2, .ref q3, .ref q4, .ref q5, .null, .int 0, .int 0, .int 0, .int 0])), (q1, .inr (1, [.int (nI 8), .int (nI 3)])), (q2, .inr (0, [.ref q7, .int (nI 0), .int (nI 1)])), (q7, .inl (cI, 5, .inl (fun _ => 0))), (q3, .inl (cJ1, 12, .inr (.inl (fun _ => 0)))), (q4, .inl (cJ2, 65, .inr (.inl (fun _ => 0)))), (q5, .inl (cJ3, 65, .inr (.inl (fun _ => 0))))]) := hD
  refine lv_aload_n hx hb dX2_init_50 rfl (lv_at hl 0 rfl) ?_
  refine lv_bipush (v := 11) hx hb dX2_init_51 (by decide) ?_
  refine va_newa (atype := .long) (ty := .long) (a0 := (11, .inr (.inl (fun _ => 0)))) (N' := 11) hx hb (hts (.arrayClass .long) (by decide +kernel)) rfl hK hP hD hS hA (fun cA => rfl) (by decide) (by decide) (by decide) (Nat.le_of_ble_eq_true rfl) (Nat.le_of_ble_eq_true rfl) dX2_init_53 (fun q6 cJ4 H hK hP hD hS => ?_)
  have hP : va_P (dC, dI) vwCl ([(h0, .inr (2, [.ref q1, .ref q2, .ref q3, .ref q4, .ref q5, .null, .int 0, .int 0, .int 0, .int 0])), (q1, .inr (1, [.int (nI 8), .int (nI 3)])), (q2, .inr (0, [.ref q7, .int (nI 0), .int (nI 1)])), (q7, .inl (cI, 5, .inl (fun _ => 0))), (q3, .inl (cJ1, 12, .inr (.inl (fun _ => 0)))), (q4, .inl (cJ2, 65, .inr (.inl (fun _ => 0)))), (q5, .inl (cJ3, 65, .inr (.inl (fun _ => 0)))), (q6, .inl (cJ4, 11, .inr (.inl (fun _ => 0))))]) H := hP
  have hD : va_D A ([(h0, .inr (2, [.ref q1, .ref q2, .ref q3, .ref q4, .ref q5, .null, .int 0, .int 0, .int 0, .int 0])), (q1, .inr (1, [.int (nI 8), .int (nI 3)])), (q2, .inr (0, [.ref q7, .int (nI 0), .int (nI 1)])), (q7, .inl (cI, 5, .inl (fun _ => 0))), (q3, .inl (cJ1, 12, .inr (.inl (fun _ => 0)))), (q4, .inl (cJ2, 65, .inr (.inl (fun _ => 0)))), (q5, .inl (cJ3, 65, .inr (.inl (fun _ => 0)))), (q6, .inl (cJ4, 11, .inr (.inl (fun _ => 0))))]) := hD
  refine va_putF (D := (dC, dI)) (ci := 2) (v := .ref q6) (ty := .array .long) (C := RX2) (T := TX2) (N := 10) hx hb hts (by decide +kernel) tyX2 tyX2_ok nmX2 hown hK hP hD hS 0 rfl rfl 5 (by decide) (hts (.fieldLink RX2 33 "BitStreams" "parts" "[J") (by decide +kernel)) (fun _ h9 => h9) rfl hin rfl (by decide +kernel) rfl rfl (Nat.le_of_ble_eq_true rfl) dX2_init_55 (fun H locs hP hD hS => ?_)
  have hP : va_P (dC, dI) vwCl ([(h0, .inr (2, [.ref q1, .ref q2, .ref q3, .ref q4, .ref q5, .ref q6, .int 0, .int 0, .int 0, .int 0])), (q1, .inr (1, [.int (nI 8), .int (nI 3)])), (q2, .inr (0, [.ref q7, .int (nI 0), .int (nI 1)])), (q7, .inl (cI, 5, .inl (fun _ => 0))), (q3, .inl (cJ1, 12, .inr (.inl (fun _ => 0)))), (q4, .inl (cJ2, 65, .inr (.inl (fun _ => 0)))), (q5, .inl (cJ3, 65, .inr (.inl (fun _ => 0)))), (q6, .inl (cJ4, 11, .inr (.inl (fun _ => 0))))]) H := hP
  have hD : va_D A ([(h0, .inr (2, [.ref q1, .ref q2, .ref q3, .ref q4, .ref q5, .ref q6, .int 0, .int 0, .int 0, .int 0])), (q1, .inr (1, [.int (nI 8), .int (nI 3)])), (q2, .inr (0, [.ref q7, .int (nI 0), .int (nI 1)])), (q7, .inl (cI, 5, .inl (fun _ => 0))), (q3, .inl (cJ1, 12, .inr (.inl (fun _ => 0)))), (q4, .inl (cJ2, 65, .inr (.inl (fun _ => 0)))), (q5, .inl (cJ3, 65, .inr (.inl (fun _ => 0)))), (q6, .inl (cJ4, 11, .inr (.inl (fun _ => 0))))]) := hD
  refine lv_aload_n hx hb dX2_init_58 rfl (lv_at hl 0 rfl) ?_
  refine lv_iconst (v := (-1)) hx hb dX2_init_59 (by decide) ?_
  refine st_i (v := (-1)) rfl ?_
  refine va_put (D := (dC, dI)) (ci := 2) (v := .int (-1)) (ty := .int) (C := RX2) (T := TX2) (N := 10) hx hb hts (by decide +kernel) tyX2 tyX2_ok nmX2 hown hK hP hD hS 0 rfl rfl 6 (by decide) (hts (.fieldLink RX2 36 "BitStreams" "machineState" "I") (by decide +kernel)) (fun _ h9 => h9) rfl (by decide +kernel) rfl rfl (Nat.le_of_ble_eq_true rfl) dX2_init_60 (fun H locs hP hD hS => ?_)
  have hP : va_P (dC, dI) vwCl ([(h0, .inr (2, [.ref q1, .ref q2, .ref q3, .ref q4, .ref q5, .ref q6, .int (-1), .int 0, .int 0, .int 0])), (q1, .inr (1, [.int (nI 8), .int (nI 3)])), (q2, .inr (0, [.ref q7, .int (nI 0), .int (nI 1)])), (q7, .inl (cI, 5, .inl (fun _ => 0))), (q3, .inl (cJ1, 12, .inr (.inl (fun _ => 0)))), (q4, .inl (cJ2, 65, .inr (.inl (fun _ => 0)))), (q5, .inl (cJ3, 65, .inr (.inl (fun _ => 0)))), (q6, .inl (cJ4, 11, .inr (.inl (fun _ => 0))))]) H := hP
  have hD : va_D A ([(h0, .inr (2, [.ref q1, .ref q2, .ref q3, .ref q4, .ref q5, .ref q6, .int (-1), .int 0, .int 0, .int 0])), (q1, .inr (1, [.int (nI 8), .int (nI 3)])), (q2, .inr (0, [.ref q7, .int (nI 0), .int (nI 1)])), (q7, .inl (cI, 5, .inl (fun _ => 0))), (q3, .inl (cJ1, 12, .inr (.inl (fun _ => 0)))), (q4, .inl (cJ2, 65, .inr (.inl (fun _ => 0)))), (q5, .inl (cJ3, 65, .inr (.inl (fun _ => 0)))), (q6, .inl (cJ4, 11, .inr (.inl (fun _ => 0))))]) := hD
  refine lv_aload_n hx hb dX2_init_63 rfl (lv_at hl 0 rfl) ?_
  refine lv_iconst (v := 0) hx hb dX2_init_64 (by decide) ?_
  refine st_i (v := (nI 0)) rfl ?_
  refine va_put (D := (dC, dI)) (ci := 2) (v := .int (nI 0)) (ty := .int) (C := RX2) (T := TX2) (N := 10) hx hb hts (by decide +kernel) tyX2 tyX2_ok nmX2 hown hK hP hD hS 0 rfl rfl 7 (by decide) (hts (.fieldLink RX2 40 "BitStreams" "misses" "I") (by decide +kernel)) (fun _ h9 => h9) rfl (by decide +kernel) rfl rfl (Nat.le_of_ble_eq_true rfl) dX2_init_65 (fun H locs hP hD hS => ?_)
  have hP : va_P (dC, dI) vwCl ([(h0, .inr (2, [.ref q1, .ref q2, .ref q3, .ref q4, .ref q5, .ref q6, .int (-1), .int (nI 0), .int 0, .int 0])), (q1, .inr (1, [.int (nI 8), .int (nI 3)])), (q2, .inr (0, [.ref q7, .int (nI 0), .int (nI 1)])), (q7, .inl (cI, 5, .inl (fun _ => 0))), (q3, .inl (cJ1, 12, .inr (.inl (fun _ => 0)))), (q4, .inl (cJ2, 65, .inr (.inl (fun _ => 0)))), (q5, .inl (cJ3, 65, .inr (.inl (fun _ => 0)))), (q6, .inl (cJ4, 11, .inr (.inl (fun _ => 0))))]) H := hP
  have hD : va_D A ([(h0, .inr (2, [.ref q1, .ref q2, .ref q3, .ref q4, .ref q5, .ref q6, .int (-1), .int (nI 0), .int 0, .int 0])), (q1, .inr (1, [.int (nI 8), .int (nI 3)])), (q2, .inr (0, [.ref q7, .int (nI 0), .int (nI 1)])), (q7, .inl (cI, 5, .inl (fun _ => 0))), (q3, .inl (cJ1, 12, .inr (.inl (fun _ => 0)))), (q4, .inl (cJ2, 65, .inr (.inl (fun _ => 0)))), (q5, .inl (cJ3, 65, .inr (.inl (fun _ => 0)))), (q6, .inl (cJ4, 11, .inr (.inl (fun _ => 0))))]) := hD
  refine lv_aload_n hx hb dX2_init_68 rfl (lv_at hl 0 rfl) ?_
  refine lv_iconst (v := 0) hx hb dX2_init_69 (by decide) ?_
  refine st_i (v := 0) rfl ?_
  refine va_put (D := (dC, dI)) (ci := 2) (v := .int 0) (ty := .int) (C := RX2) (T := TX2) (N := 10) hx hb hts (by decide +kernel) tyX2 tyX2_ok nmX2 hown hK hP hD hS 0 rfl rfl 8 (by decide) (hts (.fieldLink RX2 43 "BitStreams" "missV" "I") (by decide +kernel)) (fun _ h9 => h9) rfl (by decide +kernel) rfl rfl (Nat.le_of_ble_eq_true rfl) dX2_init_70 (fun H locs hP hD hS => ?_)
  have hP : va_P (dC, dI) vwCl ([(h0, .inr (2, [.ref q1, .ref q2, .ref q3, .ref q4, .ref q5, .ref q6, .int (-1), .int (nI 0), .int 0, .int 0])), (q1, .inr (1, [.int (nI 8), .int (nI 3)])), (q2, .inr (0, [.ref q7, .int (nI 0), .int (nI 1)])), (q7, .inl (cI, 5, .inl (fun _ => 0))), (q3, .inl (cJ1, 12, .inr (.inl (fun _ => 0)))), (q4, .inl (cJ2, 65, .inr (.inl (fun _ => 0)))), (q5, .inl (cJ3, 65, .inr (.inl (fun _ => 0)))), (q6, .inl (cJ4, 11, .inr (.inl (fun _ => 0))))]) H := hP
  have hD : va_D A ([(h0, .inr (2, [.ref q1, .ref q2, .ref q3, .ref q4, .ref q5, .ref q6, .int (-1), .int (nI 0), .int 0, .int 0])), (q1, .inr (1, [.int (nI 8), .int (nI 3)])), (q2, .inr (0, [.ref q7, .int (nI 0), .int (nI 1)])), (q7, .inl (cI, 5, .inl (fun _ => 0))), (q3, .inl (cJ1, 12, .inr (.inl (fun _ => 0)))), (q4, .inl (cJ2, 65, .inr (.inl (fun _ => 0)))), (q5, .inl (cJ3, 65, .inr (.inl (fun _ => 0)))), (q6, .inl (cJ4, 11, .inr (.inl (fun _ => 0))))]) := hD
  refine lv_aload_n hx hb dX2_init_73 rfl (lv_at hl 0 rfl) ?_
  refine lv_iconst (v := 0) hx hb dX2_init_74 (by decide) ?_
  refine st_i (v := 0) rfl ?_
  refine va_put (D := (dC, dI)) (ci := 2) (v := .int 0) (ty := .int) (C := RX2) (T := TX2) (N := 10) hx hb hts (by decide +kernel) tyX2 tyX2_ok nmX2 hown hK hP hD hS 0 rfl rfl 9 (by decide) (hts (.fieldLink RX2 46 "BitStreams" "missW" "I") (by decide +kernel)) (fun _ h9 => h9) rfl (by decide +kernel) rfl rfl (Nat.le_of_ble_eq_true rfl) dX2_init_75 (fun H locs hP hD hS => ?_)
  have hP : va_P (dC, dI) vwCl ([(h0, .inr (2, [.ref q1, .ref q2, .ref q3, .ref q4, .ref q5, .ref q6, .int (-1), .int (nI 0), .int 0, .int 0])), (q1, .inr (1, [.int (nI 8), .int (nI 3)])), (q2, .inr (0, [.ref q7, .int (nI 0), .int (nI 1)])), (q7, .inl (cI, 5, .inl (fun _ => 0))), (q3, .inl (cJ1, 12, .inr (.inl (fun _ => 0)))), (q4, .inl (cJ2, 65, .inr (.inl (fun _ => 0)))), (q5, .inl (cJ3, 65, .inr (.inl (fun _ => 0)))), (q6, .inl (cJ4, 11, .inr (.inl (fun _ => 0))))]) H := hP
  have hD : va_D A ([(h0, .inr (2, [.ref q1, .ref q2, .ref q3, .ref q4, .ref q5, .ref q6, .int (-1), .int (nI 0), .int 0, .int 0])), (q1, .inr (1, [.int (nI 8), .int (nI 3)])), (q2, .inr (0, [.ref q7, .int (nI 0), .int (nI 1)])), (q7, .inl (cI, 5, .inl (fun _ => 0))), (q3, .inl (cJ1, 12, .inr (.inl (fun _ => 0)))), (q4, .inl (cJ2, 65, .inr (.inl (fun _ => 0)))), (q5, .inl (cJ3, 65, .inr (.inl (fun _ => 0)))), (q6, .inl (cJ4, 11, .inr (.inl (fun _ => 0))))]) := hD
  have ej2 : cJ2 = cJ1 := va_K_same hK (i := 2) (j := 1) rfl rfl
  have ej3 : cJ3 = cJ1 := va_K_same hK (i := 3) (j := 1) rfl rfl
  have ej4 : cJ4 = cJ1 := va_K_same hK (i := 4) (j := 1) rfl rfl
  rw [ej2, ej3, ej4] at hP hD
  have hK9 : va_K (dC, dI) vwCl (tyw cI cJ1) s := hK.sub [0, 1] rfl
  have hP9 := hP.sub (ws' := xw (fun k => match k with | 0 => h0 | 1 => q1 | 2 => q2 | 3 => q3 | 4 => q4 | 5 => q5 | 6 => q6 | _ => q7) cI cJ1 (nI (2 ^ 3)) (nI 3) (nI 0) (nI 1) (-1) (nI 0) 0 0 (fun _ => 0) (fun _ => 0) (fun _ => 0) (fun _ => 0) (fun _ => 0)) [0, 1, 2, 4, 5, 6, 7, 3] rfl
  have hD9 := hD.sub (ws' := xw (fun k => match k with | 0 => h0 | 1 => q1 | 2 => q2 | 3 => q3 | 4 => q4 | 5 => q5 | 6 => q6 | _ => q7) cI cJ1 (nI (2 ^ 3)) (nI 3) (nI 0) (nI 1) (-1) (nI 0) 0 0 (fun _ => 0) (fun _ => 0) (fun _ => 0) (fun _ => 0) (fun _ => 0)) [0, 1, 2, 4, 5, 6, 7, 3] (by decide) rfl
  exact W.vret hx hb hr (fun t ht hW => ⟨⟨(), rfl, trivial, _, cI, cJ1, rfl, wpost ht hP9, va_K.moved hW.alike hK9, hD9⟩, hS.F ht⟩) hS.2.2 dX2_init_78
