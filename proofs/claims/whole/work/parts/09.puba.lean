theorem kd_X2_length : yX2_length.cls ≠ "java/lang/invoke/MethodHandle" ∧ yX2_length.cls ≠ "java/lang/invoke/VarHandle" ∧ (parseMethodDescriptor yX2_length.desc).map (fun d => d.parameters.length) = some 1 := by decide +kernel
set_option maxHeartbeats 4000000 in
set_option maxRecDepth 100000 in
theorem c_X2_length (l : Launch) {dC : Nat → ClassId} {dI : Nat → Nat → Nat} {ad : Nat → Nat} {cI cJ : ClassId} {ln : Int32} {fg : Int32} {dg : Int32} {sc : Int32} {ms : Int32} {mi : Int32} {mv : Int32} {mw : Int32} {st : (Nat → Int64)} {fr : (Nat → Int64)} {sr : (Nat → Int64)} {pa : (Nat → Int64)} {nu : (Nat → Int32)} {sz : Nat} {a0 : Int32} : Met l yX2_length wsX2_length ({ frames := 2, cells := 0, slots := 0, locals := 41 }) (va_Pc ([.ref (ad 0), .int a0] : List Value) (gW sz (dC, dI) (tyw cI cJ) (xw ad cI cJ ln fg dg sc ms mi mv mw st fr sr pa nu))) (va_Qi (fun r (_u : Unit) => r = (o_length ln fg st a0).1) (fun _u t => va_P (dC, dI) vwCl (xw ad cI cJ (o_length ln fg st a0).2.1 (o_length ln fg st a0).2.2.1 dg sc ms mi mv mw (o_length ln fg st a0).2.2.2 fr sr pa nu) t.heap) (va_A (xw ad cI cJ ln fg dg sc ms mi mv mw st fr sr pa nu) sz)) 0 0 (va_A (xw ad cI cJ ln fg dg sc ms mi mv mw st fr sr pa nu) sz) := by
  refine Met.ofW (cc := cX2_length) (maxL := 4) (ret := (some .int)) (by decide) rfl ?_
  intro p e s m args below meth c s₁ B hml hv
  obtain ⟨rfl, hsz, ⟨hnw, hK, hP⟩, hD0⟩ := hv
  have hx := B.exec
  have hb := B.bytes
  have hr := B.returns
  have hts := atoms_spec (ws := wsX2_length) B.pre
  have hown : s.vm.findClass RX2 = some m.cls := findClass_of_methodNamed B.named
  have hlocks := B.notSynchronized
  subst hsz
  have hD := hD0.self (sz := s.heap.size)
  generalize hAe : va_A (xw ad cI cJ ln fg dg sc ms mi mv mw st fr sr pa nu) s.heap.size = A at hD ⊢
  have hA : ∀ q : Nat, s.heap.size ≤ q → A q := fun q h => by rw [← hAe]; exact Or.inr h
  have hS : va_S A s.heap s.heap [] := va_S.rf
  have hw0 := hts (.fieldLink RX2 10 "BitStreams" "rows" "LBitStreams$Rows;") (by decide +kernel)
  have hw1 := hts (.initialized RX1) (by decide +kernel)
  have hw2 := hts (.instanceMethod yX1_setLength) (by decide +kernel)
  have hw3 := hts (.selects RX1 yX1_setLength yX1_setLength) (by decide +kernel)
  have hw4 := hts (.fieldLink RX2 23 "BitStreams" "streams" "[J") (by decide +kernel)
  have inX1 : ∀ w ∈ wsX10, w ∈ wsX2_length := by decide +kernel
  have inX2 : ∀ w ∈ wsX20, w ∈ wsX2_length := by decide +kernel
  have hl := lv_entry ([.ref (ad 0), .int a0] : List Value) (n := 4) (Nat.le_of_ble_eq_true rfl)
  rw [lg_entry_eq]
  generalize (lg_sl ([.ref (ad 0), .int a0] : List Value) ++ List.replicate (4 - (lg_sl ([.ref (ad 0), .int a0] : List Value)).length) Slot.unset).toArray = ls at hl ⊢
  have hl : lv_has ls 4 [(0, .ref (ad 0)), (1, .int a0)] := hl
  refine lv_iload_n hx hb dX2_length_0 rfl (lv_at hl 1 rfl) ?_
  refine lv_bipush (v := 8) hx hb dX2_length_1 (by decide) ?_
  refine lv_icmp_eq (tgt := 27) hx hb dX2_length_3 (by decide) (fun c_3 => ?_) (fun c_3 => ?_)
  · skip
    have hC : lens a0 := Or.inl c_3
    refine lv_aload_n hx hb dX2_length_27 rfl (lv_at hl 0 rfl) ?_
    refine va_get (D := (dC, dI)) (ci := 2) (C := RX2) (T := TX2) (N := 10) hx hb hts inX2 hown hK hP 0 rfl rfl 0 (by decide) hw0 (fun _ h9 => h9) rfl dX2_length_28 ?_
    refine va_getN (D := (dC, dI)) (ci := 1) (C := RX1) (T := TX1) (N := 2) hx hb hts inX1 hown hK hP 1 rfl rfl 0 (by decide) (hnw.use 1 rfl) (fun _ h9 => h9) rfl dX2_length_31 ?_
    refine lv_istore_n (lv' := [(2, .int _), (0, .ref _), (1, .int _)]) hx hb dX2_length_34 rfl hl (by decide) rfl (fun ls hl => ?_)
    refine lv_aload_n hx hb dX2_length_35 rfl (lv_at hl 1 rfl) ?_
    refine va_get (D := (dC, dI)) (ci := 2) (C := RX2) (T := TX2) (N := 10) hx hb hts inX2 hown hK hP 0 rfl rfl 0 (by decide) hw0 (fun _ h9 => h9) rfl dX2_length_36 ?_
    refine lv_iload_n hx hb dX2_length_39 rfl (lv_at hl 2 rfl) ?_
    refine wr_v (va_runVN ⟨hx, hb, hml, hown, hts⟩ (c_X1_setLength l ) ⟨va_cnB 1 hts gX2_length_X1_setLength_n52 rfl rfl rfl (hnw.at 6 rfl) hw1 kd_X1_setLength ⟨Nat.le_of_ble_eq_true rfl, Nat.le_of_ble_eq_true rfl⟩, hw2, hw3⟩ (preV2 hnw hK hP hD 1 1 rfl rfl) rfl rfl hl.1 rfl (lv_room (Nat.le_of_ble_eq_true rfl)) dX2_length_40 ⟨Nat.zero_le _, Nat.zero_le _⟩) hD hS hA (fun _ => rfl) (fun u_40 H locs h_40 hP hD hS => ?_)
    have hP : va_P (dC, dI) vwCl (xw ad cI cJ _ _ dg sc ms mi mv mw st fr sr pa nu) H := hP
    have hD : va_D A (xw ad cI cJ _ _ dg sc ms mi mv mw st fr sr pa nu) := va_D_addr hD rfl
    refine lv_iconst (v := 0) hx hb dX2_length_43 (by decide) ?_
    refine lv_istore_n (lv' := [(3, .int _), (2, .int _), (0, .ref _), (1, .int _)]) hx hb dX2_length_44 rfl hl (by decide) rfl (fun ls hl => ?_)
    have L45 : ∀ (n45 : Nat) (k : Nat) (u : Nat → Int64), 13 ≤ k + n45 → (k ≤ 12) → (∀ i, u i = if i < k then 0 else st i) → ∀ (H : Heap) (locs : List Loc), va_P (dC, dI) vwCl (xw ad cI cJ a0 (f_bci (a0 - 1)) dg sc ms mi mv mw u fr sr pa nu) H → va_S A s.heap H locs → ∀ (ls : Array Slot), lv_has ls 4 [(0, .ref (ad 0)), (1, .int a0), (2, .int ln), (3, .int (nI k))] → W p l e { frames := 2, cells := 0, slots := 0, locals := 41 } s m ([.ref (ad 0), .int a0] : List Value).toArray below meth c H locs 0 0 (MQ below (va_Qi (fun r (_u : Unit) => r = (o_length ln fg st a0).1) (fun _u t => va_P (dC, dI) vwCl (xw ad cI cJ (o_length ln fg st a0).2.1 (o_length ln fg st a0).2.2.1 dg sc ms mi mv mw (o_length ln fg st a0).2.2.2 fr sr pa nu) t.heap) A) ([.ref (ad 0), .int a0] : List Value).toArray s 0 0 (A)) (F0 m 45 ls []) := by
      intro n45
      induction n45 with
      | zero =>
        intro k u hf45 hk hu
        exact absurd hf45 (by omega)
      | succ n45 ih45 =>
        intro k u hf45 hk hu H locs hP hS ls hl
        have hD : va_D A (xw ad cI cJ a0 (f_bci (a0 - 1)) dg sc ms mi mv mw u fr sr pa nu) := va_D_addr hD rfl
        refine lv_iload_n hx hb dX2_length_45 rfl (lv_at hl 3 rfl) ?_
        refine lv_bipush (v := 12) hx hb dX2_length_46 (by decide) ?_
        refine lv_icmp_ge (tgt := 64) hx hb dX2_length_48 (by decide) (fun c_48 => ?_) (fun c_48 => ?_)
        · skip
          have hz : k = 12 := by have := (nI_leI (a := 12) (b := k) (by omega) (by omega)).mp c_48; omega
          refine lv_iload_n hx hb dX2_length_64 rfl (lv_at hl 2 rfl) ?_
          have eu : u = fun i => if i < 12 then 0 else st i := funext (fun i => by rw [hu i, hz])
          subst eu
          simp only [o_length, if_pos hC]
          exact W.iret hx hb hr (fun t ht _ => ⟨⟨_, (), rfl, rfl, wpost ht hP⟩, hS.F ht⟩) hS.2.2 dX2_length_65
        · skip
          have hz : k < 12 := by have := mt (nI_leI (a := 12) (b := k) (by omega) (by omega)).mpr c_48; omega
          refine lv_aload_n hx hb dX2_length_51 rfl (lv_at hl 0 rfl) ?_
          refine va_get (D := (dC, dI)) (ci := 2) (C := RX2) (T := TX2) (N := 10) hx hb hts inX2 hown hK hP 0 rfl rfl 2 (by decide) hw4 (fun _ h9 => h9) rfl dX2_length_52 ?_
          refine lv_iload_n hx hb dX2_length_55 rfl (lv_at hl 3 rfl) ?_
          refine lv_lconst (v := 0) hx hb dX2_length_56 (by decide) ?_
          refine va_last hx hb hK hP hD hS 3 1 rfl rfl (vp_in_nI hz (by omega)) dX2_length_57 (fun H locs hP hD hS => ?_)
          have hP : va_P (dC, dI) vwCl (xw ad cI cJ a0 (f_bci (a0 - 1)) dg sc ms mi mv mw _ fr sr pa nu) H := hP
          have hD : va_D A (xw ad cI cJ a0 (f_bci (a0 - 1)) dg sc ms mi mv mw _ fr sr pa nu) := va_D_addr hD rfl
          refine lv_iinc (lv' := [(3, .int (nI (k + 1))), (0, .ref _), (1, .int _), (2, .int _)]) hx hb dX2_length_58 hl (k := 3) rfl (nI_1 _) (by decide) rfl (fun ls hl => ?_)
          refine lv_goto (tgt := 45) hx hb dX2_length_61 (by decide) ?_
          exact ih45 (k + 1) _ (by omega) (by omega) (fun i => by rw [nI_cl (by omega)]; exact fz_step hu i) _ _ hP hS ls (lv_sub hl [1, 2, 3, 0] rfl)
    exact L45 13 0 st (by omega) (by omega) (fun i => by rw [if_neg (by omega)]) _ _ hP hS ls (lv_sub hl [2, 3, 1, 0] rfl)
  · skip
    refine lv_iload_n hx hb dX2_length_6 rfl (lv_at hl 1 rfl) ?_
    refine lv_bipush (v := 16) hx hb dX2_length_7 (by decide) ?_
    refine lv_icmp_eq (tgt := 27) hx hb dX2_length_9 (by decide) (fun c_9 => ?_) (fun c_9 => ?_)
    · skip
      have hC : lens a0 := Or.inr (Or.inl c_9)
      refine lv_aload_n hx hb dX2_length_27 rfl (lv_at hl 0 rfl) ?_
      refine va_get (D := (dC, dI)) (ci := 2) (C := RX2) (T := TX2) (N := 10) hx hb hts inX2 hown hK hP 0 rfl rfl 0 (by decide) hw0 (fun _ h9 => h9) rfl dX2_length_28 ?_
      refine va_getN (D := (dC, dI)) (ci := 1) (C := RX1) (T := TX1) (N := 2) hx hb hts inX1 hown hK hP 1 rfl rfl 0 (by decide) (hnw.use 1 rfl) (fun _ h9 => h9) rfl dX2_length_31 ?_
      refine lv_istore_n (lv' := [(2, .int _), (0, .ref _), (1, .int _)]) hx hb dX2_length_34 rfl hl (by decide) rfl (fun ls hl => ?_)
      refine lv_aload_n hx hb dX2_length_35 rfl (lv_at hl 1 rfl) ?_
      refine va_get (D := (dC, dI)) (ci := 2) (C := RX2) (T := TX2) (N := 10) hx hb hts inX2 hown hK hP 0 rfl rfl 0 (by decide) hw0 (fun _ h9 => h9) rfl dX2_length_36 ?_
      refine lv_iload_n hx hb dX2_length_39 rfl (lv_at hl 2 rfl) ?_
      refine wr_v (va_runVN ⟨hx, hb, hml, hown, hts⟩ (c_X1_setLength l ) ⟨va_cnB 1 hts gX2_length_X1_setLength_n52 rfl rfl rfl (hnw.at 6 rfl) hw1 kd_X1_setLength ⟨Nat.le_of_ble_eq_true rfl, Nat.le_of_ble_eq_true rfl⟩, hw2, hw3⟩ (preV2 hnw hK hP hD 1 1 rfl rfl) rfl rfl hl.1 rfl (lv_room (Nat.le_of_ble_eq_true rfl)) dX2_length_40 ⟨Nat.zero_le _, Nat.zero_le _⟩) hD hS hA (fun _ => rfl) (fun u_40 H locs h_40 hP hD hS => ?_)
      have hP : va_P (dC, dI) vwCl (xw ad cI cJ _ _ dg sc ms mi mv mw st fr sr pa nu) H := hP
      have hD : va_D A (xw ad cI cJ _ _ dg sc ms mi mv mw st fr sr pa nu) := va_D_addr hD rfl
      refine lv_iconst (v := 0) hx hb dX2_length_43 (by decide) ?_
      refine lv_istore_n (lv' := [(3, .int _), (2, .int _), (0, .ref _), (1, .int _)]) hx hb dX2_length_44 rfl hl (by decide) rfl (fun ls hl => ?_)
      have L45 : ∀ (n45 : Nat) (k : Nat) (u : Nat → Int64), 13 ≤ k + n45 → (k ≤ 12) → (∀ i, u i = if i < k then 0 else st i) → ∀ (H : Heap) (locs : List Loc), va_P (dC, dI) vwCl (xw ad cI cJ a0 (f_bci (a0 - 1)) dg sc ms mi mv mw u fr sr pa nu) H → va_S A s.heap H locs → ∀ (ls : Array Slot), lv_has ls 4 [(0, .ref (ad 0)), (1, .int a0), (2, .int ln), (3, .int (nI k))] → W p l e { frames := 2, cells := 0, slots := 0, locals := 41 } s m ([.ref (ad 0), .int a0] : List Value).toArray below meth c H locs 0 0 (MQ below (va_Qi (fun r (_u : Unit) => r = (o_length ln fg st a0).1) (fun _u t => va_P (dC, dI) vwCl (xw ad cI cJ (o_length ln fg st a0).2.1 (o_length ln fg st a0).2.2.1 dg sc ms mi mv mw (o_length ln fg st a0).2.2.2 fr sr pa nu) t.heap) A) ([.ref (ad 0), .int a0] : List Value).toArray s 0 0 (A)) (F0 m 45 ls []) := by
        intro n45
        induction n45 with
        | zero =>
          intro k u hf45 hk hu
          exact absurd hf45 (by omega)
        | succ n45 ih45 =>
          intro k u hf45 hk hu H locs hP hS ls hl
          have hD : va_D A (xw ad cI cJ a0 (f_bci (a0 - 1)) dg sc ms mi mv mw u fr sr pa nu) := va_D_addr hD rfl
          refine lv_iload_n hx hb dX2_length_45 rfl (lv_at hl 3 rfl) ?_
          refine lv_bipush (v := 12) hx hb dX2_length_46 (by decide) ?_
          refine lv_icmp_ge (tgt := 64) hx hb dX2_length_48 (by decide) (fun c_48 => ?_) (fun c_48 => ?_)
          · skip
            have hz : k = 12 := by have := (nI_leI (a := 12) (b := k) (by omega) (by omega)).mp c_48; omega
            refine lv_iload_n hx hb dX2_length_64 rfl (lv_at hl 2 rfl) ?_
            have eu : u = fun i => if i < 12 then 0 else st i := funext (fun i => by rw [hu i, hz])
            subst eu
            simp only [o_length, if_pos hC]
            exact W.iret hx hb hr (fun t ht _ => ⟨⟨_, (), rfl, rfl, wpost ht hP⟩, hS.F ht⟩) hS.2.2 dX2_length_65
          · skip
            have hz : k < 12 := by have := mt (nI_leI (a := 12) (b := k) (by omega) (by omega)).mpr c_48; omega
            refine lv_aload_n hx hb dX2_length_51 rfl (lv_at hl 0 rfl) ?_
            refine va_get (D := (dC, dI)) (ci := 2) (C := RX2) (T := TX2) (N := 10) hx hb hts inX2 hown hK hP 0 rfl rfl 2 (by decide) hw4 (fun _ h9 => h9) rfl dX2_length_52 ?_
            refine lv_iload_n hx hb dX2_length_55 rfl (lv_at hl 3 rfl) ?_
            refine lv_lconst (v := 0) hx hb dX2_length_56 (by decide) ?_
            refine va_last hx hb hK hP hD hS 3 1 rfl rfl (vp_in_nI hz (by omega)) dX2_length_57 (fun H locs hP hD hS => ?_)
            have hP : va_P (dC, dI) vwCl (xw ad cI cJ a0 (f_bci (a0 - 1)) dg sc ms mi mv mw _ fr sr pa nu) H := hP
            have hD : va_D A (xw ad cI cJ a0 (f_bci (a0 - 1)) dg sc ms mi mv mw _ fr sr pa nu) := va_D_addr hD rfl
            refine lv_iinc (lv' := [(3, .int (nI (k + 1))), (0, .ref _), (1, .int _), (2, .int _)]) hx hb dX2_length_58 hl (k := 3) rfl (nI_1 _) (by decide) rfl (fun ls hl => ?_)
            refine lv_goto (tgt := 45) hx hb dX2_length_61 (by decide) ?_
            exact ih45 (k + 1) _ (by omega) (by omega) (fun i => by rw [nI_cl (by omega)]; exact fz_step hu i) _ _ hP hS ls (lv_sub hl [1, 2, 3, 0] rfl)
      exact L45 13 0 st (by omega) (by omega) (fun i => by rw [if_neg (by omega)]) _ _ hP hS ls (lv_sub hl [2, 3, 1, 0] rfl)
    · skip
      refine lv_iload_n hx hb dX2_length_12 rfl (lv_at hl 1 rfl) ?_
      refine lv_bipush (v := 32) hx hb dX2_length_13 (by decide) ?_
      refine lv_icmp_eq (tgt := 27) hx hb dX2_length_15 (by decide) (fun c_15 => ?_) (fun c_15 => ?_)
      · skip
        have hC : lens a0 := Or.inr (Or.inr (Or.inl c_15))
        refine lv_aload_n hx hb dX2_length_27 rfl (lv_at hl 0 rfl) ?_
        refine va_get (D := (dC, dI)) (ci := 2) (C := RX2) (T := TX2) (N := 10) hx hb hts inX2 hown hK hP 0 rfl rfl 0 (by decide) hw0 (fun _ h9 => h9) rfl dX2_length_28 ?_
        refine va_getN (D := (dC, dI)) (ci := 1) (C := RX1) (T := TX1) (N := 2) hx hb hts inX1 hown hK hP 1 rfl rfl 0 (by decide) (hnw.use 1 rfl) (fun _ h9 => h9) rfl dX2_length_31 ?_
        refine lv_istore_n (lv' := [(2, .int _), (0, .ref _), (1, .int _)]) hx hb dX2_length_34 rfl hl (by decide) rfl (fun ls hl => ?_)
        refine lv_aload_n hx hb dX2_length_35 rfl (lv_at hl 1 rfl) ?_
        refine va_get (D := (dC, dI)) (ci := 2) (C := RX2) (T := TX2) (N := 10) hx hb hts inX2 hown hK hP 0 rfl rfl 0 (by decide) hw0 (fun _ h9 => h9) rfl dX2_length_36 ?_
        refine lv_iload_n hx hb dX2_length_39 rfl (lv_at hl 2 rfl) ?_
        refine wr_v (va_runVN ⟨hx, hb, hml, hown, hts⟩ (c_X1_setLength l ) ⟨va_cnB 1 hts gX2_length_X1_setLength_n52 rfl rfl rfl (hnw.at 6 rfl) hw1 kd_X1_setLength ⟨Nat.le_of_ble_eq_true rfl, Nat.le_of_ble_eq_true rfl⟩, hw2, hw3⟩ (preV2 hnw hK hP hD 1 1 rfl rfl) rfl rfl hl.1 rfl (lv_room (Nat.le_of_ble_eq_true rfl)) dX2_length_40 ⟨Nat.zero_le _, Nat.zero_le _⟩) hD hS hA (fun _ => rfl) (fun u_40 H locs h_40 hP hD hS => ?_)
        have hP : va_P (dC, dI) vwCl (xw ad cI cJ _ _ dg sc ms mi mv mw st fr sr pa nu) H := hP
        have hD : va_D A (xw ad cI cJ _ _ dg sc ms mi mv mw st fr sr pa nu) := va_D_addr hD rfl
        refine lv_iconst (v := 0) hx hb dX2_length_43 (by decide) ?_
        refine lv_istore_n (lv' := [(3, .int _), (2, .int _), (0, .ref _), (1, .int _)]) hx hb dX2_length_44 rfl hl (by decide) rfl (fun ls hl => ?_)
        have L45 : ∀ (n45 : Nat) (k : Nat) (u : Nat → Int64), 13 ≤ k + n45 → (k ≤ 12) → (∀ i, u i = if i < k then 0 else st i) → ∀ (H : Heap) (locs : List Loc), va_P (dC, dI) vwCl (xw ad cI cJ a0 (f_bci (a0 - 1)) dg sc ms mi mv mw u fr sr pa nu) H → va_S A s.heap H locs → ∀ (ls : Array Slot), lv_has ls 4 [(0, .ref (ad 0)), (1, .int a0), (2, .int ln), (3, .int (nI k))] → W p l e { frames := 2, cells := 0, slots := 0, locals := 41 } s m ([.ref (ad 0), .int a0] : List Value).toArray below meth c H locs 0 0 (MQ below (va_Qi (fun r (_u : Unit) => r = (o_length ln fg st a0).1) (fun _u t => va_P (dC, dI) vwCl (xw ad cI cJ (o_length ln fg st a0).2.1 (o_length ln fg st a0).2.2.1 dg sc ms mi mv mw (o_length ln fg st a0).2.2.2 fr sr pa nu) t.heap) A) ([.ref (ad 0), .int a0] : List Value).toArray s 0 0 (A)) (F0 m 45 ls []) := by
          intro n45
          induction n45 with
          | zero =>
            intro k u hf45 hk hu
            exact absurd hf45 (by omega)
          | succ n45 ih45 =>
            intro k u hf45 hk hu H locs hP hS ls hl
            have hD : va_D A (xw ad cI cJ a0 (f_bci (a0 - 1)) dg sc ms mi mv mw u fr sr pa nu) := va_D_addr hD rfl
            refine lv_iload_n hx hb dX2_length_45 rfl (lv_at hl 3 rfl) ?_
            refine lv_bipush (v := 12) hx hb dX2_length_46 (by decide) ?_
            refine lv_icmp_ge (tgt := 64) hx hb dX2_length_48 (by decide) (fun c_48 => ?_) (fun c_48 => ?_)
            · skip
              have hz : k = 12 := by have := (nI_leI (a := 12) (b := k) (by omega) (by omega)).mp c_48; omega
              refine lv_iload_n hx hb dX2_length_64 rfl (lv_at hl 2 rfl) ?_
              have eu : u = fun i => if i < 12 then 0 else st i := funext (fun i => by rw [hu i, hz])
              subst eu
              simp only [o_length, if_pos hC]
              exact W.iret hx hb hr (fun t ht _ => ⟨⟨_, (), rfl, rfl, wpost ht hP⟩, hS.F ht⟩) hS.2.2 dX2_length_65
            · skip
              have hz : k < 12 := by have := mt (nI_leI (a := 12) (b := k) (by omega) (by omega)).mpr c_48; omega
              refine lv_aload_n hx hb dX2_length_51 rfl (lv_at hl 0 rfl) ?_
              refine va_get (D := (dC, dI)) (ci := 2) (C := RX2) (T := TX2) (N := 10) hx hb hts inX2 hown hK hP 0 rfl rfl 2 (by decide) hw4 (fun _ h9 => h9) rfl dX2_length_52 ?_
              refine lv_iload_n hx hb dX2_length_55 rfl (lv_at hl 3 rfl) ?_
              refine lv_lconst (v := 0) hx hb dX2_length_56 (by decide) ?_
              refine va_last hx hb hK hP hD hS 3 1 rfl rfl (vp_in_nI hz (by omega)) dX2_length_57 (fun H locs hP hD hS => ?_)
              have hP : va_P (dC, dI) vwCl (xw ad cI cJ a0 (f_bci (a0 - 1)) dg sc ms mi mv mw _ fr sr pa nu) H := hP
              have hD : va_D A (xw ad cI cJ a0 (f_bci (a0 - 1)) dg sc ms mi mv mw _ fr sr pa nu) := va_D_addr hD rfl
              refine lv_iinc (lv' := [(3, .int (nI (k + 1))), (0, .ref _), (1, .int _), (2, .int _)]) hx hb dX2_length_58 hl (k := 3) rfl (nI_1 _) (by decide) rfl (fun ls hl => ?_)
              refine lv_goto (tgt := 45) hx hb dX2_length_61 (by decide) ?_
              exact ih45 (k + 1) _ (by omega) (by omega) (fun i => by rw [nI_cl (by omega)]; exact fz_step hu i) _ _ hP hS ls (lv_sub hl [1, 2, 3, 0] rfl)
        exact L45 13 0 st (by omega) (by omega) (fun i => by rw [if_neg (by omega)]) _ _ hP hS ls (lv_sub hl [2, 3, 1, 0] rfl)
      · skip
        refine lv_iload_n hx hb dX2_length_18 rfl (lv_at hl 1 rfl) ?_
        refine lv_bipush (v := 64) hx hb dX2_length_19 (by decide) ?_
        refine lv_icmp_eq (tgt := 27) hx hb dX2_length_21 (by decide) (fun c_21 => ?_) (fun c_21 => ?_)
        · skip
          have hC : lens a0 := Or.inr (Or.inr (Or.inr c_21))
          refine lv_aload_n hx hb dX2_length_27 rfl (lv_at hl 0 rfl) ?_
          refine va_get (D := (dC, dI)) (ci := 2) (C := RX2) (T := TX2) (N := 10) hx hb hts inX2 hown hK hP 0 rfl rfl 0 (by decide) hw0 (fun _ h9 => h9) rfl dX2_length_28 ?_
          refine va_getN (D := (dC, dI)) (ci := 1) (C := RX1) (T := TX1) (N := 2) hx hb hts inX1 hown hK hP 1 rfl rfl 0 (by decide) (hnw.use 1 rfl) (fun _ h9 => h9) rfl dX2_length_31 ?_
          refine lv_istore_n (lv' := [(2, .int _), (0, .ref _), (1, .int _)]) hx hb dX2_length_34 rfl hl (by decide) rfl (fun ls hl => ?_)
          refine lv_aload_n hx hb dX2_length_35 rfl (lv_at hl 1 rfl) ?_
          refine va_get (D := (dC, dI)) (ci := 2) (C := RX2) (T := TX2) (N := 10) hx hb hts inX2 hown hK hP 0 rfl rfl 0 (by decide) hw0 (fun _ h9 => h9) rfl dX2_length_36 ?_
          refine lv_iload_n hx hb dX2_length_39 rfl (lv_at hl 2 rfl) ?_
          refine wr_v (va_runVN ⟨hx, hb, hml, hown, hts⟩ (c_X1_setLength l ) ⟨va_cnB 1 hts gX2_length_X1_setLength_n52 rfl rfl rfl (hnw.at 6 rfl) hw1 kd_X1_setLength ⟨Nat.le_of_ble_eq_true rfl, Nat.le_of_ble_eq_true rfl⟩, hw2, hw3⟩ (preV2 hnw hK hP hD 1 1 rfl rfl) rfl rfl hl.1 rfl (lv_room (Nat.le_of_ble_eq_true rfl)) dX2_length_40 ⟨Nat.zero_le _, Nat.zero_le _⟩) hD hS hA (fun _ => rfl) (fun u_40 H locs h_40 hP hD hS => ?_)
          have hP : va_P (dC, dI) vwCl (xw ad cI cJ _ _ dg sc ms mi mv mw st fr sr pa nu) H := hP
          have hD : va_D A (xw ad cI cJ _ _ dg sc ms mi mv mw st fr sr pa nu) := va_D_addr hD rfl
          refine lv_iconst (v := 0) hx hb dX2_length_43 (by decide) ?_
          refine lv_istore_n (lv' := [(3, .int _), (2, .int _), (0, .ref _), (1, .int _)]) hx hb dX2_length_44 rfl hl (by decide) rfl (fun ls hl => ?_)
          have L45 : ∀ (n45 : Nat) (k : Nat) (u : Nat → Int64), 13 ≤ k + n45 → (k ≤ 12) → (∀ i, u i = if i < k then 0 else st i) → ∀ (H : Heap) (locs : List Loc), va_P (dC, dI) vwCl (xw ad cI cJ a0 (f_bci (a0 - 1)) dg sc ms mi mv mw u fr sr pa nu) H → va_S A s.heap H locs → ∀ (ls : Array Slot), lv_has ls 4 [(0, .ref (ad 0)), (1, .int a0), (2, .int ln), (3, .int (nI k))] → W p l e { frames := 2, cells := 0, slots := 0, locals := 41 } s m ([.ref (ad 0), .int a0] : List Value).toArray below meth c H locs 0 0 (MQ below (va_Qi (fun r (_u : Unit) => r = (o_length ln fg st a0).1) (fun _u t => va_P (dC, dI) vwCl (xw ad cI cJ (o_length ln fg st a0).2.1 (o_length ln fg st a0).2.2.1 dg sc ms mi mv mw (o_length ln fg st a0).2.2.2 fr sr pa nu) t.heap) A) ([.ref (ad 0), .int a0] : List Value).toArray s 0 0 (A)) (F0 m 45 ls []) := by
            intro n45
            induction n45 with
            | zero =>
              intro k u hf45 hk hu
              exact absurd hf45 (by omega)
            | succ n45 ih45 =>
              intro k u hf45 hk hu H locs hP hS ls hl
              have hD : va_D A (xw ad cI cJ a0 (f_bci (a0 - 1)) dg sc ms mi mv mw u fr sr pa nu) := va_D_addr hD rfl
              refine lv_iload_n hx hb dX2_length_45 rfl (lv_at hl 3 rfl) ?_
              refine lv_bipush (v := 12) hx hb dX2_length_46 (by decide) ?_
              refine lv_icmp_ge (tgt := 64) hx hb dX2_length_48 (by decide) (fun c_48 => ?_) (fun c_48 => ?_)
              · skip
                have hz : k = 12 := by have := (nI_leI (a := 12) (b := k) (by omega) (by omega)).mp c_48; omega
                refine lv_iload_n hx hb dX2_length_64 rfl (lv_at hl 2 rfl) ?_
                have eu : u = fun i => if i < 12 then 0 else st i := funext (fun i => by rw [hu i, hz])
                subst eu
                simp only [o_length, if_pos hC]
                exact W.iret hx hb hr (fun t ht _ => ⟨⟨_, (), rfl, rfl, wpost ht hP⟩, hS.F ht⟩) hS.2.2 dX2_length_65
              · skip
                have hz : k < 12 := by have := mt (nI_leI (a := 12) (b := k) (by omega) (by omega)).mpr c_48; omega
                refine lv_aload_n hx hb dX2_length_51 rfl (lv_at hl 0 rfl) ?_
                refine va_get (D := (dC, dI)) (ci := 2) (C := RX2) (T := TX2) (N := 10) hx hb hts inX2 hown hK hP 0 rfl rfl 2 (by decide) hw4 (fun _ h9 => h9) rfl dX2_length_52 ?_
                refine lv_iload_n hx hb dX2_length_55 rfl (lv_at hl 3 rfl) ?_
                refine lv_lconst (v := 0) hx hb dX2_length_56 (by decide) ?_
                refine va_last hx hb hK hP hD hS 3 1 rfl rfl (vp_in_nI hz (by omega)) dX2_length_57 (fun H locs hP hD hS => ?_)
                have hP : va_P (dC, dI) vwCl (xw ad cI cJ a0 (f_bci (a0 - 1)) dg sc ms mi mv mw _ fr sr pa nu) H := hP
                have hD : va_D A (xw ad cI cJ a0 (f_bci (a0 - 1)) dg sc ms mi mv mw _ fr sr pa nu) := va_D_addr hD rfl
                refine lv_iinc (lv' := [(3, .int (nI (k + 1))), (0, .ref _), (1, .int _), (2, .int _)]) hx hb dX2_length_58 hl (k := 3) rfl (nI_1 _) (by decide) rfl (fun ls hl => ?_)
                refine lv_goto (tgt := 45) hx hb dX2_length_61 (by decide) ?_
                exact ih45 (k + 1) _ (by omega) (by omega) (fun i => by rw [nI_cl (by omega)]; exact fz_step hu i) _ _ hP hS ls (lv_sub hl [1, 2, 3, 0] rfl)
          exact L45 13 0 st (by omega) (by omega) (fun i => by rw [if_neg (by omega)]) _ _ hP hS ls (lv_sub hl [2, 3, 1, 0] rfl)
        · skip
          have hC : ¬ lens a0 := fun h => by rcases h with h | h | h | h; exact c_3 h; exact c_9 h; exact c_15 h; exact c_21 h
          refine lv_bipush (v := (-102)) hx hb dX2_length_24 (by decide) ?_
          simp only [o_length, if_neg hC]
          exact W.iret hx hb hr (fun t ht _ => ⟨⟨_, (), rfl, rfl, wpost ht hP⟩, hS.F ht⟩) hS.2.2 dX2_length_26
theorem kd_X2_source : yX2_source.cls ≠ "java/lang/invoke/MethodHandle" ∧ yX2_source.cls ≠ "java/lang/invoke/VarHandle" ∧ (parseMethodDescriptor yX2_source.desc).map (fun d => d.parameters.length) = some 3 := by decide +kernel
set_option maxHeartbeats 4000000 in
set_option maxRecDepth 100000 in
theorem c_X2_source (l : Launch) {dC : Nat → ClassId} {dI : Nat → Nat → Nat} {ad : Nat → Nat} {cI cJ : ClassId} {ln : Int32} {fg : Int32} {dg : Int32} {sc : Int32} {ms : Int32} {mi : Int32} {mv : Int32} {mw : Int32} {st : (Nat → Int64)} {fr : (Nat → Int64)} {sr : (Nat → Int64)} {pa : (Nat → Int64)} {nu : (Nat → Int32)} {sz : Nat} {a0 a1 a2 : Int32} : Met l yX2_source wsX2_source ({ frames := 3, cells := 0, slots := 0, locals := 69 }) (va_Pc ([.ref (ad 0), .int a0, .int a1, .int a2] : List Value) (gW sz (dC, dI) (tyw cI cJ) (xw ad cI cJ ln fg dg sc ms mi mv mw st fr sr pa nu))) (va_Qi (fun r (_u : Unit) => r = (o_source ln fg st a0 a1 a2).1) (fun _u t => va_P (dC, dI) vwCl (xw ad cI cJ ln fg dg sc ms mi mv mw (o_source ln fg st a0 a1 a2).2 fr sr pa nu) t.heap) (va_A (xw ad cI cJ ln fg dg sc ms mi mv mw st fr sr pa nu) sz)) 0 0 (va_A (xw ad cI cJ ln fg dg sc ms mi mv mw st fr sr pa nu) sz) := by
  refine Met.ofW (cc := cX2_source) (maxL := 4) (ret := (some .int)) (by decide) rfl ?_
  intro p e s m args below meth c s₁ B hml hv
  obtain ⟨rfl, hsz, ⟨hnw, hK, hP⟩, hD0⟩ := hv
  have hx := B.exec
  have hb := B.bytes
  have hr := B.returns
  have hts := atoms_spec (ws := wsX2_source) B.pre
  have hown : s.vm.findClass RX2 = some m.cls := findClass_of_methodNamed B.named
  have hlocks := B.notSynchronized
  subst hsz
  have hD := hD0.self (sz := s.heap.size)
  generalize hAe : va_A (xw ad cI cJ ln fg dg sc ms mi mv mw st fr sr pa nu) s.heap.size = A at hD ⊢
  have hA : ∀ q : Nat, s.heap.size ≤ q → A q := fun q h => by rw [← hAe]; exact Or.inr h
  have hS : va_S A s.heap s.heap [] := va_S.rf
  have hw0 := hts (.fieldLink RX2 10 "BitStreams" "rows" "LBitStreams$Rows;") (by decide +kernel)
  have hw1 := hts (.initialized RX1) (by decide +kernel)
  have hw2 := hts (.instanceMethod yX1_ofSource) (by decide +kernel)
  have hw3 := hts (.selects RX1 yX1_ofSource yX1_ofSource) (by decide +kernel)
  have inX2 : ∀ w ∈ wsX20, w ∈ wsX2_source := by decide +kernel
  have hl := lv_entry ([.ref (ad 0), .int a0, .int a1, .int a2] : List Value) (n := 4) (Nat.le_of_ble_eq_true rfl)
  rw [lg_entry_eq]
  generalize (lg_sl ([.ref (ad 0), .int a0, .int a1, .int a2] : List Value) ++ List.replicate (4 - (lg_sl ([.ref (ad 0), .int a0, .int a1, .int a2] : List Value)).length) Slot.unset).toArray = ls at hl ⊢
  have hl : lv_has ls 4 [(0, .ref (ad 0)), (1, .int a0), (2, .int a1), (3, .int a2)] := hl
  refine lv_iload_n hx hb dX2_source_0 rfl (lv_at hl 1 rfl) ?_
  refine ro_i (va_runS ⟨hx, hb, hml, hown, hts⟩ (c_X2_isStream l ) (va_cwS 1 hts gX2_source_X2_isStream rfl rfl rfl kd_X2_isStream ⟨Nat.le_of_ble_eq_true rfl, Nat.le_of_ble_eq_true rfl⟩) preS0 rfl rfl hl.1 rfl (lv_room (Nat.le_of_ble_eq_true rfl)) dX2_source_1 ⟨Nat.zero_le _, Nat.zero_le _⟩) ?_
  refine lv_if_ne (tgt := 10) hx hb dX2_source_4 (by decide) (fun c_4 => ?_) (fun c_4 => ?_)
  · skip
    have c_4 := bI_ne.mp c_4
    refine lv_iload_n hx hb dX2_source_10 rfl (lv_at hl 2 rfl) ?_
    refine ro_i (va_runS ⟨hx, hb, hml, hown, hts⟩ (c_X2_isSource l ) (va_cwS 1 hts gX2_source_X2_isSource rfl rfl rfl kd_X2_isSource ⟨Nat.le_of_ble_eq_true rfl, Nat.le_of_ble_eq_true rfl⟩) preS0 rfl rfl hl.1 rfl (lv_room (Nat.le_of_ble_eq_true rfl)) dX2_source_11 ⟨Nat.zero_le _, Nat.zero_le _⟩) ?_
    refine lv_if_eq (tgt := 25) hx hb dX2_source_14 (by decide) (fun c_14 => ?_) (fun c_14 => ?_)
    · skip
      have c_14 := bI_eq.mp c_14
      have h2 : ¬ (srcs a1 ∧ (0 ≤ a2 ∧ a2 ≤ ln)) := fun h => c_14 h.1
      refine lv_bipush (v := (-102)) hx hb dX2_source_25 (by decide) ?_
      simp only [o_source, if_pos c_4, if_neg h2]
      exact W.iret hx hb hr (fun t ht _ => ⟨⟨_, (), rfl, rfl, wpost ht hP⟩, hS.F ht⟩) hS.2.2 dX2_source_27
    · skip
      have c_14 := bI_ne.mp c_14
      refine lv_aload_n hx hb dX2_source_17 rfl (lv_at hl 0 rfl) ?_
      refine lv_iload_n hx hb dX2_source_18 rfl (lv_at hl 3 rfl) ?_
      refine ro_i (va_runV ⟨hx, hb, hml, hown, hts⟩ (c_X2_isValue l ) (cwV 1 hts gX2_source_X2_isValue rfl rfl rfl ⟨rfl, kd_X2_isValue⟩ ⟨Nat.le_of_ble_eq_true rfl, Nat.le_of_ble_eq_true rfl⟩) (preV1 hnw hK hP 0 2 rfl rfl) rfl rfl hl.1 rfl (lv_room (Nat.le_of_ble_eq_true rfl)) dX2_source_19 ⟨Nat.zero_le _, Nat.zero_le _⟩) ?_
      refine lv_if_ne (tgt := 28) hx hb dX2_source_22 (by decide) (fun c_22 => ?_) (fun c_22 => ?_)
      · skip
        have c_22 := bI_ne.mp c_22
        have h2 : srcs a1 ∧ (0 ≤ a2 ∧ a2 ≤ ln) := ⟨c_14, c_22⟩
        refine lv_aload_n hx hb dX2_source_28 rfl (lv_at hl 0 rfl) ?_
        refine lv_iload_n hx hb dX2_source_29 rfl (lv_at hl 1 rfl) ?_
        refine lv_aload_n hx hb dX2_source_30 rfl (lv_at hl 0 rfl) ?_
        refine va_get (D := (dC, dI)) (ci := 2) (C := RX2) (T := TX2) (N := 10) hx hb hts inX2 hown hK hP 0 rfl rfl 0 (by decide) hw0 (fun _ h9 => h9) rfl dX2_source_31 ?_
        refine lv_iload_n hx hb dX2_source_34 rfl (lv_at hl 2 rfl) ?_
        refine lv_iload_n hx hb dX2_source_35 rfl (lv_at hl 3 rfl) ?_
        refine ro_l (va_runVN ⟨hx, hb, hml, hown, hts⟩ (c_X1_ofSource l ) ⟨va_cnB 2 hts gX2_source_X1_ofSource_n66 rfl rfl rfl (hnw.at 7 rfl) hw1 kd_X1_ofSource ⟨Nat.le_of_ble_eq_true rfl, Nat.le_of_ble_eq_true rfl⟩, hw2, hw3⟩ (preV1 hnw hK hP 1 1 rfl rfl) rfl rfl hl.1 rfl (lv_room (Nat.le_of_ble_eq_true rfl)) dX2_source_36 ⟨Nat.zero_le _, Nat.zero_le _⟩) ?_
        refine wr_i (va_runV ⟨hx, hb, hml, hown, hts⟩ (c_X2_setStream l (strm_in c_4)) (cwV 2 hts gX2_source_X2_setStream rfl rfl rfl ⟨rfl, kd_X2_setStream⟩ ⟨Nat.le_of_ble_eq_true rfl, Nat.le_of_ble_eq_true rfl⟩) (preV2 hnw hK hP hD 0 2 rfl rfl) rfl rfl hl.1 rfl (lv_room (Nat.le_of_ble_eq_true rfl)) dX2_source_39 ⟨Nat.zero_le _, Nat.zero_le _⟩) hD hS hA (fun _ => rfl) (fun r_39 u_39 H locs h_39 hP hD hS => ?_)
        have hP : va_P (dC, dI) vwCl (xw ad cI cJ ln fg dg sc ms mi mv mw _ fr sr pa nu) H := hP
        have hD : va_D A (xw ad cI cJ ln fg dg sc ms mi mv mw _ fr sr pa nu) := va_D_addr hD rfl
        subst h_39
        simp only [o_source, if_pos c_4, if_pos h2, o_set]
        exact W.iret hx hb hr (fun t ht _ => ⟨⟨_, (), rfl, rfl, wpost ht hP⟩, hS.F ht⟩) hS.2.2 dX2_source_42
      · skip
        have c_22 := bI_eq.mp c_22
        have h2 : ¬ (srcs a1 ∧ (0 ≤ a2 ∧ a2 ≤ ln)) := fun h => c_22 h.2
        refine lv_bipush (v := (-102)) hx hb dX2_source_25 (by decide) ?_
        simp only [o_source, if_pos c_4, if_neg h2]
        exact W.iret hx hb hr (fun t ht _ => ⟨⟨_, (), rfl, rfl, wpost ht hP⟩, hS.F ht⟩) hS.2.2 dX2_source_27
  · skip
    have c_4 := bI_eq.mp c_4
    refine lv_bipush (v := (-101)) hx hb dX2_source_7 (by decide) ?_
    simp only [o_source, if_neg c_4]
    exact W.iret hx hb hr (fun t ht _ => ⟨⟨_, (), rfl, rfl, wpost ht hP⟩, hS.F ht⟩) hS.2.2 dX2_source_9
theorem kd_X2_put : yX2_put.cls ≠ "java/lang/invoke/MethodHandle" ∧ yX2_put.cls ≠ "java/lang/invoke/VarHandle" ∧ (parseMethodDescriptor yX2_put.desc).map (fun d => d.parameters.length) = some 3 := by decide +kernel
set_option maxHeartbeats 4000000 in
set_option maxRecDepth 100000 in
theorem c_X2_put (l : Launch) {dC : Nat → ClassId} {dI : Nat → Nat → Nat} {ad : Nat → Nat} {cI cJ : ClassId} {ln : Int32} {fg : Int32} {dg : Int32} {sc : Int32} {ms : Int32} {mi : Int32} {mv : Int32} {mw : Int32} {st : (Nat → Int64)} {fr : (Nat → Int64)} {sr : (Nat → Int64)} {pa : (Nat → Int64)} {nu : (Nat → Int32)} {sz : Nat} {a0 a1 a2 : Int32} : Met l yX2_put wsX2_put ({ frames := 2, cells := 0, slots := 0, locals := 43 }) (va_Pc ([.ref (ad 0), .int a0, .int a1, .int a2] : List Value) (gW sz (dC, dI) (tyw cI cJ) (xw ad cI cJ ln fg dg sc ms mi mv mw st fr sr pa nu))) (va_Qi (fun r (_u : Unit) => r = (o_put ln st a0 a1 a2).1) (fun _u t => va_P (dC, dI) vwCl (xw ad cI cJ ln fg dg sc ms mi mv mw (o_put ln st a0 a1 a2).2 fr sr pa nu) t.heap) (va_A (xw ad cI cJ ln fg dg sc ms mi mv mw st fr sr pa nu) sz)) 0 0 (va_A (xw ad cI cJ ln fg dg sc ms mi mv mw st fr sr pa nu) sz) := by
  refine Met.ofW (cc := cX2_put) (maxL := 7) (ret := (some .int)) (by decide) rfl ?_
  intro p e s m args below meth c s₁ B hml hv
  obtain ⟨rfl, hsz, ⟨hnw, hK, hP⟩, hD0⟩ := hv
  have hx := B.exec
  have hb := B.bytes
  have hr := B.returns
  have hts := atoms_spec (ws := wsX2_put) B.pre
  have hown : s.vm.findClass RX2 = some m.cls := findClass_of_methodNamed B.named
  have hlocks := B.notSynchronized
  subst hsz
  have hD := hD0.self (sz := s.heap.size)
  generalize hAe : va_A (xw ad cI cJ ln fg dg sc ms mi mv mw st fr sr pa nu) s.heap.size = A at hD ⊢
  have hA : ∀ q : Nat, s.heap.size ≤ q → A q := fun q h => by rw [← hAe]; exact Or.inr h
  have hS : va_S A s.heap s.heap [] := va_S.rf
  have hw0 := hts (.fieldLink RX2 23 "BitStreams" "streams" "[J") (by decide +kernel)
  have hw1 := hts (.constantLong RX2 81 (-1)) (by decide +kernel)
  have inX2 : ∀ w ∈ wsX20, w ∈ wsX2_put := by decide +kernel
  have hl := lv_entry ([.ref (ad 0), .int a0, .int a1, .int a2] : List Value) (n := 7) (Nat.le_of_ble_eq_true rfl)
  rw [lg_entry_eq]
  generalize (lg_sl ([.ref (ad 0), .int a0, .int a1, .int a2] : List Value) ++ List.replicate (7 - (lg_sl ([.ref (ad 0), .int a0, .int a1, .int a2] : List Value)).length) Slot.unset).toArray = ls at hl ⊢
  have hl : lv_has ls 7 [(0, .ref (ad 0)), (1, .int a0), (2, .int a1), (3, .int a2)] := hl
  refine lv_iload_n hx hb dX2_put_0 rfl (lv_at hl 1 rfl) ?_
  refine ro_i (va_runS ⟨hx, hb, hml, hown, hts⟩ (c_X2_isStream l ) (va_cwS 1 hts gX2_put_X2_isStream rfl rfl rfl kd_X2_isStream ⟨Nat.le_of_ble_eq_true rfl, Nat.le_of_ble_eq_true rfl⟩) preS0 rfl rfl hl.1 rfl (lv_room (Nat.le_of_ble_eq_true rfl)) dX2_put_1 ⟨Nat.zero_le _, Nat.zero_le _⟩) ?_
  refine lv_if_eq (tgt := 15) hx hb dX2_put_4 (by decide) (fun c_4 => ?_) (fun c_4 => ?_)
  · skip
    have c_4 := bI_eq.mp c_4
    have hC : ¬ (strm a0 ∧ (0 ≤ a1 ∧ a1 ≤ ln - 1)) := fun h => c_4 h.1
    refine lv_bipush (v := (-101)) hx hb dX2_put_15 (by decide) ?_
    simp only [o_put, if_neg hC]
    exact W.iret hx hb hr (fun t ht _ => ⟨⟨_, (), rfl, rfl, wpost ht hP⟩, hS.F ht⟩) hS.2.2 dX2_put_17
  · skip
    have c_4 := bI_ne.mp c_4
    refine lv_aload_n hx hb dX2_put_7 rfl (lv_at hl 0 rfl) ?_
    refine lv_iload_n hx hb dX2_put_8 rfl (lv_at hl 2 rfl) ?_
    refine ro_i (va_runV ⟨hx, hb, hml, hown, hts⟩ (c_X2_isBit l ) (cwV 1 hts gX2_put_X2_isBit rfl rfl rfl ⟨rfl, kd_X2_isBit⟩ ⟨Nat.le_of_ble_eq_true rfl, Nat.le_of_ble_eq_true rfl⟩) (preV1 hnw hK hP 0 2 rfl rfl) rfl rfl hl.1 rfl (lv_room (Nat.le_of_ble_eq_true rfl)) dX2_put_9 ⟨Nat.zero_le _, Nat.zero_le _⟩) ?_
    refine lv_if_ne (tgt := 18) hx hb dX2_put_12 (by decide) (fun c_12 => ?_) (fun c_12 => ?_)
    · skip
      have c_12 := bI_ne.mp c_12
      have hC : strm a0 ∧ (0 ≤ a1 ∧ a1 ≤ ln - 1) := ⟨c_4, c_12⟩
      refine lv_aload_n hx hb dX2_put_18 rfl (lv_at hl 0 rfl) ?_
      refine va_get (D := (dC, dI)) (ci := 2) (C := RX2) (T := TX2) (N := 10) hx hb hts inX2 hown hK hP 0 rfl rfl 2 (by decide) hw0 (fun _ h9 => h9) rfl dX2_put_19 ?_
      refine lv_iload_n hx hb dX2_put_22 rfl (lv_at hl 1 rfl) ?_
      refine va_lald hx hb hK hP 3 1 rfl rfl (strm_in c_4) dX2_put_23 ?_
      refine lv_iload_n hx hb dX2_put_24 rfl (lv_at hl 2 rfl) ?_
      refine ro_i (va_runS ⟨hx, hb, hml, hown, hts⟩ (c_X2_bitOf l ) (va_cwS 2 hts gX2_put_X2_bitOf rfl rfl rfl kd_X2_bitOf ⟨Nat.le_of_ble_eq_true rfl, Nat.le_of_ble_eq_true rfl⟩) preS0 rfl rfl hl.1 rfl (lv_room (Nat.le_of_ble_eq_true rfl)) dX2_put_25 ⟨Nat.zero_le _, Nat.zero_le _⟩) ?_
      refine lv_istore (lv' := [(4, .int _), (0, .ref _), (1, .int _), (2, .int _), (3, .int _)]) hx hb dX2_put_28 hl (by decide) rfl (fun ls hl => ?_)
      refine lv_lconst (v := 1) hx hb dX2_put_30 (by decide) ?_
      refine lv_iload_n hx hb dX2_put_31 rfl (lv_at hl 3 rfl) ?_
      refine lv_lshl hx hb dX2_put_32 rfl ?_
      refine lv_lstore (lv' := [(5, .long _), (4, .int _), (0, .ref _), (1, .int _), (2, .int _), (3, .int _)]) hx hb dX2_put_33 hl (by decide) rfl (fun ls hl => ?_)
      refine lv_aload_n hx hb dX2_put_35 rfl (lv_at hl 2 rfl) ?_
      refine va_get (D := (dC, dI)) (ci := 2) (C := RX2) (T := TX2) (N := 10) hx hb hts inX2 hown hK hP 0 rfl rfl 2 (by decide) hw0 (fun _ h9 => h9) rfl dX2_put_36 ?_
      refine lv_iload_n hx hb dX2_put_39 rfl (lv_at hl 3 rfl) ?_
      refine lv_iload_n hx hb dX2_put_40 rfl (lv_at hl 5 rfl) ?_
      refine lv_if_eq (tgt := 56) hx hb dX2_put_41 (by decide) (fun c_41 => ?_) (fun c_41 => ?_)
      · skip
        have hq : ∀ x y : Int64, (if a2 = 0 then x else y) = x := fun x y => if_pos c_41
        refine lv_aload_n hx hb dX2_put_56 rfl (lv_at hl 2 rfl) ?_
        refine va_get (D := (dC, dI)) (ci := 2) (C := RX2) (T := TX2) (N := 10) hx hb hts inX2 hown hK hP 0 rfl rfl 2 (by decide) hw0 (fun _ h9 => h9) rfl dX2_put_57 ?_
        refine lv_iload_n hx hb dX2_put_60 rfl (lv_at hl 3 rfl) ?_
        refine va_lald hx hb hK hP 3 1 rfl rfl (strm_in c_4) dX2_put_61 ?_
        refine lv_lload hx hb dX2_put_62 (lv_at hl 0 rfl) ?_
        refine lv_ldc2 (v := (-1)) hx hb hown hw1 dX2_put_64 ?_
        refine lv_lxor hx hb dX2_put_67 ?_
        refine lv_land hx hb dX2_put_68 ?_
        refine va_last hx hb hK hP hD hS 3 1 rfl rfl (strm_in c_4) dX2_put_69 (fun H locs hP hD hS => ?_)
        have hP : va_P (dC, dI) vwCl (xw ad cI cJ ln fg dg sc ms mi mv mw _ fr sr pa nu) H := hP
        have hD : va_D A (xw ad cI cJ ln fg dg sc ms mi mv mw _ fr sr pa nu) := va_D_addr hD rfl
        refine lv_iload hx hb dX2_put_70 (lv_at hl 1 rfl) ?_
        simp only [o_put, if_pos hC, hq]
        exact W.iret hx hb hr (fun t ht _ => ⟨⟨_, (), rfl, rfl, wpost ht hP⟩, hS.F ht⟩) hS.2.2 dX2_put_72
      · skip
        have hq : ∀ x y : Int64, (if a2 = 0 then x else y) = y := fun x y => if_neg c_41
        refine lv_aload_n hx hb dX2_put_44 rfl (lv_at hl 2 rfl) ?_
        refine va_get (D := (dC, dI)) (ci := 2) (C := RX2) (T := TX2) (N := 10) hx hb hts inX2 hown hK hP 0 rfl rfl 2 (by decide) hw0 (fun _ h9 => h9) rfl dX2_put_45 ?_
        refine lv_iload_n hx hb dX2_put_48 rfl (lv_at hl 3 rfl) ?_
        refine va_lald hx hb hK hP 3 1 rfl rfl (strm_in c_4) dX2_put_49 ?_
        refine lv_lload hx hb dX2_put_50 (lv_at hl 0 rfl) ?_
        refine lv_lor hx hb dX2_put_52 ?_
        refine lv_goto (tgt := 69) hx hb dX2_put_53 (by decide) ?_
        refine va_last hx hb hK hP hD hS 3 1 rfl rfl (strm_in c_4) dX2_put_69 (fun H locs hP hD hS => ?_)
        have hP : va_P (dC, dI) vwCl (xw ad cI cJ ln fg dg sc ms mi mv mw _ fr sr pa nu) H := hP
        have hD : va_D A (xw ad cI cJ ln fg dg sc ms mi mv mw _ fr sr pa nu) := va_D_addr hD rfl
        refine lv_iload hx hb dX2_put_70 (lv_at hl 1 rfl) ?_
        simp only [o_put, if_pos hC, hq]
        exact W.iret hx hb hr (fun t ht _ => ⟨⟨_, (), rfl, rfl, wpost ht hP⟩, hS.F ht⟩) hS.2.2 dX2_put_72
    · skip
      have c_12 := bI_eq.mp c_12
      have hC : ¬ (strm a0 ∧ (0 ≤ a1 ∧ a1 ≤ ln - 1)) := fun h => c_12 h.2
      refine lv_bipush (v := (-101)) hx hb dX2_put_15 (by decide) ?_
      simp only [o_put, if_neg hC]
      exact W.iret hx hb hr (fun t ht _ => ⟨⟨_, (), rfl, rfl, wpost ht hP⟩, hS.F ht⟩) hS.2.2 dX2_put_17
theorem kd_X2_bit : yX2_bit.cls ≠ "java/lang/invoke/MethodHandle" ∧ yX2_bit.cls ≠ "java/lang/invoke/VarHandle" ∧ (parseMethodDescriptor yX2_bit.desc).map (fun d => d.parameters.length) = some 2 := by decide +kernel
set_option maxHeartbeats 4000000 in
set_option maxRecDepth 100000 in
theorem c_X2_bit (l : Launch) {dC : Nat → ClassId} {dI : Nat → Nat → Nat} {ad : Nat → Nat} {cI cJ : ClassId} {ln : Int32} {fg : Int32} {dg : Int32} {sc : Int32} {ms : Int32} {mi : Int32} {mv : Int32} {mw : Int32} {st : (Nat → Int64)} {fr : (Nat → Int64)} {sr : (Nat → Int64)} {pa : (Nat → Int64)} {nu : (Nat → Int32)} {a0 a1 : Int32} : Met l yX2_bit wsX2_bit ({ frames := 2, cells := 0, slots := 0, locals := 43 }) (va_Pc ([.ref (ad 0), .int a0, .int a1] : List Value) (gB (dC, dI) (tyw cI cJ) (xw ad cI cJ ln fg dg sc ms mi mv mw st fr sr pa nu))) (QcRead (o_bit ln st a0 a1)) 0 0 (fun _ => False) := by
  refine Met.ofW (cc := cX2_bit) (maxL := 3) (ret := (some .int)) (by decide) rfl ?_
  intro p e s m args below meth c s₁ B hml hv
  obtain ⟨rfl, hnw, hK, hP⟩ := hv
  have hx := B.exec
  have hb := B.bytes
  have hr := B.returns
  have hts := atoms_spec (ws := wsX2_bit) B.pre
  have hown : s.vm.findClass RX2 = some m.cls := findClass_of_methodNamed B.named
  have hlocks := B.notSynchronized
  have hw0 := hts (.fieldLink RX2 23 "BitStreams" "streams" "[J") (by decide +kernel)
  have inX2 : ∀ w ∈ wsX20, w ∈ wsX2_bit := by decide +kernel
  have hl := lv_entry ([.ref (ad 0), .int a0, .int a1] : List Value) (n := 3) (Nat.le_of_ble_eq_true rfl)
  rw [lg_entry_eq]
  generalize (lg_sl ([.ref (ad 0), .int a0, .int a1] : List Value) ++ List.replicate (3 - (lg_sl ([.ref (ad 0), .int a0, .int a1] : List Value)).length) Slot.unset).toArray = ls at hl ⊢
  have hl : lv_has ls 3 [(0, .ref (ad 0)), (1, .int a0), (2, .int a1)] := hl
  refine lv_iload_n hx hb dX2_bit_0 rfl (lv_at hl 1 rfl) ?_
  refine ro_i (va_runS ⟨hx, hb, hml, hown, hts⟩ (c_X2_isStream l ) (va_cwS 1 hts gX2_bit_X2_isStream rfl rfl rfl kd_X2_isStream ⟨Nat.le_of_ble_eq_true rfl, Nat.le_of_ble_eq_true rfl⟩) preS0 rfl rfl hl.1 rfl (lv_room (Nat.le_of_ble_eq_true rfl)) dX2_bit_1 ⟨Nat.zero_le _, Nat.zero_le _⟩) ?_
  refine lv_if_eq (tgt := 15) hx hb dX2_bit_4 (by decide) (fun c_4 => ?_) (fun c_4 => ?_)
  · skip
    have c_4 := bI_eq.mp c_4
    have hC : ¬ (strm a0 ∧ (0 ≤ a1 ∧ a1 ≤ ln - 1)) := fun h => c_4 h.1
    refine lv_bipush (v := (-101)) hx hb dX2_bit_15 (by decide) ?_
    exact W.iret hx hb hr (fun t ht _ => ri (by simp only [o_bit, if_neg hC]) ht) no_locs dX2_bit_17
  · skip
    have c_4 := bI_ne.mp c_4
    refine lv_aload_n hx hb dX2_bit_7 rfl (lv_at hl 0 rfl) ?_
    refine lv_iload_n hx hb dX2_bit_8 rfl (lv_at hl 2 rfl) ?_
    refine ro_i (va_runV ⟨hx, hb, hml, hown, hts⟩ (c_X2_isBit l ) (cwV 1 hts gX2_bit_X2_isBit rfl rfl rfl ⟨rfl, kd_X2_isBit⟩ ⟨Nat.le_of_ble_eq_true rfl, Nat.le_of_ble_eq_true rfl⟩) (preV1 hnw hK hP 0 2 rfl rfl) rfl rfl hl.1 rfl (lv_room (Nat.le_of_ble_eq_true rfl)) dX2_bit_9 ⟨Nat.zero_le _, Nat.zero_le _⟩) ?_
    refine lv_if_ne (tgt := 18) hx hb dX2_bit_12 (by decide) (fun c_12 => ?_) (fun c_12 => ?_)
    · skip
      have c_12 := bI_ne.mp c_12
      have hC : strm a0 ∧ (0 ≤ a1 ∧ a1 ≤ ln - 1) := ⟨c_4, c_12⟩
      refine lv_aload_n hx hb dX2_bit_18 rfl (lv_at hl 0 rfl) ?_
      refine va_get (D := (dC, dI)) (ci := 2) (C := RX2) (T := TX2) (N := 10) hx hb hts inX2 hown hK hP 0 rfl rfl 2 (by decide) hw0 (fun _ h9 => h9) rfl dX2_bit_19 ?_
      refine lv_iload_n hx hb dX2_bit_22 rfl (lv_at hl 1 rfl) ?_
      refine va_lald hx hb hK hP 3 1 rfl rfl (strm_in c_4) dX2_bit_23 ?_
      refine lv_iload_n hx hb dX2_bit_24 rfl (lv_at hl 2 rfl) ?_
      refine ro_i (va_runS ⟨hx, hb, hml, hown, hts⟩ (c_X2_bitOf l ) (va_cwS 2 hts gX2_bit_X2_bitOf rfl rfl rfl kd_X2_bitOf ⟨Nat.le_of_ble_eq_true rfl, Nat.le_of_ble_eq_true rfl⟩) preS0 rfl rfl hl.1 rfl (lv_room (Nat.le_of_ble_eq_true rfl)) dX2_bit_25 ⟨Nat.zero_le _, Nat.zero_le _⟩) ?_
      exact W.iret hx hb hr (fun t ht _ => ri (by simp only [o_bit, if_pos hC]) ht) no_locs dX2_bit_28
    · skip
      have c_12 := bI_eq.mp c_12
      have hC : ¬ (strm a0 ∧ (0 ≤ a1 ∧ a1 ≤ ln - 1)) := fun h => c_12 h.2
      refine lv_bipush (v := (-101)) hx hb dX2_bit_15 (by decide) ?_
      exact W.iret hx hb hr (fun t ht _ => ri (by simp only [o_bit, if_neg hC]) ht) no_locs dX2_bit_17
theorem kd_X2_ones : yX2_ones.cls ≠ "java/lang/invoke/MethodHandle" ∧ yX2_ones.cls ≠ "java/lang/invoke/VarHandle" ∧ (parseMethodDescriptor yX2_ones.desc).map (fun d => d.parameters.length) = some 1 := by decide +kernel
set_option maxHeartbeats 4000000 in
set_option maxRecDepth 100000 in
theorem c_X2_ones (l : Launch) {dC : Nat → ClassId} {dI : Nat → Nat → Nat} {ad : Nat → Nat} {cI cJ : ClassId} {ln : Int32} {fg : Int32} {dg : Int32} {sc : Int32} {ms : Int32} {mi : Int32} {mv : Int32} {mw : Int32} {st : (Nat → Int64)} {fr : (Nat → Int64)} {sr : (Nat → Int64)} {pa : (Nat → Int64)} {nu : (Nat → Int32)} {a0 : Int32} : Met l yX2_ones wsX2_ones ({ frames := 2, cells := 0, slots := 0, locals := 42 }) (va_Pc ([.ref (ad 0), .int a0] : List Value) (gB (dC, dI) (tyw cI cJ) (xw ad cI cJ ln fg dg sc ms mi mv mw st fr sr pa nu))) (QcRead (o_ones st a0)) 0 0 (fun _ => False) := by
  refine Met.ofW (cc := cX2_ones) (maxL := 2) (ret := (some .int)) (by decide) rfl ?_
  intro p e s m args below meth c s₁ B hml hv
  obtain ⟨rfl, hnw, hK, hP⟩ := hv
  have hx := B.exec
  have hb := B.bytes
  have hr := B.returns
  have hts := atoms_spec (ws := wsX2_ones) B.pre
  have hown : s.vm.findClass RX2 = some m.cls := findClass_of_methodNamed B.named
  have hlocks := B.notSynchronized
  have hw0 := hts (.fieldLink RX2 23 "BitStreams" "streams" "[J") (by decide +kernel)
  have inX2 : ∀ w ∈ wsX20, w ∈ wsX2_ones := by decide +kernel
  have hl := lv_entry ([.ref (ad 0), .int a0] : List Value) (n := 2) (Nat.le_of_ble_eq_true rfl)
  rw [lg_entry_eq]
  generalize (lg_sl ([.ref (ad 0), .int a0] : List Value) ++ List.replicate (2 - (lg_sl ([.ref (ad 0), .int a0] : List Value)).length) Slot.unset).toArray = ls at hl ⊢
  have hl : lv_has ls 2 [(0, .ref (ad 0)), (1, .int a0)] := hl
  refine lv_iload_n hx hb dX2_ones_0 rfl (lv_at hl 1 rfl) ?_
  refine ro_i (va_runS ⟨hx, hb, hml, hown, hts⟩ (c_X2_isStream l ) (va_cwS 1 hts gX2_ones_X2_isStream rfl rfl rfl kd_X2_isStream ⟨Nat.le_of_ble_eq_true rfl, Nat.le_of_ble_eq_true rfl⟩) preS0 rfl rfl hl.1 rfl (lv_room (Nat.le_of_ble_eq_true rfl)) dX2_ones_1 ⟨Nat.zero_le _, Nat.zero_le _⟩) ?_
  refine lv_if_ne (tgt := 10) hx hb dX2_ones_4 (by decide) (fun c_4 => ?_) (fun c_4 => ?_)
  · skip
    have c_4 := bI_ne.mp c_4
    refine lv_aload_n hx hb dX2_ones_10 rfl (lv_at hl 0 rfl) ?_
    refine va_get (D := (dC, dI)) (ci := 2) (C := RX2) (T := TX2) (N := 10) hx hb hts inX2 hown hK hP 0 rfl rfl 2 (by decide) hw0 (fun _ h9 => h9) rfl dX2_ones_11 ?_
    refine lv_iload_n hx hb dX2_ones_14 rfl (lv_at hl 1 rfl) ?_
    refine va_lald hx hb hK hP 3 1 rfl rfl (strm_in c_4) dX2_ones_15 ?_
    refine ro_i (va_runS ⟨hx, hb, hml, hown, hts⟩ (c_J13_bitCount_95d88 l ) (va_cwS 1 hts gX2_ones_J13_bitCount_95d88 rfl rfl rfl kd_J13_bitCount_95d88 ⟨Nat.le_of_ble_eq_true rfl, Nat.le_of_ble_eq_true rfl⟩) preS0 rfl rfl hl.1 rfl (lv_room (Nat.le_of_ble_eq_true rfl)) dX2_ones_16 ⟨Nat.zero_le _, Nat.zero_le _⟩) ?_
    exact W.iret hx hb hr (fun t ht _ => ri (by simp only [o_ones, if_pos c_4]) ht) no_locs dX2_ones_19
  · skip
    have c_4 := bI_eq.mp c_4
    refine lv_bipush (v := (-101)) hx hb dX2_ones_7 (by decide) ?_
    exact W.iret hx hb hr (fun t ht _ => ri (by simp only [o_ones, if_neg c_4]) ht) no_locs dX2_ones_9
theorem kd_X2_gate : yX2_gate.cls ≠ "java/lang/invoke/MethodHandle" ∧ yX2_gate.cls ≠ "java/lang/invoke/VarHandle" ∧ (parseMethodDescriptor yX2_gate.desc).map (fun d => d.parameters.length) = some 5 := by decide +kernel
set_option maxHeartbeats 4000000 in
set_option maxRecDepth 100000 in
theorem c_X2_gate (l : Launch) {dC : Nat → ClassId} {dI : Nat → Nat → Nat} {ad : Nat → Nat} {cI cJ : ClassId} {ln : Int32} {fg : Int32} {dg : Int32} {sc : Int32} {ms : Int32} {mi : Int32} {mv : Int32} {mw : Int32} {st : (Nat → Int64)} {fr : (Nat → Int64)} {sr : (Nat → Int64)} {pa : (Nat → Int64)} {nu : (Nat → Int32)} {sz : Nat} {a0 a1 a2 a3 a4 : Int32} : Met l yX2_gate wsX2_gate ({ frames := 2, cells := 0, slots := 0, locals := 44 }) (va_Pc ([.ref (ad 0), .int a0, .int a1, .int a2, .int a3, .int a4] : List Value) (gW sz (dC, dI) (tyw cI cJ) (xw ad cI cJ ln fg dg sc ms mi mv mw st fr sr pa nu))) (va_Qi (fun r (_u : Unit) => r = (o_gate ln st a0 a1 a2 a3 a4).1) (fun _u t => va_P (dC, dI) vwCl (xw ad cI cJ ln fg dg sc ms mi mv mw (o_gate ln st a0 a1 a2 a3 a4).2 fr sr pa nu) t.heap) (va_A (xw ad cI cJ ln fg dg sc ms mi mv mw st fr sr pa nu) sz)) 0 0 (va_A (xw ad cI cJ ln fg dg sc ms mi mv mw st fr sr pa nu) sz) := by
  refine Met.ofW (cc := cX2_gate) (maxL := 6) (ret := (some .int)) (by decide) rfl ?_
  intro p e s m args below meth c s₁ B hml hv
  obtain ⟨rfl, hsz, ⟨hnw, hK, hP⟩, hD0⟩ := hv
  have hx := B.exec
  have hb := B.bytes
  have hr := B.returns
  have hts := atoms_spec (ws := wsX2_gate) B.pre
  have hown : s.vm.findClass RX2 = some m.cls := findClass_of_methodNamed B.named
  have hlocks := B.notSynchronized
  subst hsz
  have hD := hD0.self (sz := s.heap.size)
  generalize hAe : va_A (xw ad cI cJ ln fg dg sc ms mi mv mw st fr sr pa nu) s.heap.size = A at hD ⊢
  have hA : ∀ q : Nat, s.heap.size ≤ q → A q := fun q h => by rw [← hAe]; exact Or.inr h
  have hS : va_S A s.heap s.heap [] := va_S.rf
  have hw0 := hts (.fieldLink RX2 23 "BitStreams" "streams" "[J") (by decide +kernel)
  have inX2 : ∀ w ∈ wsX20, w ∈ wsX2_gate := by decide +kernel
  have hl := lv_entry ([.ref (ad 0), .int a0, .int a1, .int a2, .int a3, .int a4] : List Value) (n := 6) (Nat.le_of_ble_eq_true rfl)
  rw [lg_entry_eq]
  generalize (lg_sl ([.ref (ad 0), .int a0, .int a1, .int a2, .int a3, .int a4] : List Value) ++ List.replicate (6 - (lg_sl ([.ref (ad 0), .int a0, .int a1, .int a2, .int a3, .int a4] : List Value)).length) Slot.unset).toArray = ls at hl ⊢
  have hl : lv_has ls 6 [(0, .ref (ad 0)), (1, .int a0), (2, .int a1), (3, .int a2), (4, .int a3), (5, .int a4)] := hl
  refine lv_iload_n hx hb dX2_gate_0 rfl (lv_at hl 1 rfl) ?_
  refine lv_iconst (v := 0) hx hb dX2_gate_1 (by decide) ?_
  refine lv_bipush (v := 6) hx hb dX2_gate_2 (by decide) ?_
  refine ro_i (va_runS ⟨hx, hb, hml, hown, hts⟩ (c_X2_isWithin l ) (va_cwS 3 hts gX2_gate_X2_isWithin rfl rfl rfl kd_X2_isWithin ⟨Nat.le_of_ble_eq_true rfl, Nat.le_of_ble_eq_true rfl⟩) preS0 rfl rfl hl.1 rfl (lv_room (Nat.le_of_ble_eq_true rfl)) dX2_gate_4 ⟨Nat.zero_le _, Nat.zero_le _⟩) ?_
  refine lv_if_ne (tgt := 13) hx hb dX2_gate_7 (by decide) (fun c_7 => ?_) (fun c_7 => ?_)
  · skip
    have c_7 := bI_ne.mp c_7
    refine lv_iload hx hb dX2_gate_13 (lv_at hl 5 rfl) ?_
    refine ro_i (va_runS ⟨hx, hb, hml, hown, hts⟩ (c_X2_isStream l ) (va_cwS 1 hts gX2_gate_X2_isStream rfl rfl rfl kd_X2_isStream ⟨Nat.le_of_ble_eq_true rfl, Nat.le_of_ble_eq_true rfl⟩) preS0 rfl rfl hl.1 rfl (lv_room (Nat.le_of_ble_eq_true rfl)) dX2_gate_15 ⟨Nat.zero_le _, Nat.zero_le _⟩) ?_
    refine lv_if_eq (tgt := 35) hx hb dX2_gate_18 (by decide) (fun c_18 => ?_) (fun c_18 => ?_)
    · skip
      have c_18 := bI_eq.mp c_18
      have hC : ¬ (strm a4 ∧ strm a1 ∧ strm a2 ∧ (a0 = 5 ∨ a0 = 6 → strm a3)) := fun h => c_18 h.1
      refine lv_bipush (v := (-101)) hx hb dX2_gate_35 (by decide) ?_
      simp only [o_gate, if_pos c_7, if_neg hC]
      exact W.iret hx hb hr (fun t ht _ => ⟨⟨_, (), rfl, rfl, wpost ht hP⟩, hS.F ht⟩) hS.2.2 dX2_gate_37
    · skip
      have c_18 := bI_ne.mp c_18
      refine lv_iload_n hx hb dX2_gate_21 rfl (lv_at hl 2 rfl) ?_
      refine ro_i (va_runS ⟨hx, hb, hml, hown, hts⟩ (c_X2_isStream l ) (va_cwS 1 hts gX2_gate_X2_isStream rfl rfl rfl kd_X2_isStream ⟨Nat.le_of_ble_eq_true rfl, Nat.le_of_ble_eq_true rfl⟩) preS0 rfl rfl hl.1 rfl (lv_room (Nat.le_of_ble_eq_true rfl)) dX2_gate_22 ⟨Nat.zero_le _, Nat.zero_le _⟩) ?_
      refine lv_if_eq (tgt := 35) hx hb dX2_gate_25 (by decide) (fun c_25 => ?_) (fun c_25 => ?_)
      · skip
        have c_25 := bI_eq.mp c_25
        have hC : ¬ (strm a4 ∧ strm a1 ∧ strm a2 ∧ (a0 = 5 ∨ a0 = 6 → strm a3)) := fun h => c_25 h.2.1
        refine lv_bipush (v := (-101)) hx hb dX2_gate_35 (by decide) ?_
        simp only [o_gate, if_pos c_7, if_neg hC]
        exact W.iret hx hb hr (fun t ht _ => ⟨⟨_, (), rfl, rfl, wpost ht hP⟩, hS.F ht⟩) hS.2.2 dX2_gate_37
      · skip
        have c_25 := bI_ne.mp c_25
        refine lv_iload_n hx hb dX2_gate_28 rfl (lv_at hl 3 rfl) ?_
        refine ro_i (va_runS ⟨hx, hb, hml, hown, hts⟩ (c_X2_isStream l ) (va_cwS 1 hts gX2_gate_X2_isStream rfl rfl rfl kd_X2_isStream ⟨Nat.le_of_ble_eq_true rfl, Nat.le_of_ble_eq_true rfl⟩) preS0 rfl rfl hl.1 rfl (lv_room (Nat.le_of_ble_eq_true rfl)) dX2_gate_29 ⟨Nat.zero_le _, Nat.zero_le _⟩) ?_
        refine lv_if_ne (tgt := 38) hx hb dX2_gate_32 (by decide) (fun c_32 => ?_) (fun c_32 => ?_)
        · skip
          have c_32 := bI_ne.mp c_32
          refine lv_iload_n hx hb dX2_gate_38 rfl (lv_at hl 1 rfl) ?_
          refine lv_iconst (v := 5) hx hb dX2_gate_39 (by decide) ?_
          refine lv_icmp_eq (tgt := 73) hx hb dX2_gate_40 (by decide) (fun c_40 => ?_) (fun c_40 => ?_)
          · skip
            have hg : a0 = 5 ∨ a0 = 6 := Or.inl c_40
            refine lv_iload hx hb dX2_gate_73 (lv_at hl 4 rfl) ?_
            refine ro_i (va_runS ⟨hx, hb, hml, hown, hts⟩ (c_X2_isStream l ) (va_cwS 1 hts gX2_gate_X2_isStream rfl rfl rfl kd_X2_isStream ⟨Nat.le_of_ble_eq_true rfl, Nat.le_of_ble_eq_true rfl⟩) preS0 rfl rfl hl.1 rfl (lv_room (Nat.le_of_ble_eq_true rfl)) dX2_gate_75 ⟨Nat.zero_le _, Nat.zero_le _⟩) ?_
            refine lv_if_ne (tgt := 84) hx hb dX2_gate_78 (by decide) (fun c_78 => ?_) (fun c_78 => ?_)
            · skip
              have c_78 := bI_ne.mp c_78
              have hC : (strm a4 ∧ strm a1 ∧ strm a2 ∧ (a0 = 5 ∨ a0 = 6 → strm a3)) := ⟨c_18, c_25, c_32, fun _ => c_78⟩
              refine lv_aload_n hx hb dX2_gate_84 rfl (lv_at hl 0 rfl) ?_
              refine lv_iload hx hb dX2_gate_85 (lv_at hl 5 rfl) ?_
              refine lv_iload_n hx hb dX2_gate_87 rfl (lv_at hl 1 rfl) ?_
              refine lv_aload_n hx hb dX2_gate_88 rfl (lv_at hl 0 rfl) ?_
              refine va_get (D := (dC, dI)) (ci := 2) (C := RX2) (T := TX2) (N := 10) hx hb hts inX2 hown hK hP 0 rfl rfl 2 (by decide) hw0 (fun _ h9 => h9) rfl dX2_gate_89 ?_
              refine lv_iload_n hx hb dX2_gate_92 rfl (lv_at hl 2 rfl) ?_
              refine va_lald hx hb hK hP 3 1 rfl rfl (strm_in c_25) dX2_gate_93 ?_
              refine lv_aload_n hx hb dX2_gate_94 rfl (lv_at hl 0 rfl) ?_
              refine va_get (D := (dC, dI)) (ci := 2) (C := RX2) (T := TX2) (N := 10) hx hb hts inX2 hown hK hP 0 rfl rfl 2 (by decide) hw0 (fun _ h9 => h9) rfl dX2_gate_95 ?_
              refine lv_iload_n hx hb dX2_gate_98 rfl (lv_at hl 3 rfl) ?_
              refine va_lald hx hb hK hP 3 1 rfl rfl (strm_in c_32) dX2_gate_99 ?_
              refine lv_aload_n hx hb dX2_gate_100 rfl (lv_at hl 0 rfl) ?_
              refine va_get (D := (dC, dI)) (ci := 2) (C := RX2) (T := TX2) (N := 10) hx hb hts inX2 hown hK hP 0 rfl rfl 2 (by decide) hw0 (fun _ h9 => h9) rfl dX2_gate_101 ?_
              refine lv_iload hx hb dX2_gate_104 (lv_at hl 4 rfl) ?_
              refine va_lald hx hb hK hP 3 1 rfl rfl (strm_in c_78) dX2_gate_106 ?_
              refine ro_l (va_runS ⟨hx, hb, hml, hown, hts⟩ (c_X2_gated l ) (va_cwS 4 hts gX2_gate_X2_gated rfl rfl rfl kd_X2_gated ⟨Nat.le_of_ble_eq_true rfl, Nat.le_of_ble_eq_true rfl⟩) preS0 rfl rfl hl.1 rfl (lv_room (Nat.le_of_ble_eq_true rfl)) dX2_gate_107 ⟨Nat.zero_le _, Nat.zero_le _⟩) ?_
              refine wr_i (va_runV ⟨hx, hb, hml, hown, hts⟩ (c_X2_setStream l (strm_in c_18)) (cwV 2 hts gX2_gate_X2_setStream rfl rfl rfl ⟨rfl, kd_X2_setStream⟩ ⟨Nat.le_of_ble_eq_true rfl, Nat.le_of_ble_eq_true rfl⟩) (preV2 hnw hK hP hD 0 2 rfl rfl) rfl rfl hl.1 rfl (lv_room (Nat.le_of_ble_eq_true rfl)) dX2_gate_110 ⟨Nat.zero_le _, Nat.zero_le _⟩) hD hS hA (fun _ => rfl) (fun r_110 u_110 H locs h_110 hP hD hS => ?_)
              have hP : va_P (dC, dI) vwCl (xw ad cI cJ ln fg dg sc ms mi mv mw _ fr sr pa nu) H := hP
              have hD : va_D A (xw ad cI cJ ln fg dg sc ms mi mv mw _ fr sr pa nu) := va_D_addr hD rfl
              subst h_110
              simp only [o_gate, if_pos c_7, if_pos hC, if_pos hg, o_set]
              exact W.iret hx hb hr (fun t ht _ => ⟨⟨_, (), rfl, rfl, wpost ht hP⟩, hS.F ht⟩) hS.2.2 dX2_gate_113
            · skip
              have c_78 := bI_eq.mp c_78
              have hC : ¬ (strm a4 ∧ strm a1 ∧ strm a2 ∧ (a0 = 5 ∨ a0 = 6 → strm a3)) := fun h => c_78 (h.2.2.2 hg)
              refine lv_bipush (v := (-101)) hx hb dX2_gate_81 (by decide) ?_
              simp only [o_gate, if_pos c_7, if_neg hC]
              exact W.iret hx hb hr (fun t ht _ => ⟨⟨_, (), rfl, rfl, wpost ht hP⟩, hS.F ht⟩) hS.2.2 dX2_gate_83
          · skip
            refine lv_iload_n hx hb dX2_gate_43 rfl (lv_at hl 1 rfl) ?_
            refine lv_bipush (v := 6) hx hb dX2_gate_44 (by decide) ?_
            refine lv_icmp_eq (tgt := 73) hx hb dX2_gate_46 (by decide) (fun c_46 => ?_) (fun c_46 => ?_)
            · skip
              have hg : a0 = 5 ∨ a0 = 6 := Or.inr c_46
              refine lv_iload hx hb dX2_gate_73 (lv_at hl 4 rfl) ?_
              refine ro_i (va_runS ⟨hx, hb, hml, hown, hts⟩ (c_X2_isStream l ) (va_cwS 1 hts gX2_gate_X2_isStream rfl rfl rfl kd_X2_isStream ⟨Nat.le_of_ble_eq_true rfl, Nat.le_of_ble_eq_true rfl⟩) preS0 rfl rfl hl.1 rfl (lv_room (Nat.le_of_ble_eq_true rfl)) dX2_gate_75 ⟨Nat.zero_le _, Nat.zero_le _⟩) ?_
              refine lv_if_ne (tgt := 84) hx hb dX2_gate_78 (by decide) (fun c_78 => ?_) (fun c_78 => ?_)
              · skip
                have c_78 := bI_ne.mp c_78
                have hC : (strm a4 ∧ strm a1 ∧ strm a2 ∧ (a0 = 5 ∨ a0 = 6 → strm a3)) := ⟨c_18, c_25, c_32, fun _ => c_78⟩
                refine lv_aload_n hx hb dX2_gate_84 rfl (lv_at hl 0 rfl) ?_
                refine lv_iload hx hb dX2_gate_85 (lv_at hl 5 rfl) ?_
                refine lv_iload_n hx hb dX2_gate_87 rfl (lv_at hl 1 rfl) ?_
                refine lv_aload_n hx hb dX2_gate_88 rfl (lv_at hl 0 rfl) ?_
                refine va_get (D := (dC, dI)) (ci := 2) (C := RX2) (T := TX2) (N := 10) hx hb hts inX2 hown hK hP 0 rfl rfl 2 (by decide) hw0 (fun _ h9 => h9) rfl dX2_gate_89 ?_
                refine lv_iload_n hx hb dX2_gate_92 rfl (lv_at hl 2 rfl) ?_
                refine va_lald hx hb hK hP 3 1 rfl rfl (strm_in c_25) dX2_gate_93 ?_
                refine lv_aload_n hx hb dX2_gate_94 rfl (lv_at hl 0 rfl) ?_
                refine va_get (D := (dC, dI)) (ci := 2) (C := RX2) (T := TX2) (N := 10) hx hb hts inX2 hown hK hP 0 rfl rfl 2 (by decide) hw0 (fun _ h9 => h9) rfl dX2_gate_95 ?_
                refine lv_iload_n hx hb dX2_gate_98 rfl (lv_at hl 3 rfl) ?_
                refine va_lald hx hb hK hP 3 1 rfl rfl (strm_in c_32) dX2_gate_99 ?_
                refine lv_aload_n hx hb dX2_gate_100 rfl (lv_at hl 0 rfl) ?_
                refine va_get (D := (dC, dI)) (ci := 2) (C := RX2) (T := TX2) (N := 10) hx hb hts inX2 hown hK hP 0 rfl rfl 2 (by decide) hw0 (fun _ h9 => h9) rfl dX2_gate_101 ?_
                refine lv_iload hx hb dX2_gate_104 (lv_at hl 4 rfl) ?_
                refine va_lald hx hb hK hP 3 1 rfl rfl (strm_in c_78) dX2_gate_106 ?_
                refine ro_l (va_runS ⟨hx, hb, hml, hown, hts⟩ (c_X2_gated l ) (va_cwS 4 hts gX2_gate_X2_gated rfl rfl rfl kd_X2_gated ⟨Nat.le_of_ble_eq_true rfl, Nat.le_of_ble_eq_true rfl⟩) preS0 rfl rfl hl.1 rfl (lv_room (Nat.le_of_ble_eq_true rfl)) dX2_gate_107 ⟨Nat.zero_le _, Nat.zero_le _⟩) ?_
                refine wr_i (va_runV ⟨hx, hb, hml, hown, hts⟩ (c_X2_setStream l (strm_in c_18)) (cwV 2 hts gX2_gate_X2_setStream rfl rfl rfl ⟨rfl, kd_X2_setStream⟩ ⟨Nat.le_of_ble_eq_true rfl, Nat.le_of_ble_eq_true rfl⟩) (preV2 hnw hK hP hD 0 2 rfl rfl) rfl rfl hl.1 rfl (lv_room (Nat.le_of_ble_eq_true rfl)) dX2_gate_110 ⟨Nat.zero_le _, Nat.zero_le _⟩) hD hS hA (fun _ => rfl) (fun r_110 u_110 H locs h_110 hP hD hS => ?_)
                have hP : va_P (dC, dI) vwCl (xw ad cI cJ ln fg dg sc ms mi mv mw _ fr sr pa nu) H := hP
                have hD : va_D A (xw ad cI cJ ln fg dg sc ms mi mv mw _ fr sr pa nu) := va_D_addr hD rfl
                subst h_110
                simp only [o_gate, if_pos c_7, if_pos hC, if_pos hg, o_set]
                exact W.iret hx hb hr (fun t ht _ => ⟨⟨_, (), rfl, rfl, wpost ht hP⟩, hS.F ht⟩) hS.2.2 dX2_gate_113
              · skip
                have c_78 := bI_eq.mp c_78
                have hC : ¬ (strm a4 ∧ strm a1 ∧ strm a2 ∧ (a0 = 5 ∨ a0 = 6 → strm a3)) := fun h => c_78 (h.2.2.2 hg)
                refine lv_bipush (v := (-101)) hx hb dX2_gate_81 (by decide) ?_
                simp only [o_gate, if_pos c_7, if_neg hC]
                exact W.iret hx hb hr (fun t ht _ => ⟨⟨_, (), rfl, rfl, wpost ht hP⟩, hS.F ht⟩) hS.2.2 dX2_gate_83
            · skip
              have hg : ¬ (a0 = 5 ∨ a0 = 6) := fun h => h.elim c_40 c_46
              have hC : (strm a4 ∧ strm a1 ∧ strm a2 ∧ (a0 = 5 ∨ a0 = 6 → strm a3)) := ⟨c_18, c_25, c_32, fun h => absurd h hg⟩
              refine lv_aload_n hx hb dX2_gate_49 rfl (lv_at hl 0 rfl) ?_
              refine lv_iload hx hb dX2_gate_50 (lv_at hl 5 rfl) ?_
              refine lv_iload_n hx hb dX2_gate_52 rfl (lv_at hl 1 rfl) ?_
              refine lv_aload_n hx hb dX2_gate_53 rfl (lv_at hl 0 rfl) ?_
              refine va_get (D := (dC, dI)) (ci := 2) (C := RX2) (T := TX2) (N := 10) hx hb hts inX2 hown hK hP 0 rfl rfl 2 (by decide) hw0 (fun _ h9 => h9) rfl dX2_gate_54 ?_
              refine lv_iload_n hx hb dX2_gate_57 rfl (lv_at hl 2 rfl) ?_
              refine va_lald hx hb hK hP 3 1 rfl rfl (strm_in c_25) dX2_gate_58 ?_
              refine lv_aload_n hx hb dX2_gate_59 rfl (lv_at hl 0 rfl) ?_
              refine va_get (D := (dC, dI)) (ci := 2) (C := RX2) (T := TX2) (N := 10) hx hb hts inX2 hown hK hP 0 rfl rfl 2 (by decide) hw0 (fun _ h9 => h9) rfl dX2_gate_60 ?_
              refine lv_iload_n hx hb dX2_gate_63 rfl (lv_at hl 3 rfl) ?_
              refine va_lald hx hb hK hP 3 1 rfl rfl (strm_in c_32) dX2_gate_64 ?_
              refine lv_lconst (v := 0) hx hb dX2_gate_65 (by decide) ?_
              refine ro_l (va_runS ⟨hx, hb, hml, hown, hts⟩ (c_X2_gated l ) (va_cwS 4 hts gX2_gate_X2_gated rfl rfl rfl kd_X2_gated ⟨Nat.le_of_ble_eq_true rfl, Nat.le_of_ble_eq_true rfl⟩) preS0 rfl rfl hl.1 rfl (lv_room (Nat.le_of_ble_eq_true rfl)) dX2_gate_66 ⟨Nat.zero_le _, Nat.zero_le _⟩) ?_
              refine wr_i (va_runV ⟨hx, hb, hml, hown, hts⟩ (c_X2_setStream l (strm_in c_18)) (cwV 2 hts gX2_gate_X2_setStream rfl rfl rfl ⟨rfl, kd_X2_setStream⟩ ⟨Nat.le_of_ble_eq_true rfl, Nat.le_of_ble_eq_true rfl⟩) (preV2 hnw hK hP hD 0 2 rfl rfl) rfl rfl hl.1 rfl (lv_room (Nat.le_of_ble_eq_true rfl)) dX2_gate_69 ⟨Nat.zero_le _, Nat.zero_le _⟩) hD hS hA (fun _ => rfl) (fun r_69 u_69 H locs h_69 hP hD hS => ?_)
              have hP : va_P (dC, dI) vwCl (xw ad cI cJ ln fg dg sc ms mi mv mw _ fr sr pa nu) H := hP
              have hD : va_D A (xw ad cI cJ ln fg dg sc ms mi mv mw _ fr sr pa nu) := va_D_addr hD rfl
              subst h_69
              simp only [o_gate, if_pos c_7, if_pos hC, if_neg hg, o_set]
              exact W.iret hx hb hr (fun t ht _ => ⟨⟨_, (), rfl, rfl, wpost ht hP⟩, hS.F ht⟩) hS.2.2 dX2_gate_72
        · skip
          have c_32 := bI_eq.mp c_32
          have hC : ¬ (strm a4 ∧ strm a1 ∧ strm a2 ∧ (a0 = 5 ∨ a0 = 6 → strm a3)) := fun h => c_32 h.2.2.1
          refine lv_bipush (v := (-101)) hx hb dX2_gate_35 (by decide) ?_
          simp only [o_gate, if_pos c_7, if_neg hC]
          exact W.iret hx hb hr (fun t ht _ => ⟨⟨_, (), rfl, rfl, wpost ht hP⟩, hS.F ht⟩) hS.2.2 dX2_gate_37
  · skip
    have c_7 := bI_eq.mp c_7
    refine lv_bipush (v := (-102)) hx hb dX2_gate_10 (by decide) ?_
    simp only [o_gate, if_neg c_7]
    exact W.iret hx hb hr (fun t ht _ => ⟨⟨_, (), rfl, rfl, wpost ht hP⟩, hS.F ht⟩) hS.2.2 dX2_gate_12
theorem kd_X2_not : yX2_not.cls ≠ "java/lang/invoke/MethodHandle" ∧ yX2_not.cls ≠ "java/lang/invoke/VarHandle" ∧ (parseMethodDescriptor yX2_not.desc).map (fun d => d.parameters.length) = some 2 := by decide +kernel
set_option maxHeartbeats 4000000 in
set_option maxRecDepth 100000 in
theorem c_X2_not (l : Launch) {dC : Nat → ClassId} {dI : Nat → Nat → Nat} {ad : Nat → Nat} {cI cJ : ClassId} {ln : Int32} {fg : Int32} {dg : Int32} {sc : Int32} {ms : Int32} {mi : Int32} {mv : Int32} {mw : Int32} {st : (Nat → Int64)} {fr : (Nat → Int64)} {sr : (Nat → Int64)} {pa : (Nat → Int64)} {nu : (Nat → Int32)} {sz : Nat} {a0 a1 : Int32} : Met l yX2_not wsX2_not ({ frames := 2, cells := 0, slots := 0, locals := 44 }) (va_Pc ([.ref (ad 0), .int a0, .int a1] : List Value) (gW sz (dC, dI) (tyw cI cJ) (xw ad cI cJ ln fg dg sc ms mi mv mw st fr sr pa nu))) (va_Qi (fun r (_u : Unit) => r = (o_not ln st a0 a1).1) (fun _u t => va_P (dC, dI) vwCl (xw ad cI cJ ln fg dg sc ms mi mv mw (o_not ln st a0 a1).2 fr sr pa nu) t.heap) (va_A (xw ad cI cJ ln fg dg sc ms mi mv mw st fr sr pa nu) sz)) 0 0 (va_A (xw ad cI cJ ln fg dg sc ms mi mv mw st fr sr pa nu) sz) := by
  refine Met.ofW (cc := cX2_not) (maxL := 3) (ret := (some .int)) (by decide) rfl ?_
  intro p e s m args below meth c s₁ B hml hv
  obtain ⟨rfl, hsz, ⟨hnw, hK, hP⟩, hD0⟩ := hv
  have hx := B.exec
  have hb := B.bytes
  have hr := B.returns
  have hts := atoms_spec (ws := wsX2_not) B.pre
  have hown : s.vm.findClass RX2 = some m.cls := findClass_of_methodNamed B.named
  have hlocks := B.notSynchronized
  subst hsz
  have hD := hD0.self (sz := s.heap.size)
  generalize hAe : va_A (xw ad cI cJ ln fg dg sc ms mi mv mw st fr sr pa nu) s.heap.size = A at hD ⊢
  have hA : ∀ q : Nat, s.heap.size ≤ q → A q := fun q h => by rw [← hAe]; exact Or.inr h
  have hS : va_S A s.heap s.heap [] := va_S.rf
  have hw0 := hts (.fieldLink RX2 23 "BitStreams" "streams" "[J") (by decide +kernel)
  have hw1 := hts (.constantLong RX2 81 (-1)) (by decide +kernel)
  have inX2 : ∀ w ∈ wsX20, w ∈ wsX2_not := by decide +kernel
  have hl := lv_entry ([.ref (ad 0), .int a0, .int a1] : List Value) (n := 3) (Nat.le_of_ble_eq_true rfl)
  rw [lg_entry_eq]
  generalize (lg_sl ([.ref (ad 0), .int a0, .int a1] : List Value) ++ List.replicate (3 - (lg_sl ([.ref (ad 0), .int a0, .int a1] : List Value)).length) Slot.unset).toArray = ls at hl ⊢
  have hl : lv_has ls 3 [(0, .ref (ad 0)), (1, .int a0), (2, .int a1)] := hl
  refine lv_iload_n hx hb dX2_not_0 rfl (lv_at hl 1 rfl) ?_
  refine ro_i (va_runS ⟨hx, hb, hml, hown, hts⟩ (c_X2_isStream l ) (va_cwS 1 hts gX2_not_X2_isStream rfl rfl rfl kd_X2_isStream ⟨Nat.le_of_ble_eq_true rfl, Nat.le_of_ble_eq_true rfl⟩) preS0 rfl rfl hl.1 rfl (lv_room (Nat.le_of_ble_eq_true rfl)) dX2_not_1 ⟨Nat.zero_le _, Nat.zero_le _⟩) ?_
  refine lv_if_eq (tgt := 14) hx hb dX2_not_4 (by decide) (fun c_4 => ?_) (fun c_4 => ?_)
  · skip
    have c_4 := bI_eq.mp c_4
    have hC : ¬ (strm a0 ∧ strm a1) := fun h => c_4 h.1
    refine lv_bipush (v := (-101)) hx hb dX2_not_14 (by decide) ?_
    simp only [o_not, if_neg hC]
    exact W.iret hx hb hr (fun t ht _ => ⟨⟨_, (), rfl, rfl, wpost ht hP⟩, hS.F ht⟩) hS.2.2 dX2_not_16
  · skip
    have c_4 := bI_ne.mp c_4
    refine lv_iload_n hx hb dX2_not_7 rfl (lv_at hl 2 rfl) ?_
    refine ro_i (va_runS ⟨hx, hb, hml, hown, hts⟩ (c_X2_isStream l ) (va_cwS 1 hts gX2_not_X2_isStream rfl rfl rfl kd_X2_isStream ⟨Nat.le_of_ble_eq_true rfl, Nat.le_of_ble_eq_true rfl⟩) preS0 rfl rfl hl.1 rfl (lv_room (Nat.le_of_ble_eq_true rfl)) dX2_not_8 ⟨Nat.zero_le _, Nat.zero_le _⟩) ?_
    refine lv_if_ne (tgt := 17) hx hb dX2_not_11 (by decide) (fun c_11 => ?_) (fun c_11 => ?_)
    · skip
      have c_11 := bI_ne.mp c_11
      have hC : strm a0 ∧ strm a1 := ⟨c_4, c_11⟩
      refine lv_aload_n hx hb dX2_not_17 rfl (lv_at hl 0 rfl) ?_
      refine lv_iload_n hx hb dX2_not_18 rfl (lv_at hl 2 rfl) ?_
      refine lv_aload_n hx hb dX2_not_19 rfl (lv_at hl 0 rfl) ?_
      refine va_get (D := (dC, dI)) (ci := 2) (C := RX2) (T := TX2) (N := 10) hx hb hts inX2 hown hK hP 0 rfl rfl 2 (by decide) hw0 (fun _ h9 => h9) rfl dX2_not_20 ?_
      refine lv_iload_n hx hb dX2_not_23 rfl (lv_at hl 1 rfl) ?_
      refine va_lald hx hb hK hP 3 1 rfl rfl (strm_in c_4) dX2_not_24 ?_
      refine lv_ldc2 (v := (-1)) hx hb hown hw1 dX2_not_25 ?_
      refine lv_lxor hx hb dX2_not_28 ?_
      refine wr_i (va_runV ⟨hx, hb, hml, hown, hts⟩ (c_X2_setStream l (strm_in c_11)) (cwV 2 hts gX2_not_X2_setStream rfl rfl rfl ⟨rfl, kd_X2_setStream⟩ ⟨Nat.le_of_ble_eq_true rfl, Nat.le_of_ble_eq_true rfl⟩) (preV2 hnw hK hP hD 0 2 rfl rfl) rfl rfl hl.1 rfl (lv_room (Nat.le_of_ble_eq_true rfl)) dX2_not_29 ⟨Nat.zero_le _, Nat.zero_le _⟩) hD hS hA (fun _ => rfl) (fun r_29 u_29 H locs h_29 hP hD hS => ?_)
      have hP : va_P (dC, dI) vwCl (xw ad cI cJ ln fg dg sc ms mi mv mw _ fr sr pa nu) H := hP
      have hD : va_D A (xw ad cI cJ ln fg dg sc ms mi mv mw _ fr sr pa nu) := va_D_addr hD rfl
      subst h_29
      simp only [o_not, if_pos hC, o_set]
      exact W.iret hx hb hr (fun t ht _ => ⟨⟨_, (), rfl, rfl, wpost ht hP⟩, hS.F ht⟩) hS.2.2 dX2_not_32
    · skip
      have c_11 := bI_eq.mp c_11
      have hC : ¬ (strm a0 ∧ strm a1) := fun h => c_11 h.2
      refine lv_bipush (v := (-101)) hx hb dX2_not_14 (by decide) ?_
      simp only [o_not, if_neg hC]
      exact W.iret hx hb hr (fun t ht _ => ⟨⟨_, (), rfl, rfl, wpost ht hP⟩, hS.F ht⟩) hS.2.2 dX2_not_16
theorem kd_X2_later : yX2_later.cls ≠ "java/lang/invoke/MethodHandle" ∧ yX2_later.cls ≠ "java/lang/invoke/VarHandle" ∧ (parseMethodDescriptor yX2_later.desc).map (fun d => d.parameters.length) = some 3 := by decide +kernel
set_option maxHeartbeats 4000000 in
set_option maxRecDepth 100000 in
theorem c_X2_later (l : Launch) {dC : Nat → ClassId} {dI : Nat → Nat → Nat} {ad : Nat → Nat} {cI cJ : ClassId} {ln : Int32} {fg : Int32} {dg : Int32} {sc : Int32} {ms : Int32} {mi : Int32} {mv : Int32} {mw : Int32} {st : (Nat → Int64)} {fr : (Nat → Int64)} {sr : (Nat → Int64)} {pa : (Nat → Int64)} {nu : (Nat → Int32)} {sz : Nat} {a0 a1 a2 : Int32} : Met l yX2_later wsX2_later ({ frames := 2, cells := 0, slots := 0, locals := 45 }) (va_Pc ([.ref (ad 0), .int a0, .int a1, .int a2] : List Value) (gW sz (dC, dI) (tyw cI cJ) (xw ad cI cJ ln fg dg sc ms mi mv mw st fr sr pa nu))) (va_Qi (fun r (_u : Unit) => r = (o_later ln st a0 a1 a2).1) (fun _u t => va_P (dC, dI) vwCl (xw ad cI cJ ln fg dg sc ms mi mv mw (o_later ln st a0 a1 a2).2 fr sr pa nu) t.heap) (va_A (xw ad cI cJ ln fg dg sc ms mi mv mw st fr sr pa nu) sz)) 0 0 (va_A (xw ad cI cJ ln fg dg sc ms mi mv mw st fr sr pa nu) sz) := by
  refine Met.ofW (cc := cX2_later) (maxL := 4) (ret := (some .int)) (by decide) rfl ?_
  intro p e s m args below meth c s₁ B hml hv
  obtain ⟨rfl, hsz, ⟨hnw, hK, hP⟩, hD0⟩ := hv
  have hx := B.exec
  have hb := B.bytes
  have hr := B.returns
  have hts := atoms_spec (ws := wsX2_later) B.pre
  have hown : s.vm.findClass RX2 = some m.cls := findClass_of_methodNamed B.named
  have hlocks := B.notSynchronized
  subst hsz
  have hD := hD0.self (sz := s.heap.size)
  generalize hAe : va_A (xw ad cI cJ ln fg dg sc ms mi mv mw st fr sr pa nu) s.heap.size = A at hD ⊢
  have hA : ∀ q : Nat, s.heap.size ≤ q → A q := fun q h => by rw [← hAe]; exact Or.inr h
  have hS : va_S A s.heap s.heap [] := va_S.rf
  have hw0 := hts (.fieldLink RX2 10 "BitStreams" "rows" "LBitStreams$Rows;") (by decide +kernel)
  have hw1 := hts (.fieldLink RX2 23 "BitStreams" "streams" "[J") (by decide +kernel)
  have hw2 := hts (.initialized RX1) (by decide +kernel)
  have hw3 := hts (.instanceMethod yX1_shifted) (by decide +kernel)
  have hw4 := hts (.selects RX1 yX1_shifted yX1_shifted) (by decide +kernel)
  have inX2 : ∀ w ∈ wsX20, w ∈ wsX2_later := by decide +kernel
  have hl := lv_entry ([.ref (ad 0), .int a0, .int a1, .int a2] : List Value) (n := 4) (Nat.le_of_ble_eq_true rfl)
  rw [lg_entry_eq]
  generalize (lg_sl ([.ref (ad 0), .int a0, .int a1, .int a2] : List Value) ++ List.replicate (4 - (lg_sl ([.ref (ad 0), .int a0, .int a1, .int a2] : List Value)).length) Slot.unset).toArray = ls at hl ⊢
  have hl : lv_has ls 4 [(0, .ref (ad 0)), (1, .int a0), (2, .int a1), (3, .int a2)] := hl
  refine lv_iload_n hx hb dX2_later_0 rfl (lv_at hl 1 rfl) ?_
  refine ro_i (va_runS ⟨hx, hb, hml, hown, hts⟩ (c_X2_isStream l ) (va_cwS 1 hts gX2_later_X2_isStream rfl rfl rfl kd_X2_isStream ⟨Nat.le_of_ble_eq_true rfl, Nat.le_of_ble_eq_true rfl⟩) preS0 rfl rfl hl.1 rfl (lv_room (Nat.le_of_ble_eq_true rfl)) dX2_later_1 ⟨Nat.zero_le _, Nat.zero_le _⟩) ?_
  refine lv_if_eq (tgt := 14) hx hb dX2_later_4 (by decide) (fun c_4 => ?_) (fun c_4 => ?_)
  · skip
    have c_4 := bI_eq.mp c_4
    have hC : ¬ (strm a0 ∧ strm a2) := fun h => c_4 h.1
    refine lv_bipush (v := (-101)) hx hb dX2_later_14 (by decide) ?_
    simp only [o_later, if_neg hC]
    exact W.iret hx hb hr (fun t ht _ => ⟨⟨_, (), rfl, rfl, wpost ht hP⟩, hS.F ht⟩) hS.2.2 dX2_later_16
  · skip
    have c_4 := bI_ne.mp c_4
    refine lv_iload_n hx hb dX2_later_7 rfl (lv_at hl 3 rfl) ?_
    refine ro_i (va_runS ⟨hx, hb, hml, hown, hts⟩ (c_X2_isStream l ) (va_cwS 1 hts gX2_later_X2_isStream rfl rfl rfl kd_X2_isStream ⟨Nat.le_of_ble_eq_true rfl, Nat.le_of_ble_eq_true rfl⟩) preS0 rfl rfl hl.1 rfl (lv_room (Nat.le_of_ble_eq_true rfl)) dX2_later_8 ⟨Nat.zero_le _, Nat.zero_le _⟩) ?_
    refine lv_if_ne (tgt := 17) hx hb dX2_later_11 (by decide) (fun c_11 => ?_) (fun c_11 => ?_)
    · skip
      have c_11 := bI_ne.mp c_11
      have hC : strm a0 ∧ strm a2 := ⟨c_4, c_11⟩
      refine lv_iload_n hx hb dX2_later_17 rfl (lv_at hl 2 rfl) ?_
      refine lv_bipush (v := (-64)) hx hb dX2_later_18 (by decide) ?_
      refine lv_bipush (v := 64) hx hb dX2_later_20 (by decide) ?_
      refine ro_i (va_runS ⟨hx, hb, hml, hown, hts⟩ (c_X2_isWithin l ) (va_cwS 3 hts gX2_later_X2_isWithin rfl rfl rfl kd_X2_isWithin ⟨Nat.le_of_ble_eq_true rfl, Nat.le_of_ble_eq_true rfl⟩) preS0 rfl rfl hl.1 rfl (lv_room (Nat.le_of_ble_eq_true rfl)) dX2_later_22 ⟨Nat.zero_le _, Nat.zero_le _⟩) ?_
      refine lv_if_ne (tgt := 31) hx hb dX2_later_25 (by decide) (fun c_25 => ?_) (fun c_25 => ?_)
      · skip
        have c_25 := bI_ne.mp c_25
        refine lv_aload_n hx hb dX2_later_31 rfl (lv_at hl 0 rfl) ?_
        refine lv_iload_n hx hb dX2_later_32 rfl (lv_at hl 3 rfl) ?_
        refine lv_aload_n hx hb dX2_later_33 rfl (lv_at hl 0 rfl) ?_
        refine va_get (D := (dC, dI)) (ci := 2) (C := RX2) (T := TX2) (N := 10) hx hb hts inX2 hown hK hP 0 rfl rfl 0 (by decide) hw0 (fun _ h9 => h9) rfl dX2_later_34 ?_
        refine lv_aload_n hx hb dX2_later_37 rfl (lv_at hl 0 rfl) ?_
        refine va_get (D := (dC, dI)) (ci := 2) (C := RX2) (T := TX2) (N := 10) hx hb hts inX2 hown hK hP 0 rfl rfl 2 (by decide) hw1 (fun _ h9 => h9) rfl dX2_later_38 ?_
        refine lv_iload_n hx hb dX2_later_41 rfl (lv_at hl 1 rfl) ?_
        refine va_lald hx hb hK hP 3 1 rfl rfl (strm_in c_4) dX2_later_42 ?_
        refine lv_iload_n hx hb dX2_later_43 rfl (lv_at hl 2 rfl) ?_
        refine lv_ineg hx hb dX2_later_44 ?_
        refine ro_l (va_runVN ⟨hx, hb, hml, hown, hts⟩ (c_X1_shifted l ) ⟨va_cnB 2 hts gX2_later_X1_shifted_n97 rfl rfl rfl (hnw.at 9 rfl) hw2 kd_X1_shifted ⟨Nat.le_of_ble_eq_true rfl, Nat.le_of_ble_eq_true rfl⟩, hw3, hw4⟩ (preV1 hnw hK hP 1 1 rfl rfl) rfl rfl hl.1 rfl (lv_room (Nat.le_of_ble_eq_true rfl)) dX2_later_45 ⟨Nat.zero_le _, Nat.zero_le _⟩) ?_
        refine wr_i (va_runV ⟨hx, hb, hml, hown, hts⟩ (c_X2_setStream l (strm_in c_11)) (cwV 2 hts gX2_later_X2_setStream rfl rfl rfl ⟨rfl, kd_X2_setStream⟩ ⟨Nat.le_of_ble_eq_true rfl, Nat.le_of_ble_eq_true rfl⟩) (preV2 hnw hK hP hD 0 2 rfl rfl) rfl rfl hl.1 rfl (lv_room (Nat.le_of_ble_eq_true rfl)) dX2_later_48 ⟨Nat.zero_le _, Nat.zero_le _⟩) hD hS hA (fun _ => rfl) (fun r_48 u_48 H locs h_48 hP hD hS => ?_)
        have hP : va_P (dC, dI) vwCl (xw ad cI cJ ln fg dg sc ms mi mv mw _ fr sr pa nu) H := hP
        have hD : va_D A (xw ad cI cJ ln fg dg sc ms mi mv mw _ fr sr pa nu) := va_D_addr hD rfl
        subst h_48
        simp only [o_later, if_pos hC, if_pos c_25, o_set]
        exact W.iret hx hb hr (fun t ht _ => ⟨⟨_, (), rfl, rfl, wpost ht hP⟩, hS.F ht⟩) hS.2.2 dX2_later_51
      · skip
        have c_25 := bI_eq.mp c_25
        refine lv_bipush (v := (-102)) hx hb dX2_later_28 (by decide) ?_
        simp only [o_later, if_pos hC, if_neg c_25]
        exact W.iret hx hb hr (fun t ht _ => ⟨⟨_, (), rfl, rfl, wpost ht hP⟩, hS.F ht⟩) hS.2.2 dX2_later_30
    · skip
      have c_11 := bI_eq.mp c_11
      have hC : ¬ (strm a0 ∧ strm a2) := fun h => c_11 h.2
      refine lv_bipush (v := (-101)) hx hb dX2_later_14 (by decide) ?_
      simp only [o_later, if_neg hC]
      exact W.iret hx hb hr (fun t ht _ => ⟨⟨_, (), rfl, rfl, wpost ht hP⟩, hS.F ht⟩) hS.2.2 dX2_later_16
theorem kd_X2_flip : yX2_flip.cls ≠ "java/lang/invoke/MethodHandle" ∧ yX2_flip.cls ≠ "java/lang/invoke/VarHandle" ∧ (parseMethodDescriptor yX2_flip.desc).map (fun d => d.parameters.length) = some 3 := by decide +kernel
set_option maxHeartbeats 4000000 in
set_option maxRecDepth 100000 in
theorem c_X2_flip (l : Launch) {dC : Nat → ClassId} {dI : Nat → Nat → Nat} {ad : Nat → Nat} {cI cJ : ClassId} {ln : Int32} {fg : Int32} {dg : Int32} {sc : Int32} {ms : Int32} {mi : Int32} {mv : Int32} {mw : Int32} {st : (Nat → Int64)} {fr : (Nat → Int64)} {sr : (Nat → Int64)} {pa : (Nat → Int64)} {nu : (Nat → Int32)} {sz : Nat} {a0 a2 : Int32} {a1 : Int64} : Met l yX2_flip wsX2_flip ({ frames := 2, cells := 0, slots := 0, locals := 42 }) (va_Pc ([.ref (ad 0), .int a0, .long a1, .int a2] : List Value) (gW sz (dC, dI) (tyw cI cJ) (xw ad cI cJ ln fg dg sc ms mi mv mw st fr sr pa nu))) (va_Qi (fun r (_u : Unit) => r = (o_flip ln st a0 a1 a2).1) (fun _u t => va_P (dC, dI) vwCl (xw ad cI cJ ln fg dg sc ms mi mv mw (o_flip ln st a0 a1 a2).2 fr sr pa nu) t.heap) (va_A (xw ad cI cJ ln fg dg sc ms mi mv mw st fr sr pa nu) sz)) 0 0 (va_A (xw ad cI cJ ln fg dg sc ms mi mv mw st fr sr pa nu) sz) := by
  refine Met.ofW (cc := cX2_flip) (maxL := 7) (ret := (some .int)) (by decide) rfl ?_
  intro p e s m args below meth c s₁ B hml hv
  obtain ⟨rfl, hsz, ⟨hnw, hK, hP⟩, hD0⟩ := hv
  have hx := B.exec
  have hb := B.bytes
  have hr := B.returns
  have hts := atoms_spec (ws := wsX2_flip) B.pre
  have hown : s.vm.findClass RX2 = some m.cls := findClass_of_methodNamed B.named
  have hlocks := B.notSynchronized
  subst hsz
  have hD := hD0.self (sz := s.heap.size)
  generalize hAe : va_A (xw ad cI cJ ln fg dg sc ms mi mv mw st fr sr pa nu) s.heap.size = A at hD ⊢
  have hA : ∀ q : Nat, s.heap.size ≤ q → A q := fun q h => by rw [← hAe]; exact Or.inr h
  have hS : va_S A s.heap s.heap [] := va_S.rf
  have hw0 := hts (.fieldLink RX2 10 "BitStreams" "rows" "LBitStreams$Rows;") (by decide +kernel)
  have hw1 := hts (.fieldLink RX2 23 "BitStreams" "streams" "[J") (by decide +kernel)
  have inX1 : ∀ w ∈ wsX10, w ∈ wsX2_flip := by decide +kernel
  have inX2 : ∀ w ∈ wsX20, w ∈ wsX2_flip := by decide +kernel
  have hl := lv_entry ([.ref (ad 0), .int a0, .long a1, .int a2] : List Value) (n := 7) (Nat.le_of_ble_eq_true rfl)
  rw [lg_entry_eq]
  generalize (lg_sl ([.ref (ad 0), .int a0, .long a1, .int a2] : List Value) ++ List.replicate (7 - (lg_sl ([.ref (ad 0), .int a0, .long a1, .int a2] : List Value)).length) Slot.unset).toArray = ls at hl ⊢
  have hl : lv_has ls 7 [(0, .ref (ad 0)), (1, .int a0), (2, .long a1), (4, .int a2)] := hl
  refine lv_iload_n hx hb dX2_flip_0 rfl (lv_at hl 1 rfl) ?_
  refine ro_i (va_runS ⟨hx, hb, hml, hown, hts⟩ (c_X2_isStream l ) (va_cwS 1 hts gX2_flip_X2_isStream rfl rfl rfl kd_X2_isStream ⟨Nat.le_of_ble_eq_true rfl, Nat.le_of_ble_eq_true rfl⟩) preS0 rfl rfl hl.1 rfl (lv_room (Nat.le_of_ble_eq_true rfl)) dX2_flip_1 ⟨Nat.zero_le _, Nat.zero_le _⟩) ?_
  refine lv_if_ne (tgt := 10) hx hb dX2_flip_4 (by decide) (fun c_4 => ?_) (fun c_4 => ?_)
  · skip
    have c_4 := bI_ne.mp c_4
    refine lv_iload hx hb dX2_flip_10 (lv_at hl 3 rfl) ?_
    refine lv_iconst (v := 0) hx hb dX2_flip_12 (by decide) ?_
    refine lv_aload_n hx hb dX2_flip_13 rfl (lv_at hl 0 rfl) ?_
    refine va_get (D := (dC, dI)) (ci := 2) (C := RX2) (T := TX2) (N := 10) hx hb hts inX2 hown hK hP 0 rfl rfl 0 (by decide) hw0 (fun _ h9 => h9) rfl dX2_flip_14 ?_
    refine va_getN (D := (dC, dI)) (ci := 1) (C := RX1) (T := TX1) (N := 2) hx hb hts inX1 hown hK hP 1 rfl rfl 0 (by decide) (hnw.use 1 rfl) (fun _ h9 => h9) rfl dX2_flip_17 ?_
    refine ro_i (va_runS ⟨hx, hb, hml, hown, hts⟩ (c_X2_isWithin l ) (va_cwS 3 hts gX2_flip_X2_isWithin rfl rfl rfl kd_X2_isWithin ⟨Nat.le_of_ble_eq_true rfl, Nat.le_of_ble_eq_true rfl⟩) preS0 rfl rfl hl.1 rfl (lv_room (Nat.le_of_ble_eq_true rfl)) dX2_flip_20 ⟨Nat.zero_le _, Nat.zero_le _⟩) ?_
    refine lv_if_ne (tgt := 29) hx hb dX2_flip_23 (by decide) (fun c_23 => ?_) (fun c_23 => ?_)
    · skip
      have c_23 := bI_ne.mp c_23
      refine lv_lload_n hx hb dX2_flip_29 rfl (lv_at hl 2 rfl) ?_
      refine lv_iload hx hb dX2_flip_30 (lv_at hl 3 rfl) ?_
      refine ro_l (va_runS ⟨hx, hb, hml, hown, hts⟩ (c_X2_lowBits l ) (va_cwS 1 hts gX2_flip_X2_lowBits rfl rfl rfl kd_X2_lowBits ⟨Nat.le_of_ble_eq_true rfl, Nat.le_of_ble_eq_true rfl⟩) preS0 rfl rfl hl.1 rfl (lv_room (Nat.le_of_ble_eq_true rfl)) dX2_flip_32 ⟨Nat.zero_le _, Nat.zero_le _⟩) ?_
      refine lv_land hx hb dX2_flip_35 ?_
      refine lv_lstore (lv' := [(5, .long _), (0, .ref _), (1, .int _), (2, .long _), (4, .int _)]) hx hb dX2_flip_36 hl (by decide) rfl (fun ls hl => ?_)
      refine lv_aload_n hx hb dX2_flip_38 rfl (lv_at hl 1 rfl) ?_
      refine va_get (D := (dC, dI)) (ci := 2) (C := RX2) (T := TX2) (N := 10) hx hb hts inX2 hown hK hP 0 rfl rfl 2 (by decide) hw1 (fun _ h9 => h9) rfl dX2_flip_39 ?_
      refine lv_iload_n hx hb dX2_flip_42 rfl (lv_at hl 2 rfl) ?_
      refine lv_dup2_11 hx hb dX2_flip_43 rfl rfl ?_
      refine va_lald hx hb hK hP 3 1 rfl rfl (strm_in c_4) dX2_flip_44 ?_
      refine lv_lload hx hb dX2_flip_45 (lv_at hl 0 rfl) ?_
      refine lv_lxor hx hb dX2_flip_47 ?_
      refine va_last hx hb hK hP hD hS 3 1 rfl rfl (strm_in c_4) dX2_flip_48 (fun H locs hP hD hS => ?_)
      have hP : va_P (dC, dI) vwCl (xw ad cI cJ ln fg dg sc ms mi mv mw _ fr sr pa nu) H := hP
      have hD : va_D A (xw ad cI cJ ln fg dg sc ms mi mv mw _ fr sr pa nu) := va_D_addr hD rfl
      refine lv_lload hx hb dX2_flip_49 (lv_at hl 0 rfl) ?_
      refine ro_i (va_runS ⟨hx, hb, hml, hown, hts⟩ (c_J13_bitCount_95d88 l ) (va_cwS 1 hts gX2_flip_J13_bitCount_95d88 rfl rfl rfl kd_J13_bitCount_95d88 ⟨Nat.le_of_ble_eq_true rfl, Nat.le_of_ble_eq_true rfl⟩) preS0 rfl rfl hl.1 rfl (lv_room (Nat.le_of_ble_eq_true rfl)) dX2_flip_51 ⟨Nat.zero_le _, Nat.zero_le _⟩) ?_
      simp only [o_flip, if_pos c_4, if_pos c_23]
      exact W.iret hx hb hr (fun t ht _ => ⟨⟨_, (), rfl, rfl, wpost ht hP⟩, hS.F ht⟩) hS.2.2 dX2_flip_54
    · skip
      have c_23 := bI_eq.mp c_23
      refine lv_bipush (v := (-102)) hx hb dX2_flip_26 (by decide) ?_
      simp only [o_flip, if_pos c_4, if_neg c_23]
      exact W.iret hx hb hr (fun t ht _ => ⟨⟨_, (), rfl, rfl, wpost ht hP⟩, hS.F ht⟩) hS.2.2 dX2_flip_28
  · skip
    have c_4 := bI_eq.mp c_4
    refine lv_bipush (v := (-101)) hx hb dX2_flip_7 (by decide) ?_
    simp only [o_flip, if_neg c_4]
    exact W.iret hx hb hr (fun t ht _ => ⟨⟨_, (), rfl, rfl, wpost ht hP⟩, hS.F ht⟩) hS.2.2 dX2_flip_9
theorem kd_X2_both : yX2_both.cls ≠ "java/lang/invoke/MethodHandle" ∧ yX2_both.cls ≠ "java/lang/invoke/VarHandle" ∧ (parseMethodDescriptor yX2_both.desc).map (fun d => d.parameters.length) = some 3 := by decide +kernel
set_option maxHeartbeats 4000000 in
set_option maxRecDepth 100000 in
theorem c_X2_both (l : Launch) {dC : Nat → ClassId} {dI : Nat → Nat → Nat} {ad : Nat → Nat} {cI cJ : ClassId} {ln : Int32} {fg : Int32} {dg : Int32} {sc : Int32} {ms : Int32} {mi : Int32} {mv : Int32} {mw : Int32} {st : (Nat → Int64)} {fr : (Nat → Int64)} {sr : (Nat → Int64)} {pa : (Nat → Int64)} {nu : (Nat → Int32)} {a0 a1 a2 : Int32} : Met l yX2_both wsX2_both ({ frames := 2, cells := 0, slots := 0, locals := 50 }) (va_Pc ([.ref (ad 0), .int a0, .int a1, .int a2] : List Value) (gB (dC, dI) (tyw cI cJ) (xw ad cI cJ ln fg dg sc ms mi mv mw st fr sr pa nu))) (QcRead (o_both ln st a0 a1 a2)) 0 0 (fun _ => False) := by
  refine Met.ofW (cc := cX2_both) (maxL := 4) (ret := (some .int)) (by decide) rfl ?_
  intro p e s m args below meth c s₁ B hml hv
  obtain ⟨rfl, hnw, hK, hP⟩ := hv
  have hx := B.exec
  have hb := B.bytes
  have hr := B.returns
  have hts := atoms_spec (ws := wsX2_both) B.pre
  have hown : s.vm.findClass RX2 = some m.cls := findClass_of_methodNamed B.named
  have hlocks := B.notSynchronized
  have hw0 := hts (.fieldLink RX2 23 "BitStreams" "streams" "[J") (by decide +kernel)
  have inX2 : ∀ w ∈ wsX20, w ∈ wsX2_both := by decide +kernel
  have hl := lv_entry ([.ref (ad 0), .int a0, .int a1, .int a2] : List Value) (n := 4) (Nat.le_of_ble_eq_true rfl)
  rw [lg_entry_eq]
  generalize (lg_sl ([.ref (ad 0), .int a0, .int a1, .int a2] : List Value) ++ List.replicate (4 - (lg_sl ([.ref (ad 0), .int a0, .int a1, .int a2] : List Value)).length) Slot.unset).toArray = ls at hl ⊢
  have hl : lv_has ls 4 [(0, .ref (ad 0)), (1, .int a0), (2, .int a1), (3, .int a2)] := hl
  refine lv_iload_n hx hb dX2_both_0 rfl (lv_at hl 1 rfl) ?_
  refine ro_i (va_runS ⟨hx, hb, hml, hown, hts⟩ (c_X2_isStream l ) (va_cwS 1 hts gX2_both_X2_isStream rfl rfl rfl kd_X2_isStream ⟨Nat.le_of_ble_eq_true rfl, Nat.le_of_ble_eq_true rfl⟩) preS0 rfl rfl hl.1 rfl (lv_room (Nat.le_of_ble_eq_true rfl)) dX2_both_1 ⟨Nat.zero_le _, Nat.zero_le _⟩) ?_
  refine lv_if_eq (tgt := 14) hx hb dX2_both_4 (by decide) (fun c_4 => ?_) (fun c_4 => ?_)
  · skip
    have c_4 := bI_eq.mp c_4
    have hC : ¬ (strm a0 ∧ strm a1) := fun h => c_4 h.1
    refine lv_bipush (v := (-101)) hx hb dX2_both_14 (by decide) ?_
    exact W.iret hx hb hr (fun t ht _ => ri (by simp only [o_both, if_neg hC]) ht) no_locs dX2_both_16
  · skip
    have c_4 := bI_ne.mp c_4
    refine lv_iload_n hx hb dX2_both_7 rfl (lv_at hl 2 rfl) ?_
    refine ro_i (va_runS ⟨hx, hb, hml, hown, hts⟩ (c_X2_isStream l ) (va_cwS 1 hts gX2_both_X2_isStream rfl rfl rfl kd_X2_isStream ⟨Nat.le_of_ble_eq_true rfl, Nat.le_of_ble_eq_true rfl⟩) preS0 rfl rfl hl.1 rfl (lv_room (Nat.le_of_ble_eq_true rfl)) dX2_both_8 ⟨Nat.zero_le _, Nat.zero_le _⟩) ?_
    refine lv_if_ne (tgt := 17) hx hb dX2_both_11 (by decide) (fun c_11 => ?_) (fun c_11 => ?_)
    · skip
      have c_11 := bI_ne.mp c_11
      have hC : strm a0 ∧ strm a1 := ⟨c_4, c_11⟩
      refine lv_iload_n hx hb dX2_both_17 rfl (lv_at hl 3 rfl) ?_
      refine lv_iconst (v := 0) hx hb dX2_both_18 (by decide) ?_
      refine lv_iconst (v := 3) hx hb dX2_both_19 (by decide) ?_
      refine ro_i (va_runS ⟨hx, hb, hml, hown, hts⟩ (c_X2_isWithin l ) (va_cwS 3 hts gX2_both_X2_isWithin rfl rfl rfl kd_X2_isWithin ⟨Nat.le_of_ble_eq_true rfl, Nat.le_of_ble_eq_true rfl⟩) preS0 rfl rfl hl.1 rfl (lv_room (Nat.le_of_ble_eq_true rfl)) dX2_both_20 ⟨Nat.zero_le _, Nat.zero_le _⟩) ?_
      refine lv_if_ne (tgt := 29) hx hb dX2_both_23 (by decide) (fun c_23 => ?_) (fun c_23 => ?_)
      · skip
        have c_23 := bI_ne.mp c_23
        refine lv_aload_n hx hb dX2_both_29 rfl (lv_at hl 0 rfl) ?_
        refine lv_aload_n hx hb dX2_both_30 rfl (lv_at hl 0 rfl) ?_
        refine va_get (D := (dC, dI)) (ci := 2) (C := RX2) (T := TX2) (N := 10) hx hb hts inX2 hown hK hP 0 rfl rfl 2 (by decide) hw0 (fun _ h9 => h9) rfl dX2_both_31 ?_
        refine lv_iload_n hx hb dX2_both_34 rfl (lv_at hl 1 rfl) ?_
        refine va_lald hx hb hK hP 3 1 rfl rfl (strm_in c_4) dX2_both_35 ?_
        refine lv_aload_n hx hb dX2_both_36 rfl (lv_at hl 0 rfl) ?_
        refine va_get (D := (dC, dI)) (ci := 2) (C := RX2) (T := TX2) (N := 10) hx hb hts inX2 hown hK hP 0 rfl rfl 2 (by decide) hw0 (fun _ h9 => h9) rfl dX2_both_37 ?_
        refine lv_iload_n hx hb dX2_both_40 rfl (lv_at hl 2 rfl) ?_
        refine va_lald hx hb hK hP 3 1 rfl rfl (strm_in c_11) dX2_both_41 ?_
        refine lv_iload_n hx hb dX2_both_42 rfl (lv_at hl 3 rfl) ?_
        refine ro_i (va_runV ⟨hx, hb, hml, hown, hts⟩ (c_X2_onesOfSort l ) (cwV 3 hts gX2_both_X2_onesOfSort rfl rfl rfl ⟨rfl, kd_X2_onesOfSort⟩ ⟨Nat.le_of_ble_eq_true rfl, Nat.le_of_ble_eq_true rfl⟩) (preV1 hnw hK hP 0 2 rfl rfl) rfl rfl hl.1 rfl (lv_room (Nat.le_of_ble_eq_true rfl)) dX2_both_43 ⟨Nat.zero_le _, Nat.zero_le _⟩) ?_
        exact W.iret hx hb hr (fun t ht _ => ri (by simp only [o_both, if_pos hC, if_pos c_23]) ht) no_locs dX2_both_46
      · skip
        have c_23 := bI_eq.mp c_23
        refine lv_bipush (v := (-102)) hx hb dX2_both_26 (by decide) ?_
        exact W.iret hx hb hr (fun t ht _ => ri (by simp only [o_both, if_pos hC, if_neg c_23]) ht) no_locs dX2_both_28
    · skip
      have c_11 := bI_eq.mp c_11
      have hC : ¬ (strm a0 ∧ strm a1) := fun h => c_11 h.2
      refine lv_bipush (v := (-101)) hx hb dX2_both_14 (by decide) ?_
      exact W.iret hx hb hr (fun t ht _ => ri (by simp only [o_both, if_neg hC]) ht) no_locs dX2_both_16
theorem kd_X2_together : yX2_together.cls ≠ "java/lang/invoke/MethodHandle" ∧ yX2_together.cls ≠ "java/lang/invoke/VarHandle" ∧ (parseMethodDescriptor yX2_together.desc).map (fun d => d.parameters.length) = some 2 := by decide +kernel
set_option maxHeartbeats 4000000 in
set_option maxRecDepth 100000 in
theorem c_X2_together (l : Launch) {dC : Nat → ClassId} {dI : Nat → Nat → Nat} {ad : Nat → Nat} {cI cJ : ClassId} {ln : Int32} {fg : Int32} {dg : Int32} {sc : Int32} {ms : Int32} {mi : Int32} {mv : Int32} {mw : Int32} {st : (Nat → Int64)} {fr : (Nat → Int64)} {sr : (Nat → Int64)} {pa : (Nat → Int64)} {nu : (Nat → Int32)} {a0 a1 : Int32} : Met l yX2_together wsX2_together ({ frames := 2, cells := 0, slots := 0, locals := 50 }) (va_Pc ([.ref (ad 0), .int a0, .int a1] : List Value) (gB (dC, dI) (tyw cI cJ) (xw ad cI cJ ln fg dg sc ms mi mv mw st fr sr pa nu))) (QcRead (o_together ln st a0 a1)) 0 0 (fun _ => False) := by
  refine Met.ofW (cc := cX2_together) (maxL := 10) (ret := (some .int)) (by decide) rfl ?_
  intro p e s m args below meth c s₁ B hml hv
  obtain ⟨rfl, hnw, hK, hP⟩ := hv
  have hx := B.exec
  have hb := B.bytes
  have hr := B.returns
  have hts := atoms_spec (ws := wsX2_together) B.pre
  have hown : s.vm.findClass RX2 = some m.cls := findClass_of_methodNamed B.named
  have hlocks := B.notSynchronized
  have hw0 := hts (.constant RX2 109 (-100000)) (by decide +kernel)
  have hw1 := hts (.fieldLink RX2 23 "BitStreams" "streams" "[J") (by decide +kernel)
  have hw2 := hts (.fieldLink RX2 10 "BitStreams" "rows" "LBitStreams$Rows;") (by decide +kernel)
  have hw3 := hts (.methodLink RX2 116 Lib.Math.max.name) (by decide +kernel)
  have hw4 := hts (.static Lib.Math.max.name) (by decide +kernel)
  have hw5 := hts (.initialized "java/lang/Math") (by decide +kernel)
  have hw6 := hts (.code Lib.Math.max.name Lib.Math.max.code 2 (some .int)) (by decide +kernel)
  have hw7 := hts (.methodLink RX2 110 Lib.Math.min.name) (by decide +kernel)
  have hw8 := hts (.static Lib.Math.min.name) (by decide +kernel)
  have hw9 := hts (.code Lib.Math.min.name Lib.Math.min.code 2 (some .int)) (by decide +kernel)
  have inX1 : ∀ w ∈ wsX10, w ∈ wsX2_together := by decide +kernel
  have inX2 : ∀ w ∈ wsX20, w ∈ wsX2_together := by decide +kernel
  have hl := lv_entry ([.ref (ad 0), .int a0, .int a1] : List Value) (n := 10) (Nat.le_of_ble_eq_true rfl)
  rw [lg_entry_eq]
  generalize (lg_sl ([.ref (ad 0), .int a0, .int a1] : List Value) ++ List.replicate (10 - (lg_sl ([.ref (ad 0), .int a0, .int a1] : List Value)).length) Slot.unset).toArray = ls at hl ⊢
  have hl : lv_has ls 10 [(0, .ref (ad 0)), (1, .int a0), (2, .int a1)] := hl
  refine lv_iload_n hx hb dX2_together_0 rfl (lv_at hl 1 rfl) ?_
  refine ro_i (va_runS ⟨hx, hb, hml, hown, hts⟩ (c_X2_isStream l ) (va_cwS 1 hts gX2_together_X2_isStream rfl rfl rfl kd_X2_isStream ⟨Nat.le_of_ble_eq_true rfl, Nat.le_of_ble_eq_true rfl⟩) preS0 rfl rfl hl.1 rfl (lv_room (Nat.le_of_ble_eq_true rfl)) dX2_together_1 ⟨Nat.zero_le _, Nat.zero_le _⟩) ?_
  refine lv_if_eq (tgt := 14) hx hb dX2_together_4 (by decide) (fun c_4 => ?_) (fun c_4 => ?_)
  · skip
    have c_4 := bI_eq.mp c_4
    have hC : ¬ (strm a0 ∧ strm a1) := fun h => c_4 h.1
    refine lv_ldc (v := (-100000)) hx hb hown hw0 dX2_together_14 ?_
    exact W.iret hx hb hr (fun t ht _ => ri (by simp only [o_together, if_neg hC]) ht) no_locs dX2_together_16
  · skip
    have c_4 := bI_ne.mp c_4
    refine lv_iload_n hx hb dX2_together_7 rfl (lv_at hl 2 rfl) ?_
    refine ro_i (va_runS ⟨hx, hb, hml, hown, hts⟩ (c_X2_isStream l ) (va_cwS 1 hts gX2_together_X2_isStream rfl rfl rfl kd_X2_isStream ⟨Nat.le_of_ble_eq_true rfl, Nat.le_of_ble_eq_true rfl⟩) preS0 rfl rfl hl.1 rfl (lv_room (Nat.le_of_ble_eq_true rfl)) dX2_together_8 ⟨Nat.zero_le _, Nat.zero_le _⟩) ?_
    refine lv_if_ne (tgt := 17) hx hb dX2_together_11 (by decide) (fun c_11 => ?_) (fun c_11 => ?_)
    · skip
      have c_11 := bI_ne.mp c_11
      have hC : strm a0 ∧ strm a1 := ⟨c_4, c_11⟩
      refine lv_aload_n hx hb dX2_together_17 rfl (lv_at hl 0 rfl) ?_
      refine lv_aload_n hx hb dX2_together_18 rfl (lv_at hl 0 rfl) ?_
      refine va_get (D := (dC, dI)) (ci := 2) (C := RX2) (T := TX2) (N := 10) hx hb hts inX2 hown hK hP 0 rfl rfl 2 (by decide) hw1 (fun _ h9 => h9) rfl dX2_together_19 ?_
      refine lv_iload_n hx hb dX2_together_22 rfl (lv_at hl 1 rfl) ?_
      refine va_lald hx hb hK hP 3 1 rfl rfl (strm_in c_4) dX2_together_23 ?_
      refine lv_aload_n hx hb dX2_together_24 rfl (lv_at hl 0 rfl) ?_
      refine va_get (D := (dC, dI)) (ci := 2) (C := RX2) (T := TX2) (N := 10) hx hb hts inX2 hown hK hP 0 rfl rfl 2 (by decide) hw1 (fun _ h9 => h9) rfl dX2_together_25 ?_
      refine lv_iload_n hx hb dX2_together_28 rfl (lv_at hl 2 rfl) ?_
      refine va_lald hx hb hK hP 3 1 rfl rfl (strm_in c_11) dX2_together_29 ?_
      refine lv_iconst (v := 0) hx hb dX2_together_30 (by decide) ?_
      refine ro_i (va_runV ⟨hx, hb, hml, hown, hts⟩ (c_X2_onesOfSort l ) (cwV 3 hts gX2_together_X2_onesOfSort rfl rfl rfl ⟨rfl, kd_X2_onesOfSort⟩ ⟨Nat.le_of_ble_eq_true rfl, Nat.le_of_ble_eq_true rfl⟩) (preV1 hnw hK hP 0 2 rfl rfl) rfl rfl hl.1 rfl (lv_room (Nat.le_of_ble_eq_true rfl)) dX2_together_31 ⟨Nat.zero_le _, Nat.zero_le _⟩) ?_
      refine lv_topi (fun xp ep => ?_)
      refine lv_istore_n (lv' := [(3, .int _), (0, .ref _), (1, .int _), (2, .int _)]) hx hb dX2_together_34 rfl hl (by decide) rfl (fun ls hl => ?_)
      refine lv_aload_n hx hb dX2_together_35 rfl (lv_at hl 1 rfl) ?_
      refine lv_aload_n hx hb dX2_together_36 rfl (lv_at hl 1 rfl) ?_
      refine va_get (D := (dC, dI)) (ci := 2) (C := RX2) (T := TX2) (N := 10) hx hb hts inX2 hown hK hP 0 rfl rfl 2 (by decide) hw1 (fun _ h9 => h9) rfl dX2_together_37 ?_
      refine lv_iload_n hx hb dX2_together_40 rfl (lv_at hl 2 rfl) ?_
      refine va_lald hx hb hK hP 3 1 rfl rfl (strm_in c_4) dX2_together_41 ?_
      refine lv_aload_n hx hb dX2_together_42 rfl (lv_at hl 1 rfl) ?_
      refine va_get (D := (dC, dI)) (ci := 2) (C := RX2) (T := TX2) (N := 10) hx hb hts inX2 hown hK hP 0 rfl rfl 2 (by decide) hw1 (fun _ h9 => h9) rfl dX2_together_43 ?_
      refine lv_iload_n hx hb dX2_together_46 rfl (lv_at hl 3 rfl) ?_
      refine va_lald hx hb hK hP 3 1 rfl rfl (strm_in c_11) dX2_together_47 ?_
      refine lv_iconst (v := 1) hx hb dX2_together_48 (by decide) ?_
      refine ro_i (va_runV ⟨hx, hb, hml, hown, hts⟩ (c_X2_onesOfSort l ) (cwV 3 hts gX2_together_X2_onesOfSort rfl rfl rfl ⟨rfl, kd_X2_onesOfSort⟩ ⟨Nat.le_of_ble_eq_true rfl, Nat.le_of_ble_eq_true rfl⟩) (preV1 hnw hK hP 0 2 rfl rfl) rfl rfl hl.1 rfl (lv_room (Nat.le_of_ble_eq_true rfl)) dX2_together_49 ⟨Nat.zero_le _, Nat.zero_le _⟩) ?_
      refine lv_topi (fun xq eq => ?_)
      refine lv_istore (lv' := [(4, .int _), (3, .int _), (0, .ref _), (1, .int _), (2, .int _)]) hx hb dX2_together_52 hl (by decide) rfl (fun ls hl => ?_)
      refine lv_aload_n hx hb dX2_together_54 rfl (lv_at hl 2 rfl) ?_
      refine lv_aload_n hx hb dX2_together_55 rfl (lv_at hl 2 rfl) ?_
      refine va_get (D := (dC, dI)) (ci := 2) (C := RX2) (T := TX2) (N := 10) hx hb hts inX2 hown hK hP 0 rfl rfl 2 (by decide) hw1 (fun _ h9 => h9) rfl dX2_together_56 ?_
      refine lv_iload_n hx hb dX2_together_59 rfl (lv_at hl 3 rfl) ?_
      refine va_lald hx hb hK hP 3 1 rfl rfl (strm_in c_4) dX2_together_60 ?_
      refine lv_aload_n hx hb dX2_together_61 rfl (lv_at hl 2 rfl) ?_
      refine va_get (D := (dC, dI)) (ci := 2) (C := RX2) (T := TX2) (N := 10) hx hb hts inX2 hown hK hP 0 rfl rfl 2 (by decide) hw1 (fun _ h9 => h9) rfl dX2_together_62 ?_
      refine lv_iload_n hx hb dX2_together_65 rfl (lv_at hl 4 rfl) ?_
      refine va_lald hx hb hK hP 3 1 rfl rfl (strm_in c_11) dX2_together_66 ?_
      refine lv_iconst (v := 2) hx hb dX2_together_67 (by decide) ?_
      refine ro_i (va_runV ⟨hx, hb, hml, hown, hts⟩ (c_X2_onesOfSort l ) (cwV 3 hts gX2_together_X2_onesOfSort rfl rfl rfl ⟨rfl, kd_X2_onesOfSort⟩ ⟨Nat.le_of_ble_eq_true rfl, Nat.le_of_ble_eq_true rfl⟩) (preV1 hnw hK hP 0 2 rfl rfl) rfl rfl hl.1 rfl (lv_room (Nat.le_of_ble_eq_true rfl)) dX2_together_68 ⟨Nat.zero_le _, Nat.zero_le _⟩) ?_
      refine lv_topi (fun xr er => ?_)
      refine lv_istore (lv' := [(5, .int _), (4, .int _), (3, .int _), (0, .ref _), (1, .int _), (2, .int _)]) hx hb dX2_together_71 hl (by decide) rfl (fun ls hl => ?_)
      refine lv_aload_n hx hb dX2_together_73 rfl (lv_at hl 3 rfl) ?_
      refine lv_aload_n hx hb dX2_together_74 rfl (lv_at hl 3 rfl) ?_
      refine va_get (D := (dC, dI)) (ci := 2) (C := RX2) (T := TX2) (N := 10) hx hb hts inX2 hown hK hP 0 rfl rfl 2 (by decide) hw1 (fun _ h9 => h9) rfl dX2_together_75 ?_
      refine lv_iload_n hx hb dX2_together_78 rfl (lv_at hl 4 rfl) ?_
      refine va_lald hx hb hK hP 3 1 rfl rfl (strm_in c_4) dX2_together_79 ?_
      refine lv_aload_n hx hb dX2_together_80 rfl (lv_at hl 3 rfl) ?_
      refine va_get (D := (dC, dI)) (ci := 2) (C := RX2) (T := TX2) (N := 10) hx hb hts inX2 hown hK hP 0 rfl rfl 2 (by decide) hw1 (fun _ h9 => h9) rfl dX2_together_81 ?_
      refine lv_iload_n hx hb dX2_together_84 rfl (lv_at hl 5 rfl) ?_
      refine va_lald hx hb hK hP 3 1 rfl rfl (strm_in c_11) dX2_together_85 ?_
      refine lv_iconst (v := 3) hx hb dX2_together_86 (by decide) ?_
      refine ro_i (va_runV ⟨hx, hb, hml, hown, hts⟩ (c_X2_onesOfSort l ) (cwV 3 hts gX2_together_X2_onesOfSort rfl rfl rfl ⟨rfl, kd_X2_onesOfSort⟩ ⟨Nat.le_of_ble_eq_true rfl, Nat.le_of_ble_eq_true rfl⟩) (preV1 hnw hK hP 0 2 rfl rfl) rfl rfl hl.1 rfl (lv_room (Nat.le_of_ble_eq_true rfl)) dX2_together_87 ⟨Nat.zero_le _, Nat.zero_le _⟩) ?_
      refine lv_topi (fun xs es => ?_)
      refine lv_istore (lv' := [(6, .int _), (5, .int _), (4, .int _), (3, .int _), (0, .ref _), (1, .int _), (2, .int _)]) hx hb dX2_together_90 hl (by decide) rfl (fun ls hl => ?_)
      refine lv_iload_n hx hb dX2_together_92 rfl (lv_at hl 3 rfl) ?_
      refine lv_iload hx hb dX2_together_93 (lv_at hl 0 rfl) ?_
      refine lv_imul hx hb dX2_together_95 ?_
      refine lv_iload hx hb dX2_together_96 (lv_at hl 2 rfl) ?_
      refine lv_iload hx hb dX2_together_98 (lv_at hl 1 rfl) ?_
      refine lv_imul hx hb dX2_together_100 ?_
      refine lv_isub hx hb dX2_together_101 ?_
      refine lv_topi (fun ab eab => ?_)
      refine lv_istore (lv' := [(7, .int _), (6, .int _), (5, .int _), (4, .int _), (3, .int _), (0, .ref _), (1, .int _), (2, .int _)]) hx hb dX2_together_102 hl (by decide) rfl (fun ls hl => ?_)
      refine lv_iload_n hx hb dX2_together_104 rfl (lv_at hl 4 rfl) ?_
      refine lv_iload hx hb dX2_together_105 (lv_at hl 3 rfl) ?_
      refine lv_iadd hx hb dX2_together_107 ?_
      refine lv_iload_n hx hb dX2_together_108 rfl (lv_at hl 4 rfl) ?_
      refine lv_iload hx hb dX2_together_109 (lv_at hl 2 rfl) ?_
      refine lv_iadd hx hb dX2_together_111 ?_
      refine lv_imul hx hb dX2_together_112 ?_
      refine lv_topi (fun pr epr => ?_)
      refine lv_istore (lv' := [(8, .int _), (7, .int _), (6, .int _), (5, .int _), (4, .int _), (3, .int _), (0, .ref _), (1, .int _), (2, .int _)]) hx hb dX2_together_113 hl (by decide) rfl (fun ls hl => ?_)
      refine lv_iload hx hb dX2_together_115 (lv_at hl 1 rfl) ?_
      refine lv_if_le (tgt := 145) hx hb dX2_together_117 (by decide) (fun c_117 => ?_) (fun c_117 => ?_)
      · skip
        refine lv_iload hx hb dX2_together_145 (lv_at hl 0 rfl) ?_
        refine lv_aload_n hx hb dX2_together_147 rfl (lv_at hl 6 rfl) ?_
        refine va_get (D := (dC, dI)) (ci := 2) (C := RX2) (T := TX2) (N := 10) hx hb hts inX2 hown hK hP 0 rfl rfl 0 (by decide) hw2 (fun _ h9 => h9) rfl dX2_together_148 ?_
        refine va_getN (D := (dC, dI)) (ci := 1) (C := RX1) (T := TX1) (N := 2) hx hb hts inX1 hown hK hP 1 rfl rfl 0 (by decide) (hnw.use 1 rfl) (fun _ h9 => h9) rfl dX2_together_151 ?_
        refine lv_iload_n hx hb dX2_together_154 rfl (lv_at hl 5 rfl) ?_
        refine lv_iload hx hb dX2_together_155 (lv_at hl 2 rfl) ?_
        refine lv_isub hx hb dX2_together_157 ?_
        refine lv_iconst (v := 0) hx hb dX2_together_158 (by decide) ?_
        refine va_mmax hx hb (by rw [hml]; exact hl.1.symm) hown hw3 hw4 hw5 hw6 (Nat.le_of_ble_eq_true rfl) (Nat.le_of_ble_eq_true rfl) (Nat.zero_le _) (Nat.zero_le _) dX2_together_159 ?_
        refine lv_imul hx hb dX2_together_162 ?_
        refine lv_isub hx hb dX2_together_163 ?_
        refine lv_topi (fun bl ebl => ?_)
        have hbl : bl = f_below ln xp xq xr xs := by unfold f_below; rw [← eab, ebl, epr]; first | rw [if_pos c_117] | rw [if_neg c_117]
        refine lv_istore (lv' := [(9, .int _), (8, .int _), (7, .int _), (6, .int _), (5, .int _), (4, .int _), (3, .int _), (0, .ref _), (1, .int _), (2, .int _)]) hx hb dX2_together_164 hl (by decide) rfl (fun ls hl => ?_)
        refine lv_iload hx hb dX2_together_166 (lv_at hl 2 rfl) ?_
        refine lv_if_eq (tgt := 176) hx hb dX2_together_168 (by decide) (fun c_168 => ?_) (fun c_168 => ?_)
        · skip
          refine lv_iconst (v := 0) hx hb dX2_together_176 (by decide) ?_
          exact W.iret hx hb hr (fun t ht _ => ri (by simp only [o_together, if_pos hC]; rw [← ep, ← eq, ← er, ← es]; unfold f_tog; rw [← hbl, ← eab]; first | exact (if_pos (Or.inl c_168)).symm | exact (if_pos (Or.inr c_173)).symm) ht) no_locs dX2_together_177
        · skip
          refine lv_iload hx hb dX2_together_171 (lv_at hl 0 rfl) ?_
          refine lv_if_ne (tgt := 178) hx hb dX2_together_173 (by decide) (fun c_173 => ?_) (fun c_173 => ?_)
          · skip
            refine lv_sipush (v := 1000) hx hb dX2_together_178 (by decide) ?_
            refine lv_iload hx hb dX2_together_181 (lv_at hl 2 rfl) ?_
            refine lv_imul hx hb dX2_together_183 ?_
            refine lv_iload hx hb dX2_together_184 (lv_at hl 0 rfl) ?_
            refine lv_idiv hx hb dX2_together_186 (c_173) ?_
            exact W.iret hx hb hr (fun t ht _ => ri (by simp only [o_together, if_pos hC]; rw [← ep, ← eq, ← er, ← es]; unfold f_tog; rw [← hbl, ← eab]; exact (if_neg (fun h => h.elim c_168 c_173)).symm) ht) no_locs dX2_together_187
          · skip
            refine lv_iconst (v := 0) hx hb dX2_together_176 (by decide) ?_
            exact W.iret hx hb hr (fun t ht _ => ri (by simp only [o_together, if_pos hC]; rw [← ep, ← eq, ← er, ← es]; unfold f_tog; rw [← hbl, ← eab]; first | exact (if_pos (Or.inl c_168)).symm | exact (if_pos (Or.inr c_173)).symm) ht) no_locs dX2_together_177
      · skip
        refine lv_aload_n hx hb dX2_together_120 rfl (lv_at hl 6 rfl) ?_
        refine va_get (D := (dC, dI)) (ci := 2) (C := RX2) (T := TX2) (N := 10) hx hb hts inX2 hown hK hP 0 rfl rfl 0 (by decide) hw2 (fun _ h9 => h9) rfl dX2_together_121 ?_
        refine va_getN (D := (dC, dI)) (ci := 1) (C := RX1) (T := TX1) (N := 2) hx hb hts inX1 hown hK hP 1 rfl rfl 0 (by decide) (hnw.use 1 rfl) (fun _ h9 => h9) rfl dX2_together_124 ?_
        refine lv_iload_n hx hb dX2_together_127 rfl (lv_at hl 5 rfl) ?_
        refine lv_iload hx hb dX2_together_128 (lv_at hl 4 rfl) ?_
        refine lv_iadd hx hb dX2_together_130 ?_
        refine lv_iload_n hx hb dX2_together_131 rfl (lv_at hl 5 rfl) ?_
        refine lv_iload hx hb dX2_together_132 (lv_at hl 3 rfl) ?_
        refine lv_iadd hx hb dX2_together_134 ?_
        refine va_mmin hx hb (by rw [hml]; exact hl.1.symm) hown hw7 hw8 hw5 hw9 (Nat.le_of_ble_eq_true rfl) (Nat.le_of_ble_eq_true rfl) (Nat.zero_le _) (Nat.zero_le _) dX2_together_135 ?_
        refine lv_imul hx hb dX2_together_138 ?_
        refine lv_iload hx hb dX2_together_139 (lv_at hl 0 rfl) ?_
        refine lv_isub hx hb dX2_together_141 ?_
        refine lv_goto (tgt := 164) hx hb dX2_together_142 (by decide) ?_
        refine lv_topi (fun bl ebl => ?_)
        have hbl : bl = f_below ln xp xq xr xs := by unfold f_below; rw [← eab, ebl, epr]; first | rw [if_pos c_117] | rw [if_neg c_117]
        refine lv_istore (lv' := [(9, .int _), (8, .int _), (7, .int _), (6, .int _), (5, .int _), (4, .int _), (3, .int _), (0, .ref _), (1, .int _), (2, .int _)]) hx hb dX2_together_164 hl (by decide) rfl (fun ls hl => ?_)
        refine lv_iload hx hb dX2_together_166 (lv_at hl 2 rfl) ?_
        refine lv_if_eq (tgt := 176) hx hb dX2_together_168 (by decide) (fun c_168 => ?_) (fun c_168 => ?_)
        · skip
          refine lv_iconst (v := 0) hx hb dX2_together_176 (by decide) ?_
          exact W.iret hx hb hr (fun t ht _ => ri (by simp only [o_together, if_pos hC]; rw [← ep, ← eq, ← er, ← es]; unfold f_tog; rw [← hbl, ← eab]; first | exact (if_pos (Or.inl c_168)).symm | exact (if_pos (Or.inr c_173)).symm) ht) no_locs dX2_together_177
        · skip
          refine lv_iload hx hb dX2_together_171 (lv_at hl 0 rfl) ?_
          refine lv_if_ne (tgt := 178) hx hb dX2_together_173 (by decide) (fun c_173 => ?_) (fun c_173 => ?_)
          · skip
            refine lv_sipush (v := 1000) hx hb dX2_together_178 (by decide) ?_
            refine lv_iload hx hb dX2_together_181 (lv_at hl 2 rfl) ?_
            refine lv_imul hx hb dX2_together_183 ?_
            refine lv_iload hx hb dX2_together_184 (lv_at hl 0 rfl) ?_
            refine lv_idiv hx hb dX2_together_186 (c_173) ?_
            exact W.iret hx hb hr (fun t ht _ => ri (by simp only [o_together, if_pos hC]; rw [← ep, ← eq, ← er, ← es]; unfold f_tog; rw [← hbl, ← eab]; exact (if_neg (fun h => h.elim c_168 c_173)).symm) ht) no_locs dX2_together_187
          · skip
            refine lv_iconst (v := 0) hx hb dX2_together_176 (by decide) ?_
            exact W.iret hx hb hr (fun t ht _ => ri (by simp only [o_together, if_pos hC]; rw [← ep, ← eq, ← er, ← es]; unfold f_tog; rw [← hbl, ← eab]; first | exact (if_pos (Or.inl c_168)).symm | exact (if_pos (Or.inr c_173)).symm) ht) no_locs dX2_together_177
    · skip
      have c_11 := bI_eq.mp c_11
      have hC : ¬ (strm a0 ∧ strm a1) := fun h => c_11 h.2
      refine lv_ldc (v := (-100000)) hx hb hown hw0 dX2_together_14 ?_
      exact W.iret hx hb hr (fun t ht _ => ri (by simp only [o_together, if_neg hC]) ht) no_locs dX2_together_16
