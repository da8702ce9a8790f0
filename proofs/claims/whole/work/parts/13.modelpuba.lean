theorem kd_X3_length : yX3_length.cls ≠ "java/lang/invoke/MethodHandle" ∧ yX3_length.cls ≠ "java/lang/invoke/VarHandle" ∧ (parseMethodDescriptor yX3_length.desc).map (fun d => d.parameters.length) = some 1 := by decide +kernel
set_option maxHeartbeats 4000000 in
set_option maxRecDepth 100000 in
theorem c_X3_length (l : Launch) {dC : Nat → ClassId} {dI : Nat → Nat → Nat} {ad : Nat → Nat} {cI cJ : ClassId} {ln : Int32} {dg : Int32} {sc : Int32} {ms : Int32} {mi : Int32} {mv : Int32} {mw : Int32} {pu : Int64} {pl : Int64} {st : (Nat → Int64)} {fr : (Nat → Int64)} {sr : (Nat → Int64)} {nu : (Nat → Int32)} {sz : Nat} {a0 : Int32} : Met l yX3_length wsX3_length ({ frames := 0, cells := 0, slots := 0, locals := 0 }) (va_Pc ([.ref (ad 0), .int a0] : List Value) (gW sz (dC, dI) (tyw cI cJ) (yw ad cI cJ ln dg sc ms mi mv mw pu pl st fr sr nu))) (va_Qi (fun r (_u : Unit) => r = (p_length ln st a0).1) (fun _u t => va_P (dC, dI) vwCl (yw ad cI cJ (p_length ln st a0).2.1 dg sc ms mi mv mw pu pl (p_length ln st a0).2.2 fr sr nu) t.heap) (va_A (yw ad cI cJ ln dg sc ms mi mv mw pu pl st fr sr nu) sz)) 0 0 (va_A (yw ad cI cJ ln dg sc ms mi mv mw pu pl st fr sr nu) sz) := by
  refine Met.ofW (cc := cX3_length) (maxL := 4) (ret := (some .int)) (by decide) rfl ?_
  intro p e s m args below meth c s₁ B hml hv
  obtain ⟨rfl, hsz, ⟨hnw, hK, hP⟩, hD0⟩ := hv
  have hx := B.exec
  have hb := B.bytes
  have hr := B.returns
  have hts := atoms_spec (ws := wsX3_length) B.pre
  have hown : s.vm.findClass RX3 = some m.cls := findClass_of_methodNamed B.named
  have hlocks := B.notSynchronized
  subst hsz
  have hD := hD0.self (sz := s.heap.size)
  generalize hAe : va_A (yw ad cI cJ ln dg sc ms mi mv mw pu pl st fr sr nu) s.heap.size = A at hD ⊢
  have hA : ∀ q : Nat, s.heap.size ≤ q → A q := fun q h => by rw [← hAe]; exact Or.inr h
  have hS : va_S A s.heap s.heap [] := va_S.rf
  have hw0 := hts (.fieldLink RX3 23 "BitStreamsModel" "size" "I") (by decide +kernel)
  have hw1 := hts (.fieldLink RX3 7 "BitStreamsModel" "rows" "[J") (by decide +kernel)
  have inX3 : ∀ w ∈ wsX30, w ∈ wsX3_length := by decide +kernel
  have hl := lv_entry ([.ref (ad 0), .int a0] : List Value) (n := 4) (Nat.le_of_ble_eq_true rfl)
  rw [lg_entry_eq]
  generalize (lg_sl ([.ref (ad 0), .int a0] : List Value) ++ List.replicate (4 - (lg_sl ([.ref (ad 0), .int a0] : List Value)).length) Slot.unset).toArray = ls at hl ⊢
  have hl : lv_has ls 4 [(0, .ref (ad 0)), (1, .int a0)] := hl
  refine lv_iload_n hx hb dX3_length_0 rfl (lv_at hl 1 rfl) ?_
  refine lv_bipush (v := 8) hx hb dX3_length_1 (by decide) ?_
  refine lv_icmp_eq (tgt := 27) hx hb dX3_length_3 (by decide) (fun c_3 => ?_) (fun c_3 => ?_)
  · skip
    have hC : lens a0 := Or.inl c_3
    refine lv_aload_n hx hb dX3_length_27 rfl (lv_at hl 0 rfl) ?_
    refine va_get (D := (dC, dI)) (ci := 3) (C := RX3) (T := TX3) (N := 13) hx hb hts inX3 hown hK hP 0 rfl rfl 0 (by decide) hw0 (fun _ h9 => h9) rfl dX3_length_28 ?_
    refine lv_istore_n (lv' := [(2, .int _), (0, .ref _), (1, .int _)]) hx hb dX3_length_31 rfl hl (by decide) rfl (fun ls hl => ?_)
    refine lv_aload_n hx hb dX3_length_32 rfl (lv_at hl 1 rfl) ?_
    refine lv_iload_n hx hb dX3_length_33 rfl (lv_at hl 2 rfl) ?_
    refine va_put (D := (dC, dI)) (ci := 3) (ty := .int) (C := RX3) (T := TX3) (N := 13) hx hb hts inX3 tyX3 tyX3_ok nmX3 hown hK hP hD hS 0 rfl rfl 0 (by decide) hw0 (fun _ h9 => h9) rfl (by decide +kernel) rfl rfl (Nat.le_of_ble_eq_true rfl) dX3_length_34 (fun H locs hP hD hS => ?_)
    have hP : va_P (dC, dI) vwCl (yw ad cI cJ a0 dg sc ms mi mv mw pu pl st fr sr nu) H := hP
    have hD : va_D A (yw ad cI cJ a0 dg sc ms mi mv mw pu pl st fr sr nu) := va_D_addr hD rfl
    refine lv_iconst (v := 0) hx hb dX3_length_37 (by decide) ?_
    refine lv_istore_n (lv' := [(3, .int _), (2, .int _), (0, .ref _), (1, .int _)]) hx hb dX3_length_38 rfl hl (by decide) rfl (fun ls hl => ?_)
    have L39 : ∀ (n39 : Nat) (kq : Nat) (uq : Nat → Int64), 13 ≤ kq + n39 → (kq ≤ 12) → (∀ i, uq i = if i < kq then 0 else st i) → ∀ (H : Heap) (locs : List Loc), va_P (dC, dI) vwCl (yw ad cI cJ a0 dg sc ms mi mv mw pu pl uq fr sr nu) H → va_S A s.heap H locs → ∀ (ls : Array Slot), lv_has ls 4 [(0, .ref (ad 0)), (1, .int a0), (2, .int ln), (3, .int (nI kq))] → W p l e { frames := 0, cells := 0, slots := 0, locals := 0 } s m ([.ref (ad 0), .int a0] : List Value).toArray below meth c H locs 0 0 (MQ below (va_Qi (fun r (_u : Unit) => r = (p_length ln st a0).1) (fun _u t => va_P (dC, dI) vwCl (yw ad cI cJ (p_length ln st a0).2.1 dg sc ms mi mv mw pu pl (p_length ln st a0).2.2 fr sr nu) t.heap) A) ([.ref (ad 0), .int a0] : List Value).toArray s 0 0 (A)) (F0 m 39 ls []) := by
      intro n39
      induction n39 with
      | zero =>
        intro kq uq hf39 hk hu
        exact absurd hf39 (by omega)
      | succ n39 ih39 =>
        intro kq uq hf39 hk hu H locs hP hS ls hl
        have hD : va_D A (yw ad cI cJ a0 dg sc ms mi mv mw pu pl uq fr sr nu) := va_D_addr hD rfl
        refine lv_iload_n hx hb dX3_length_39 rfl (lv_at hl 3 rfl) ?_
        refine lv_bipush (v := 12) hx hb dX3_length_40 (by decide) ?_
        refine lv_icmp_ge (tgt := 58) hx hb dX3_length_42 (by decide) (fun c_42 => ?_) (fun c_42 => ?_)
        · skip
          have hz : kq = 12 := by have := (nI_leI (a := 12) (b := kq) (by omega) (by omega)).mp c_42; omega
          refine lv_iload_n hx hb dX3_length_58 rfl (lv_at hl 2 rfl) ?_
          have eu : uq = fun i => if i < 12 then 0 else st i := funext (fun i => by rw [hu i, hz])
          subst eu
          simp only [p_length, if_pos hC]
          exact W.iret hx hb hr (fun t ht _ => ⟨⟨_, (), rfl, rfl, wpost ht hP⟩, hS.F ht⟩) hS.2.2 dX3_length_59
        · skip
          have hz : kq < 12 := by have := mt (nI_leI (a := 12) (b := kq) (by omega) (by omega)).mpr c_42; omega
          refine lv_aload_n hx hb dX3_length_45 rfl (lv_at hl 0 rfl) ?_
          refine va_get (D := (dC, dI)) (ci := 3) (C := RX3) (T := TX3) (N := 13) hx hb hts inX3 hown hK hP 0 rfl rfl 1 (by decide) hw1 (fun _ h9 => h9) rfl dX3_length_46 ?_
          refine lv_iload_n hx hb dX3_length_49 rfl (lv_at hl 3 rfl) ?_
          refine lv_lconst (v := 0) hx hb dX3_length_50 (by decide) ?_
          refine va_last hx hb hK hP hD hS 1 1 rfl rfl (vp_in_nI hz (by omega)) dX3_length_51 (fun H locs hP hD hS => ?_)
          have hP : va_P (dC, dI) vwCl (yw ad cI cJ a0 dg sc ms mi mv mw pu pl _ fr sr nu) H := hP
          have hD : va_D A (yw ad cI cJ a0 dg sc ms mi mv mw pu pl _ fr sr nu) := va_D_addr hD rfl
          refine lv_iinc (lv' := [(3, .int (nI (kq + 1))), (0, .ref _), (1, .int _), (2, .int _)]) hx hb dX3_length_52 hl (k := 3) rfl (nI_1 _) (by decide) rfl (fun ls hl => ?_)
          refine lv_goto (tgt := 39) hx hb dX3_length_55 (by decide) ?_
          exact ih39 (kq + 1) _ (by omega) (by omega) (fun i => by rw [nI_cl (by omega)]; exact fz_step hu i) _ _ hP hS ls (lv_sub hl [1, 2, 3, 0] rfl)
    exact L39 13 0 st (by omega) (by omega) (fun i => by rw [if_neg (by omega)]) _ _ hP hS ls (lv_sub hl [2, 3, 1, 0] rfl)
  · skip
    refine lv_iload_n hx hb dX3_length_6 rfl (lv_at hl 1 rfl) ?_
    refine lv_bipush (v := 16) hx hb dX3_length_7 (by decide) ?_
    refine lv_icmp_eq (tgt := 27) hx hb dX3_length_9 (by decide) (fun c_9 => ?_) (fun c_9 => ?_)
    · skip
      have hC : lens a0 := Or.inr (Or.inl c_9)
      refine lv_aload_n hx hb dX3_length_27 rfl (lv_at hl 0 rfl) ?_
      refine va_get (D := (dC, dI)) (ci := 3) (C := RX3) (T := TX3) (N := 13) hx hb hts inX3 hown hK hP 0 rfl rfl 0 (by decide) hw0 (fun _ h9 => h9) rfl dX3_length_28 ?_
      refine lv_istore_n (lv' := [(2, .int _), (0, .ref _), (1, .int _)]) hx hb dX3_length_31 rfl hl (by decide) rfl (fun ls hl => ?_)
      refine lv_aload_n hx hb dX3_length_32 rfl (lv_at hl 1 rfl) ?_
      refine lv_iload_n hx hb dX3_length_33 rfl (lv_at hl 2 rfl) ?_
      refine va_put (D := (dC, dI)) (ci := 3) (ty := .int) (C := RX3) (T := TX3) (N := 13) hx hb hts inX3 tyX3 tyX3_ok nmX3 hown hK hP hD hS 0 rfl rfl 0 (by decide) hw0 (fun _ h9 => h9) rfl (by decide +kernel) rfl rfl (Nat.le_of_ble_eq_true rfl) dX3_length_34 (fun H locs hP hD hS => ?_)
      have hP : va_P (dC, dI) vwCl (yw ad cI cJ a0 dg sc ms mi mv mw pu pl st fr sr nu) H := hP
      have hD : va_D A (yw ad cI cJ a0 dg sc ms mi mv mw pu pl st fr sr nu) := va_D_addr hD rfl
      refine lv_iconst (v := 0) hx hb dX3_length_37 (by decide) ?_
      refine lv_istore_n (lv' := [(3, .int _), (2, .int _), (0, .ref _), (1, .int _)]) hx hb dX3_length_38 rfl hl (by decide) rfl (fun ls hl => ?_)
      have L39 : ∀ (n39 : Nat) (kq : Nat) (uq : Nat → Int64), 13 ≤ kq + n39 → (kq ≤ 12) → (∀ i, uq i = if i < kq then 0 else st i) → ∀ (H : Heap) (locs : List Loc), va_P (dC, dI) vwCl (yw ad cI cJ a0 dg sc ms mi mv mw pu pl uq fr sr nu) H → va_S A s.heap H locs → ∀ (ls : Array Slot), lv_has ls 4 [(0, .ref (ad 0)), (1, .int a0), (2, .int ln), (3, .int (nI kq))] → W p l e { frames := 0, cells := 0, slots := 0, locals := 0 } s m ([.ref (ad 0), .int a0] : List Value).toArray below meth c H locs 0 0 (MQ below (va_Qi (fun r (_u : Unit) => r = (p_length ln st a0).1) (fun _u t => va_P (dC, dI) vwCl (yw ad cI cJ (p_length ln st a0).2.1 dg sc ms mi mv mw pu pl (p_length ln st a0).2.2 fr sr nu) t.heap) A) ([.ref (ad 0), .int a0] : List Value).toArray s 0 0 (A)) (F0 m 39 ls []) := by
        intro n39
        induction n39 with
        | zero =>
          intro kq uq hf39 hk hu
          exact absurd hf39 (by omega)
        | succ n39 ih39 =>
          intro kq uq hf39 hk hu H locs hP hS ls hl
          have hD : va_D A (yw ad cI cJ a0 dg sc ms mi mv mw pu pl uq fr sr nu) := va_D_addr hD rfl
          refine lv_iload_n hx hb dX3_length_39 rfl (lv_at hl 3 rfl) ?_
          refine lv_bipush (v := 12) hx hb dX3_length_40 (by decide) ?_
          refine lv_icmp_ge (tgt := 58) hx hb dX3_length_42 (by decide) (fun c_42 => ?_) (fun c_42 => ?_)
          · skip
            have hz : kq = 12 := by have := (nI_leI (a := 12) (b := kq) (by omega) (by omega)).mp c_42; omega
            refine lv_iload_n hx hb dX3_length_58 rfl (lv_at hl 2 rfl) ?_
            have eu : uq = fun i => if i < 12 then 0 else st i := funext (fun i => by rw [hu i, hz])
            subst eu
            simp only [p_length, if_pos hC]
            exact W.iret hx hb hr (fun t ht _ => ⟨⟨_, (), rfl, rfl, wpost ht hP⟩, hS.F ht⟩) hS.2.2 dX3_length_59
          · skip
            have hz : kq < 12 := by have := mt (nI_leI (a := 12) (b := kq) (by omega) (by omega)).mpr c_42; omega
            refine lv_aload_n hx hb dX3_length_45 rfl (lv_at hl 0 rfl) ?_
            refine va_get (D := (dC, dI)) (ci := 3) (C := RX3) (T := TX3) (N := 13) hx hb hts inX3 hown hK hP 0 rfl rfl 1 (by decide) hw1 (fun _ h9 => h9) rfl dX3_length_46 ?_
            refine lv_iload_n hx hb dX3_length_49 rfl (lv_at hl 3 rfl) ?_
            refine lv_lconst (v := 0) hx hb dX3_length_50 (by decide) ?_
            refine va_last hx hb hK hP hD hS 1 1 rfl rfl (vp_in_nI hz (by omega)) dX3_length_51 (fun H locs hP hD hS => ?_)
            have hP : va_P (dC, dI) vwCl (yw ad cI cJ a0 dg sc ms mi mv mw pu pl _ fr sr nu) H := hP
            have hD : va_D A (yw ad cI cJ a0 dg sc ms mi mv mw pu pl _ fr sr nu) := va_D_addr hD rfl
            refine lv_iinc (lv' := [(3, .int (nI (kq + 1))), (0, .ref _), (1, .int _), (2, .int _)]) hx hb dX3_length_52 hl (k := 3) rfl (nI_1 _) (by decide) rfl (fun ls hl => ?_)
            refine lv_goto (tgt := 39) hx hb dX3_length_55 (by decide) ?_
            exact ih39 (kq + 1) _ (by omega) (by omega) (fun i => by rw [nI_cl (by omega)]; exact fz_step hu i) _ _ hP hS ls (lv_sub hl [1, 2, 3, 0] rfl)
      exact L39 13 0 st (by omega) (by omega) (fun i => by rw [if_neg (by omega)]) _ _ hP hS ls (lv_sub hl [2, 3, 1, 0] rfl)
    · skip
      refine lv_iload_n hx hb dX3_length_12 rfl (lv_at hl 1 rfl) ?_
      refine lv_bipush (v := 32) hx hb dX3_length_13 (by decide) ?_
      refine lv_icmp_eq (tgt := 27) hx hb dX3_length_15 (by decide) (fun c_15 => ?_) (fun c_15 => ?_)
      · skip
        have hC : lens a0 := Or.inr (Or.inr (Or.inl c_15))
        refine lv_aload_n hx hb dX3_length_27 rfl (lv_at hl 0 rfl) ?_
        refine va_get (D := (dC, dI)) (ci := 3) (C := RX3) (T := TX3) (N := 13) hx hb hts inX3 hown hK hP 0 rfl rfl 0 (by decide) hw0 (fun _ h9 => h9) rfl dX3_length_28 ?_
        refine lv_istore_n (lv' := [(2, .int _), (0, .ref _), (1, .int _)]) hx hb dX3_length_31 rfl hl (by decide) rfl (fun ls hl => ?_)
        refine lv_aload_n hx hb dX3_length_32 rfl (lv_at hl 1 rfl) ?_
        refine lv_iload_n hx hb dX3_length_33 rfl (lv_at hl 2 rfl) ?_
        refine va_put (D := (dC, dI)) (ci := 3) (ty := .int) (C := RX3) (T := TX3) (N := 13) hx hb hts inX3 tyX3 tyX3_ok nmX3 hown hK hP hD hS 0 rfl rfl 0 (by decide) hw0 (fun _ h9 => h9) rfl (by decide +kernel) rfl rfl (Nat.le_of_ble_eq_true rfl) dX3_length_34 (fun H locs hP hD hS => ?_)
        have hP : va_P (dC, dI) vwCl (yw ad cI cJ a0 dg sc ms mi mv mw pu pl st fr sr nu) H := hP
        have hD : va_D A (yw ad cI cJ a0 dg sc ms mi mv mw pu pl st fr sr nu) := va_D_addr hD rfl
        refine lv_iconst (v := 0) hx hb dX3_length_37 (by decide) ?_
        refine lv_istore_n (lv' := [(3, .int _), (2, .int _), (0, .ref _), (1, .int _)]) hx hb dX3_length_38 rfl hl (by decide) rfl (fun ls hl => ?_)
        have L39 : ∀ (n39 : Nat) (kq : Nat) (uq : Nat → Int64), 13 ≤ kq + n39 → (kq ≤ 12) → (∀ i, uq i = if i < kq then 0 else st i) → ∀ (H : Heap) (locs : List Loc), va_P (dC, dI) vwCl (yw ad cI cJ a0 dg sc ms mi mv mw pu pl uq fr sr nu) H → va_S A s.heap H locs → ∀ (ls : Array Slot), lv_has ls 4 [(0, .ref (ad 0)), (1, .int a0), (2, .int ln), (3, .int (nI kq))] → W p l e { frames := 0, cells := 0, slots := 0, locals := 0 } s m ([.ref (ad 0), .int a0] : List Value).toArray below meth c H locs 0 0 (MQ below (va_Qi (fun r (_u : Unit) => r = (p_length ln st a0).1) (fun _u t => va_P (dC, dI) vwCl (yw ad cI cJ (p_length ln st a0).2.1 dg sc ms mi mv mw pu pl (p_length ln st a0).2.2 fr sr nu) t.heap) A) ([.ref (ad 0), .int a0] : List Value).toArray s 0 0 (A)) (F0 m 39 ls []) := by
          intro n39
          induction n39 with
          | zero =>
            intro kq uq hf39 hk hu
            exact absurd hf39 (by omega)
          | succ n39 ih39 =>
            intro kq uq hf39 hk hu H locs hP hS ls hl
            have hD : va_D A (yw ad cI cJ a0 dg sc ms mi mv mw pu pl uq fr sr nu) := va_D_addr hD rfl
            refine lv_iload_n hx hb dX3_length_39 rfl (lv_at hl 3 rfl) ?_
            refine lv_bipush (v := 12) hx hb dX3_length_40 (by decide) ?_
            refine lv_icmp_ge (tgt := 58) hx hb dX3_length_42 (by decide) (fun c_42 => ?_) (fun c_42 => ?_)
            · skip
              have hz : kq = 12 := by have := (nI_leI (a := 12) (b := kq) (by omega) (by omega)).mp c_42; omega
              refine lv_iload_n hx hb dX3_length_58 rfl (lv_at hl 2 rfl) ?_
              have eu : uq = fun i => if i < 12 then 0 else st i := funext (fun i => by rw [hu i, hz])
              subst eu
              simp only [p_length, if_pos hC]
              exact W.iret hx hb hr (fun t ht _ => ⟨⟨_, (), rfl, rfl, wpost ht hP⟩, hS.F ht⟩) hS.2.2 dX3_length_59
            · skip
              have hz : kq < 12 := by have := mt (nI_leI (a := 12) (b := kq) (by omega) (by omega)).mpr c_42; omega
              refine lv_aload_n hx hb dX3_length_45 rfl (lv_at hl 0 rfl) ?_
              refine va_get (D := (dC, dI)) (ci := 3) (C := RX3) (T := TX3) (N := 13) hx hb hts inX3 hown hK hP 0 rfl rfl 1 (by decide) hw1 (fun _ h9 => h9) rfl dX3_length_46 ?_
              refine lv_iload_n hx hb dX3_length_49 rfl (lv_at hl 3 rfl) ?_
              refine lv_lconst (v := 0) hx hb dX3_length_50 (by decide) ?_
              refine va_last hx hb hK hP hD hS 1 1 rfl rfl (vp_in_nI hz (by omega)) dX3_length_51 (fun H locs hP hD hS => ?_)
              have hP : va_P (dC, dI) vwCl (yw ad cI cJ a0 dg sc ms mi mv mw pu pl _ fr sr nu) H := hP
              have hD : va_D A (yw ad cI cJ a0 dg sc ms mi mv mw pu pl _ fr sr nu) := va_D_addr hD rfl
              refine lv_iinc (lv' := [(3, .int (nI (kq + 1))), (0, .ref _), (1, .int _), (2, .int _)]) hx hb dX3_length_52 hl (k := 3) rfl (nI_1 _) (by decide) rfl (fun ls hl => ?_)
              refine lv_goto (tgt := 39) hx hb dX3_length_55 (by decide) ?_
              exact ih39 (kq + 1) _ (by omega) (by omega) (fun i => by rw [nI_cl (by omega)]; exact fz_step hu i) _ _ hP hS ls (lv_sub hl [1, 2, 3, 0] rfl)
        exact L39 13 0 st (by omega) (by omega) (fun i => by rw [if_neg (by omega)]) _ _ hP hS ls (lv_sub hl [2, 3, 1, 0] rfl)
      · skip
        refine lv_iload_n hx hb dX3_length_18 rfl (lv_at hl 1 rfl) ?_
        refine lv_bipush (v := 64) hx hb dX3_length_19 (by decide) ?_
        refine lv_icmp_eq (tgt := 27) hx hb dX3_length_21 (by decide) (fun c_21 => ?_) (fun c_21 => ?_)
        · skip
          have hC : lens a0 := Or.inr (Or.inr (Or.inr c_21))
          refine lv_aload_n hx hb dX3_length_27 rfl (lv_at hl 0 rfl) ?_
          refine va_get (D := (dC, dI)) (ci := 3) (C := RX3) (T := TX3) (N := 13) hx hb hts inX3 hown hK hP 0 rfl rfl 0 (by decide) hw0 (fun _ h9 => h9) rfl dX3_length_28 ?_
          refine lv_istore_n (lv' := [(2, .int _), (0, .ref _), (1, .int _)]) hx hb dX3_length_31 rfl hl (by decide) rfl (fun ls hl => ?_)
          refine lv_aload_n hx hb dX3_length_32 rfl (lv_at hl 1 rfl) ?_
          refine lv_iload_n hx hb dX3_length_33 rfl (lv_at hl 2 rfl) ?_
          refine va_put (D := (dC, dI)) (ci := 3) (ty := .int) (C := RX3) (T := TX3) (N := 13) hx hb hts inX3 tyX3 tyX3_ok nmX3 hown hK hP hD hS 0 rfl rfl 0 (by decide) hw0 (fun _ h9 => h9) rfl (by decide +kernel) rfl rfl (Nat.le_of_ble_eq_true rfl) dX3_length_34 (fun H locs hP hD hS => ?_)
          have hP : va_P (dC, dI) vwCl (yw ad cI cJ a0 dg sc ms mi mv mw pu pl st fr sr nu) H := hP
          have hD : va_D A (yw ad cI cJ a0 dg sc ms mi mv mw pu pl st fr sr nu) := va_D_addr hD rfl
          refine lv_iconst (v := 0) hx hb dX3_length_37 (by decide) ?_
          refine lv_istore_n (lv' := [(3, .int _), (2, .int _), (0, .ref _), (1, .int _)]) hx hb dX3_length_38 rfl hl (by decide) rfl (fun ls hl => ?_)
          have L39 : ∀ (n39 : Nat) (kq : Nat) (uq : Nat → Int64), 13 ≤ kq + n39 → (kq ≤ 12) → (∀ i, uq i = if i < kq then 0 else st i) → ∀ (H : Heap) (locs : List Loc), va_P (dC, dI) vwCl (yw ad cI cJ a0 dg sc ms mi mv mw pu pl uq fr sr nu) H → va_S A s.heap H locs → ∀ (ls : Array Slot), lv_has ls 4 [(0, .ref (ad 0)), (1, .int a0), (2, .int ln), (3, .int (nI kq))] → W p l e { frames := 0, cells := 0, slots := 0, locals := 0 } s m ([.ref (ad 0), .int a0] : List Value).toArray below meth c H locs 0 0 (MQ below (va_Qi (fun r (_u : Unit) => r = (p_length ln st a0).1) (fun _u t => va_P (dC, dI) vwCl (yw ad cI cJ (p_length ln st a0).2.1 dg sc ms mi mv mw pu pl (p_length ln st a0).2.2 fr sr nu) t.heap) A) ([.ref (ad 0), .int a0] : List Value).toArray s 0 0 (A)) (F0 m 39 ls []) := by
            intro n39
            induction n39 with
            | zero =>
              intro kq uq hf39 hk hu
              exact absurd hf39 (by omega)
            | succ n39 ih39 =>
              intro kq uq hf39 hk hu H locs hP hS ls hl
              have hD : va_D A (yw ad cI cJ a0 dg sc ms mi mv mw pu pl uq fr sr nu) := va_D_addr hD rfl
              refine lv_iload_n hx hb dX3_length_39 rfl (lv_at hl 3 rfl) ?_
              refine lv_bipush (v := 12) hx hb dX3_length_40 (by decide) ?_
              refine lv_icmp_ge (tgt := 58) hx hb dX3_length_42 (by decide) (fun c_42 => ?_) (fun c_42 => ?_)
              · skip
                have hz : kq = 12 := by have := (nI_leI (a := 12) (b := kq) (by omega) (by omega)).mp c_42; omega
                refine lv_iload_n hx hb dX3_length_58 rfl (lv_at hl 2 rfl) ?_
                have eu : uq = fun i => if i < 12 then 0 else st i := funext (fun i => by rw [hu i, hz])
                subst eu
                simp only [p_length, if_pos hC]
                exact W.iret hx hb hr (fun t ht _ => ⟨⟨_, (), rfl, rfl, wpost ht hP⟩, hS.F ht⟩) hS.2.2 dX3_length_59
              · skip
                have hz : kq < 12 := by have := mt (nI_leI (a := 12) (b := kq) (by omega) (by omega)).mpr c_42; omega
                refine lv_aload_n hx hb dX3_length_45 rfl (lv_at hl 0 rfl) ?_
                refine va_get (D := (dC, dI)) (ci := 3) (C := RX3) (T := TX3) (N := 13) hx hb hts inX3 hown hK hP 0 rfl rfl 1 (by decide) hw1 (fun _ h9 => h9) rfl dX3_length_46 ?_
                refine lv_iload_n hx hb dX3_length_49 rfl (lv_at hl 3 rfl) ?_
                refine lv_lconst (v := 0) hx hb dX3_length_50 (by decide) ?_
                refine va_last hx hb hK hP hD hS 1 1 rfl rfl (vp_in_nI hz (by omega)) dX3_length_51 (fun H locs hP hD hS => ?_)
                have hP : va_P (dC, dI) vwCl (yw ad cI cJ a0 dg sc ms mi mv mw pu pl _ fr sr nu) H := hP
                have hD : va_D A (yw ad cI cJ a0 dg sc ms mi mv mw pu pl _ fr sr nu) := va_D_addr hD rfl
                refine lv_iinc (lv' := [(3, .int (nI (kq + 1))), (0, .ref _), (1, .int _), (2, .int _)]) hx hb dX3_length_52 hl (k := 3) rfl (nI_1 _) (by decide) rfl (fun ls hl => ?_)
                refine lv_goto (tgt := 39) hx hb dX3_length_55 (by decide) ?_
                exact ih39 (kq + 1) _ (by omega) (by omega) (fun i => by rw [nI_cl (by omega)]; exact fz_step hu i) _ _ hP hS ls (lv_sub hl [1, 2, 3, 0] rfl)
          exact L39 13 0 st (by omega) (by omega) (fun i => by rw [if_neg (by omega)]) _ _ hP hS ls (lv_sub hl [2, 3, 1, 0] rfl)
        · skip
          have hC : ¬ lens a0 := fun h => by rcases h with h | h | h | h; exact c_3 h; exact c_9 h; exact c_15 h; exact c_21 h
          refine lv_bipush (v := (-102)) hx hb dX3_length_24 (by decide) ?_
          simp only [p_length, if_neg hC]
          exact W.iret hx hb hr (fun t ht _ => ⟨⟨_, (), rfl, rfl, wpost ht hP⟩, hS.F ht⟩) hS.2.2 dX3_length_26
theorem kd_X3_source : yX3_source.cls ≠ "java/lang/invoke/MethodHandle" ∧ yX3_source.cls ≠ "java/lang/invoke/VarHandle" ∧ (parseMethodDescriptor yX3_source.desc).map (fun d => d.parameters.length) = some 3 := by decide +kernel
set_option maxHeartbeats 4000000 in
set_option maxRecDepth 100000 in
theorem c_X3_source (l : Launch) {dC : Nat → ClassId} {dI : Nat → Nat → Nat} {ad : Nat → Nat} {cI cJ : ClassId} {dg : Int32} {sc : Int32} {ms : Int32} {mi : Int32} {mv : Int32} {mw : Int32} {pu : Int64} {pl : Int64} {st : (Nat → Int64)} {fr : (Nat → Int64)} {sr : (Nat → Int64)} {nu : (Nat → Int32)} {sz : Nat} {a0 a1 a2 : Int32} {q : Nat} (hq : q ≤ 6) : Met l yX3_source wsX3_source ({ frames := 2, cells := 0, slots := 0, locals := 52 }) (va_Pc ([.ref (ad 0), .int a0, .int a1, .int a2] : List Value) (gW sz (dC, dI) (tyw cI cJ) (yw ad cI cJ (nI (2 ^ q)) dg sc ms mi mv mw pu pl st fr sr nu))) (va_Qi (fun r (_u : Unit) => r = (p_source q st a0 a1 a2).1) (fun _u t => va_P (dC, dI) vwCl (yw ad cI cJ (nI (2 ^ q)) dg sc ms mi mv mw pu pl (p_source q st a0 a1 a2).2 fr sr nu) t.heap) (va_A (yw ad cI cJ (nI (2 ^ q)) dg sc ms mi mv mw pu pl st fr sr nu) sz)) 0 0 (va_A (yw ad cI cJ (nI (2 ^ q)) dg sc ms mi mv mw pu pl st fr sr nu) sz) := by
  refine Met.ofW (cc := cX3_source) (maxL := 4) (ret := (some .int)) (by decide) rfl ?_
  intro p e s m args below meth c s₁ B hml hv
  obtain ⟨rfl, hsz, ⟨hnw, hK, hP⟩, hD0⟩ := hv
  have hx := B.exec
  have hb := B.bytes
  have hr := B.returns
  have hts := atoms_spec (ws := wsX3_source) B.pre
  have hown : s.vm.findClass RX3 = some m.cls := findClass_of_methodNamed B.named
  have hlocks := B.notSynchronized
  subst hsz
  have hD := hD0.self (sz := s.heap.size)
  generalize hAe : va_A (yw ad cI cJ (nI (2 ^ q)) dg sc ms mi mv mw pu pl st fr sr nu) s.heap.size = A at hD ⊢
  have hA : ∀ q : Nat, s.heap.size ≤ q → A q := fun q h => by rw [← hAe]; exact Or.inr h
  have hS : va_S A s.heap s.heap [] := va_S.rf
  have hw0 := hts (.fieldLink RX3 7 "BitStreamsModel" "rows" "[J") (by decide +kernel)
  have inX3 : ∀ w ∈ wsX30, w ∈ wsX3_source := by decide +kernel
  have hl := lv_entry ([.ref (ad 0), .int a0, .int a1, .int a2] : List Value) (n := 4) (Nat.le_of_ble_eq_true rfl)
  rw [lg_entry_eq]
  generalize (lg_sl ([.ref (ad 0), .int a0, .int a1, .int a2] : List Value) ++ List.replicate (4 - (lg_sl ([.ref (ad 0), .int a0, .int a1, .int a2] : List Value)).length) Slot.unset).toArray = ls at hl ⊢
  have hl : lv_has ls 4 [(0, .ref (ad 0)), (1, .int a0), (2, .int a1), (3, .int a2)] := hl
  refine lv_iload_n hx hb dX3_source_0 rfl (lv_at hl 1 rfl) ?_
  refine ro_i (va_runS ⟨hx, hb, hml, hown, hts⟩ (c_X3_isStream l ) (va_cwS 1 hts gX3_source_X3_isStream rfl rfl rfl kd_X3_isStream ⟨Nat.le_of_ble_eq_true rfl, Nat.le_of_ble_eq_true rfl⟩) preS0 rfl rfl hl.1 rfl (lv_room (Nat.le_of_ble_eq_true rfl)) dX3_source_1 ⟨Nat.zero_le _, Nat.zero_le _⟩) ?_
  refine lv_if_ne (tgt := 10) hx hb dX3_source_4 (by decide) (fun c_4 => ?_) (fun c_4 => ?_)
  · skip
    have c_4 := bI_ne.mp c_4
    refine lv_aload_n hx hb dX3_source_10 rfl (lv_at hl 0 rfl) ?_
    refine lv_iload_n hx hb dX3_source_11 rfl (lv_at hl 2 rfl) ?_
    refine lv_iload_n hx hb dX3_source_12 rfl (lv_at hl 3 rfl) ?_
    refine ro_i (va_runV ⟨hx, hb, hml, hown, hts⟩ (c_X3_isSource l ) (cwV 2 hts gX3_source_X3_isSource rfl rfl rfl ⟨rfl, kd_X3_isSource⟩ ⟨Nat.le_of_ble_eq_true rfl, Nat.le_of_ble_eq_true rfl⟩) (preV1 hnw hK hP 0 3 rfl rfl) rfl rfl hl.1 rfl (lv_room (Nat.le_of_ble_eq_true rfl)) dX3_source_13 ⟨Nat.zero_le _, Nat.zero_le _⟩) ?_
    refine lv_if_ne (tgt := 22) hx hb dX3_source_16 (by decide) (fun c_16 => ?_) (fun c_16 => ?_)
    · skip
      have c_16 := bI_ne.mp c_16
      refine lv_aload_n hx hb dX3_source_22 rfl (lv_at hl 0 rfl) ?_
      refine va_get (D := (dC, dI)) (ci := 3) (C := RX3) (T := TX3) (N := 13) hx hb hts inX3 hown hK hP 0 rfl rfl 1 (by decide) hw0 (fun _ h9 => h9) rfl dX3_source_23 ?_
      refine lv_iload_n hx hb dX3_source_26 rfl (lv_at hl 1 rfl) ?_
      refine lv_aload_n hx hb dX3_source_27 rfl (lv_at hl 0 rfl) ?_
      refine lv_iload_n hx hb dX3_source_28 rfl (lv_at hl 2 rfl) ?_
      refine lv_iload_n hx hb dX3_source_29 rfl (lv_at hl 3 rfl) ?_
      refine ro_l (va_runV ⟨hx, hb, hml, hown, hts⟩ (c_X3_sourceRow l hq) (cwV 2 hts gX3_source_X3_sourceRow rfl rfl rfl ⟨rfl, kd_X3_sourceRow⟩ ⟨Nat.le_of_ble_eq_true rfl, Nat.le_of_ble_eq_true rfl⟩) (preV1 hnw hK hP 0 3 rfl rfl) rfl rfl hl.1 rfl (lv_room (Nat.le_of_ble_eq_true rfl)) dX3_source_30 ⟨Nat.zero_le _, Nat.zero_le _⟩) ?_
      refine va_last hx hb hK hP hD hS 1 1 rfl rfl (strm_in c_4) dX3_source_33 (fun H locs hP hD hS => ?_)
      have hP : va_P (dC, dI) vwCl (yw ad cI cJ (nI (2 ^ q)) dg sc ms mi mv mw pu pl _ fr sr nu) H := hP
      have hD : va_D A (yw ad cI cJ (nI (2 ^ q)) dg sc ms mi mv mw pu pl _ fr sr nu) := va_D_addr hD rfl
      refine lv_aload_n hx hb dX3_source_34 rfl (lv_at hl 0 rfl) ?_
      refine lv_aload_n hx hb dX3_source_35 rfl (lv_at hl 0 rfl) ?_
      refine va_get (D := (dC, dI)) (ci := 3) (C := RX3) (T := TX3) (N := 13) hx hb hts inX3 hown hK hP 0 rfl rfl 1 (by decide) hw0 (fun _ h9 => h9) rfl dX3_source_36 ?_
      refine lv_iload_n hx hb dX3_source_39 rfl (lv_at hl 1 rfl) ?_
      refine va_lald hx hb hK hP 1 1 rfl rfl (strm_in c_4) dX3_source_40 ?_
      refine st_l (v := g_srow q a1 a2 (2 ^ q)) pk_uLs ?_
      refine ro_i (va_runV ⟨hx, hb, hml, hown, hts⟩ (c_X3_onesOf l ) (cwV 1 hts gX3_source_X3_onesOf rfl rfl rfl ⟨rfl, kd_X3_onesOf⟩ ⟨Nat.le_of_ble_eq_true rfl, Nat.le_of_ble_eq_true rfl⟩) (preV1 hnw hK hP 0 3 rfl rfl) rfl rfl hl.1 rfl (lv_room (Nat.le_of_ble_eq_true rfl)) dX3_source_41 ⟨Nat.zero_le _, Nat.zero_le _⟩) ?_
      refine st_i (v := g_ones (g_srow q a1 a2 (2 ^ q)) (2 ^ q)) (by rw [pw_cl hq]) ?_
      simp only [p_source, if_pos c_4, if_pos c_16, p_set]
      exact W.iret hx hb hr (fun t ht _ => ⟨⟨_, (), rfl, rfl, wpost ht hP⟩, hS.F ht⟩) hS.2.2 dX3_source_44
    · skip
      have c_16 := bI_eq.mp c_16
      refine lv_bipush (v := (-102)) hx hb dX3_source_19 (by decide) ?_
      simp only [p_source, if_pos c_4, if_neg c_16]
      exact W.iret hx hb hr (fun t ht _ => ⟨⟨_, (), rfl, rfl, wpost ht hP⟩, hS.F ht⟩) hS.2.2 dX3_source_21
  · skip
    have c_4 := bI_eq.mp c_4
    refine lv_bipush (v := (-101)) hx hb dX3_source_7 (by decide) ?_
    simp only [p_source, if_neg c_4]
    exact W.iret hx hb hr (fun t ht _ => ⟨⟨_, (), rfl, rfl, wpost ht hP⟩, hS.F ht⟩) hS.2.2 dX3_source_9
theorem kd_X3_put : yX3_put.cls ≠ "java/lang/invoke/MethodHandle" ∧ yX3_put.cls ≠ "java/lang/invoke/VarHandle" ∧ (parseMethodDescriptor yX3_put.desc).map (fun d => d.parameters.length) = some 3 := by decide +kernel
set_option maxHeartbeats 4000000 in
set_option maxRecDepth 100000 in
theorem c_X3_put (l : Launch) {dC : Nat → ClassId} {dI : Nat → Nat → Nat} {ad : Nat → Nat} {cI cJ : ClassId} {ln : Int32} {dg : Int32} {sc : Int32} {ms : Int32} {mi : Int32} {mv : Int32} {mw : Int32} {pu : Int64} {pl : Int64} {st : (Nat → Int64)} {fr : (Nat → Int64)} {sr : (Nat → Int64)} {nu : (Nat → Int32)} {sz : Nat} {a0 a1 a2 : Int32} : Met l yX3_put wsX3_put ({ frames := 2, cells := 0, slots := 0, locals := 45 }) (va_Pc ([.ref (ad 0), .int a0, .int a1, .int a2] : List Value) (gW sz (dC, dI) (tyw cI cJ) (yw ad cI cJ ln dg sc ms mi mv mw pu pl st fr sr nu))) (va_Qi (fun r (_u : Unit) => r = (p_put ln st a0 a1 a2).1) (fun _u t => va_P (dC, dI) vwCl (yw ad cI cJ ln dg sc ms mi mv mw pu pl (p_put ln st a0 a1 a2).2 fr sr nu) t.heap) (va_A (yw ad cI cJ ln dg sc ms mi mv mw pu pl st fr sr nu) sz)) 0 0 (va_A (yw ad cI cJ ln dg sc ms mi mv mw pu pl st fr sr nu) sz) := by
  refine Met.ofW (cc := cX3_put) (maxL := 5) (ret := (some .int)) (by decide) rfl ?_
  intro p e s m args below meth c s₁ B hml hv
  obtain ⟨rfl, hsz, ⟨hnw, hK, hP⟩, hD0⟩ := hv
  have hx := B.exec
  have hb := B.bytes
  have hr := B.returns
  have hts := atoms_spec (ws := wsX3_put) B.pre
  have hown : s.vm.findClass RX3 = some m.cls := findClass_of_methodNamed B.named
  have hlocks := B.notSynchronized
  subst hsz
  have hD := hD0.self (sz := s.heap.size)
  generalize hAe : va_A (yw ad cI cJ ln dg sc ms mi mv mw pu pl st fr sr nu) s.heap.size = A at hD ⊢
  have hA : ∀ q : Nat, s.heap.size ≤ q → A q := fun q h => by rw [← hAe]; exact Or.inr h
  have hS : va_S A s.heap s.heap [] := va_S.rf
  have hw0 := hts (.fieldLink RX3 23 "BitStreamsModel" "size" "I") (by decide +kernel)
  have hw1 := hts (.fieldLink RX3 7 "BitStreamsModel" "rows" "[J") (by decide +kernel)
  have hw2 := hts (.constantLong RX3 65 (-1)) (by decide +kernel)
  have inX3 : ∀ w ∈ wsX30, w ∈ wsX3_put := by decide +kernel
  have hl := lv_entry ([.ref (ad 0), .int a0, .int a1, .int a2] : List Value) (n := 5) (Nat.le_of_ble_eq_true rfl)
  rw [lg_entry_eq]
  generalize (lg_sl ([.ref (ad 0), .int a0, .int a1, .int a2] : List Value) ++ List.replicate (5 - (lg_sl ([.ref (ad 0), .int a0, .int a1, .int a2] : List Value)).length) Slot.unset).toArray = ls at hl ⊢
  have hl : lv_has ls 5 [(0, .ref (ad 0)), (1, .int a0), (2, .int a1), (3, .int a2)] := hl
  refine lv_iload_n hx hb dX3_put_0 rfl (lv_at hl 1 rfl) ?_
  refine ro_i (va_runS ⟨hx, hb, hml, hown, hts⟩ (c_X3_isStream l ) (va_cwS 1 hts gX3_put_X3_isStream rfl rfl rfl kd_X3_isStream ⟨Nat.le_of_ble_eq_true rfl, Nat.le_of_ble_eq_true rfl⟩) preS0 rfl rfl hl.1 rfl (lv_room (Nat.le_of_ble_eq_true rfl)) dX3_put_1 ⟨Nat.zero_le _, Nat.zero_le _⟩) ?_
  refine lv_if_eq (tgt := 23) hx hb dX3_put_4 (by decide) (fun c_4 => ?_) (fun c_4 => ?_)
  · skip
    have c_4 := bI_eq.mp c_4
    have hC : ¬ (strm a0 ∧ (0 ≤ a1 ∧ a1 ≤ ln - 1)) := fun h => c_4 h.1
    refine lv_bipush (v := (-101)) hx hb dX3_put_23 (by decide) ?_
    simp only [p_put, if_neg hC]
    exact W.iret hx hb hr (fun t ht _ => ⟨⟨_, (), rfl, rfl, wpost ht hP⟩, hS.F ht⟩) hS.2.2 dX3_put_25
  · skip
    have c_4 := bI_ne.mp c_4
    refine lv_iload_n hx hb dX3_put_7 rfl (lv_at hl 2 rfl) ?_
    refine lv_i2l hx hb dX3_put_8 rfl ?_
    refine lv_lconst (v := 0) hx hb dX3_put_9 (by decide) ?_
    refine lv_aload_n hx hb dX3_put_10 rfl (lv_at hl 0 rfl) ?_
    refine va_get (D := (dC, dI)) (ci := 3) (C := RX3) (T := TX3) (N := 13) hx hb hts inX3 hown hK hP 0 rfl rfl 0 (by decide) hw0 (fun _ h9 => h9) rfl dX3_put_11 ?_
    refine lv_iconst (v := 1) hx hb dX3_put_14 (by decide) ?_
    refine lv_isub hx hb dX3_put_15 ?_
    refine lv_i2l hx hb dX3_put_16 rfl ?_
    refine ro_i (va_runS ⟨hx, hb, hml, hown, hts⟩ (c_X3_in l ) (va_cwS 3 hts gX3_put_X3_in rfl rfl rfl kd_X3_in ⟨Nat.le_of_ble_eq_true rfl, Nat.le_of_ble_eq_true rfl⟩) preS0 rfl rfl hl.1 rfl (lv_room (Nat.le_of_ble_eq_true rfl)) dX3_put_17 ⟨Nat.zero_le _, Nat.zero_le _⟩) ?_
    refine lv_if_ne (tgt := 26) hx hb dX3_put_20 (by decide) (fun c_20 => ?_) (fun c_20 => ?_)
    · skip
      have c_20 := bI_ne.mp c_20
      have c_20 : 0 ≤ a1 ∧ a1 ≤ ln - 1 := (in32 rfl rfl).mp c_20
      have hC : (strm a0 ∧ (0 ≤ a1 ∧ a1 ≤ ln - 1)) := ⟨c_4, c_20⟩
      refine lv_aload_n hx hb dX3_put_26 rfl (lv_at hl 0 rfl) ?_
      refine lv_aload_n hx hb dX3_put_27 rfl (lv_at hl 0 rfl) ?_
      refine va_get (D := (dC, dI)) (ci := 3) (C := RX3) (T := TX3) (N := 13) hx hb hts inX3 hown hK hP 0 rfl rfl 1 (by decide) hw1 (fun _ h9 => h9) rfl dX3_put_28 ?_
      refine lv_iload_n hx hb dX3_put_31 rfl (lv_at hl 1 rfl) ?_
      refine va_lald hx hb hK hP 1 1 rfl rfl (strm_in c_4) dX3_put_32 ?_
      refine lv_iload_n hx hb dX3_put_33 rfl (lv_at hl 2 rfl) ?_
      refine ro_i (va_runV ⟨hx, hb, hml, hown, hts⟩ (c_X3_bitOf l ) (cwV 2 hts gX3_put_X3_bitOf rfl rfl rfl ⟨rfl, kd_X3_bitOf⟩ ⟨Nat.le_of_ble_eq_true rfl, Nat.le_of_ble_eq_true rfl⟩) (preV1 hnw hK hP 0 3 rfl rfl) rfl rfl hl.1 rfl (lv_room (Nat.le_of_ble_eq_true rfl)) dX3_put_34 ⟨Nat.zero_le _, Nat.zero_le _⟩) ?_
      refine lv_istore (lv' := [(4, .int _), (0, .ref _), (1, .int _), (2, .int _), (3, .int _)]) hx hb dX3_put_37 hl (by decide) rfl (fun ls hl => ?_)
      refine lv_aload_n hx hb dX3_put_39 rfl (lv_at hl 1 rfl) ?_
      refine va_get (D := (dC, dI)) (ci := 3) (C := RX3) (T := TX3) (N := 13) hx hb hts inX3 hown hK hP 0 rfl rfl 1 (by decide) hw1 (fun _ h9 => h9) rfl dX3_put_40 ?_
      refine lv_iload_n hx hb dX3_put_43 rfl (lv_at hl 2 rfl) ?_
      refine lv_iload_n hx hb dX3_put_44 rfl (lv_at hl 4 rfl) ?_
      refine lv_if_eq (tgt := 61) hx hb dX3_put_45 (by decide) (fun c_45 => ?_) (fun c_45 => ?_)
      · skip
        have hq : ∀ x y : Int64, (if a2 = 0 then x else y) = x := fun x y => if_pos c_45
        refine lv_aload_n hx hb dX3_put_61 rfl (lv_at hl 1 rfl) ?_
        refine va_get (D := (dC, dI)) (ci := 3) (C := RX3) (T := TX3) (N := 13) hx hb hts inX3 hown hK hP 0 rfl rfl 1 (by decide) hw1 (fun _ h9 => h9) rfl dX3_put_62 ?_
        refine lv_iload_n hx hb dX3_put_65 rfl (lv_at hl 2 rfl) ?_
        refine va_lald hx hb hK hP 1 1 rfl rfl (strm_in c_4) dX3_put_66 ?_
        refine lv_lconst (v := 1) hx hb dX3_put_67 (by decide) ?_
        refine lv_iload_n hx hb dX3_put_68 rfl (lv_at hl 3 rfl) ?_
        refine lv_lshl hx hb dX3_put_69 rfl ?_
        refine lv_ldc2 (v := (-1)) hx hb hown hw2 dX3_put_70 ?_
        refine lv_lxor hx hb dX3_put_73 ?_
        refine lv_land hx hb dX3_put_74 ?_
        refine va_last hx hb hK hP hD hS 1 1 rfl rfl (strm_in c_4) dX3_put_75 (fun H locs hP hD hS => ?_)
        have hP : va_P (dC, dI) vwCl (yw ad cI cJ ln dg sc ms mi mv mw pu pl _ fr sr nu) H := hP
        have hD : va_D A (yw ad cI cJ ln dg sc ms mi mv mw pu pl _ fr sr nu) := va_D_addr hD rfl
        refine lv_iload hx hb dX3_put_76 (lv_at hl 0 rfl) ?_
        simp only [p_put, if_pos hC, hq]
        exact W.iret hx hb hr (fun t ht _ => ⟨⟨_, (), rfl, rfl, wpost ht hP⟩, hS.F ht⟩) hS.2.2 dX3_put_78
      · skip
        have hq : ∀ x y : Int64, (if a2 = 0 then x else y) = y := fun x y => if_neg c_45
        refine lv_aload_n hx hb dX3_put_48 rfl (lv_at hl 1 rfl) ?_
        refine va_get (D := (dC, dI)) (ci := 3) (C := RX3) (T := TX3) (N := 13) hx hb hts inX3 hown hK hP 0 rfl rfl 1 (by decide) hw1 (fun _ h9 => h9) rfl dX3_put_49 ?_
        refine lv_iload_n hx hb dX3_put_52 rfl (lv_at hl 2 rfl) ?_
        refine va_lald hx hb hK hP 1 1 rfl rfl (strm_in c_4) dX3_put_53 ?_
        refine lv_lconst (v := 1) hx hb dX3_put_54 (by decide) ?_
        refine lv_iload_n hx hb dX3_put_55 rfl (lv_at hl 3 rfl) ?_
        refine lv_lshl hx hb dX3_put_56 rfl ?_
        refine lv_lor hx hb dX3_put_57 ?_
        refine lv_goto (tgt := 75) hx hb dX3_put_58 (by decide) ?_
        refine va_last hx hb hK hP hD hS 1 1 rfl rfl (strm_in c_4) dX3_put_75 (fun H locs hP hD hS => ?_)
        have hP : va_P (dC, dI) vwCl (yw ad cI cJ ln dg sc ms mi mv mw pu pl _ fr sr nu) H := hP
        have hD : va_D A (yw ad cI cJ ln dg sc ms mi mv mw pu pl _ fr sr nu) := va_D_addr hD rfl
        refine lv_iload hx hb dX3_put_76 (lv_at hl 0 rfl) ?_
        simp only [p_put, if_pos hC, hq]
        exact W.iret hx hb hr (fun t ht _ => ⟨⟨_, (), rfl, rfl, wpost ht hP⟩, hS.F ht⟩) hS.2.2 dX3_put_78
    · skip
      have c_20 := bI_eq.mp c_20
      have c_20 : ¬ (0 ≤ a1 ∧ a1 ≤ ln - 1) := fun h => c_20 ((in32 rfl rfl).mpr h)
      have hC : ¬ (strm a0 ∧ (0 ≤ a1 ∧ a1 ≤ ln - 1)) := fun h => c_20 h.2
      refine lv_bipush (v := (-101)) hx hb dX3_put_23 (by decide) ?_
      simp only [p_put, if_neg hC]
      exact W.iret hx hb hr (fun t ht _ => ⟨⟨_, (), rfl, rfl, wpost ht hP⟩, hS.F ht⟩) hS.2.2 dX3_put_25
theorem kd_X3_bit : yX3_bit.cls ≠ "java/lang/invoke/MethodHandle" ∧ yX3_bit.cls ≠ "java/lang/invoke/VarHandle" ∧ (parseMethodDescriptor yX3_bit.desc).map (fun d => d.parameters.length) = some 2 := by decide +kernel
set_option maxHeartbeats 4000000 in
set_option maxRecDepth 100000 in
theorem c_X3_bit (l : Launch) {dC : Nat → ClassId} {dI : Nat → Nat → Nat} {ad : Nat → Nat} {cI cJ : ClassId} {ln : Int32} {dg : Int32} {sc : Int32} {ms : Int32} {mi : Int32} {mv : Int32} {mw : Int32} {pu : Int64} {pl : Int64} {st : (Nat → Int64)} {fr : (Nat → Int64)} {sr : (Nat → Int64)} {nu : (Nat → Int32)} {a0 a1 : Int32} : Met l yX3_bit wsX3_bit ({ frames := 2, cells := 0, slots := 0, locals := 45 }) (va_Pc ([.ref (ad 0), .int a0, .int a1] : List Value) (gB (dC, dI) (tyw cI cJ) (yw ad cI cJ ln dg sc ms mi mv mw pu pl st fr sr nu))) (QcRead (p_bit ln st a0 a1)) 0 0 (fun _ => False) := by
  refine Met.ofW (cc := cX3_bit) (maxL := 3) (ret := (some .int)) (by decide) rfl ?_
  intro p e s m args below meth c s₁ B hml hv
  obtain ⟨rfl, hnw, hK, hP⟩ := hv
  have hx := B.exec
  have hb := B.bytes
  have hr := B.returns
  have hts := atoms_spec (ws := wsX3_bit) B.pre
  have hown : s.vm.findClass RX3 = some m.cls := findClass_of_methodNamed B.named
  have hlocks := B.notSynchronized
  have hw0 := hts (.fieldLink RX3 23 "BitStreamsModel" "size" "I") (by decide +kernel)
  have hw1 := hts (.fieldLink RX3 7 "BitStreamsModel" "rows" "[J") (by decide +kernel)
  have inX3 : ∀ w ∈ wsX30, w ∈ wsX3_bit := by decide +kernel
  have hl := lv_entry ([.ref (ad 0), .int a0, .int a1] : List Value) (n := 3) (Nat.le_of_ble_eq_true rfl)
  rw [lg_entry_eq]
  generalize (lg_sl ([.ref (ad 0), .int a0, .int a1] : List Value) ++ List.replicate (3 - (lg_sl ([.ref (ad 0), .int a0, .int a1] : List Value)).length) Slot.unset).toArray = ls at hl ⊢
  have hl : lv_has ls 3 [(0, .ref (ad 0)), (1, .int a0), (2, .int a1)] := hl
  refine lv_iload_n hx hb dX3_bit_0 rfl (lv_at hl 1 rfl) ?_
  refine ro_i (va_runS ⟨hx, hb, hml, hown, hts⟩ (c_X3_isStream l ) (va_cwS 1 hts gX3_bit_X3_isStream rfl rfl rfl kd_X3_isStream ⟨Nat.le_of_ble_eq_true rfl, Nat.le_of_ble_eq_true rfl⟩) preS0 rfl rfl hl.1 rfl (lv_room (Nat.le_of_ble_eq_true rfl)) dX3_bit_1 ⟨Nat.zero_le _, Nat.zero_le _⟩) ?_
  refine lv_if_eq (tgt := 37) hx hb dX3_bit_4 (by decide) (fun c_4 => ?_) (fun c_4 => ?_)
  · skip
    have c_4 := bI_eq.mp c_4
    have hv : p_bit ln st a0 a1 = -101 := if_neg (fun h => c_4 h.1)
    refine lv_bipush (v := (-101)) hx hb dX3_bit_37 (by decide) ?_
    exact W.iret hx hb hr (fun t ht _ => ri hv.symm ht) no_locs dX3_bit_39
  · skip
    have c_4 := bI_ne.mp c_4
    refine lv_iload_n hx hb dX3_bit_7 rfl (lv_at hl 2 rfl) ?_
    refine lv_i2l hx hb dX3_bit_8 rfl ?_
    refine lv_lconst (v := 0) hx hb dX3_bit_9 (by decide) ?_
    refine lv_aload_n hx hb dX3_bit_10 rfl (lv_at hl 0 rfl) ?_
    refine va_get (D := (dC, dI)) (ci := 3) (C := RX3) (T := TX3) (N := 13) hx hb hts inX3 hown hK hP 0 rfl rfl 0 (by decide) hw0 (fun _ h9 => h9) rfl dX3_bit_11 ?_
    refine lv_iconst (v := 1) hx hb dX3_bit_14 (by decide) ?_
    refine lv_isub hx hb dX3_bit_15 ?_
    refine lv_i2l hx hb dX3_bit_16 rfl ?_
    refine ro_i (va_runS ⟨hx, hb, hml, hown, hts⟩ (c_X3_in l ) (va_cwS 3 hts gX3_bit_X3_in rfl rfl rfl kd_X3_in ⟨Nat.le_of_ble_eq_true rfl, Nat.le_of_ble_eq_true rfl⟩) preS0 rfl rfl hl.1 rfl (lv_room (Nat.le_of_ble_eq_true rfl)) dX3_bit_17 ⟨Nat.zero_le _, Nat.zero_le _⟩) ?_
    refine lv_if_eq (tgt := 37) hx hb dX3_bit_20 (by decide) (fun c_20 => ?_) (fun c_20 => ?_)
    · skip
      have c_20 := bI_eq.mp c_20
      have c_20 : ¬ (0 ≤ a1 ∧ a1 ≤ ln - 1) := fun h => c_20 ((in32 rfl rfl).mpr h)
      have hv : p_bit ln st a0 a1 = -101 := if_neg (fun h => c_20 h.2)
      refine lv_bipush (v := (-101)) hx hb dX3_bit_37 (by decide) ?_
      exact W.iret hx hb hr (fun t ht _ => ri hv.symm ht) no_locs dX3_bit_39
    · skip
      have c_20 := bI_ne.mp c_20
      have c_20 : 0 ≤ a1 ∧ a1 ≤ ln - 1 := (in32 rfl rfl).mp c_20
      have hv : p_bit ln st a0 a1 = g_bitOf (st a0.toNatClampNeg) a1 := if_pos ⟨c_4, c_20⟩
      refine lv_aload_n hx hb dX3_bit_23 rfl (lv_at hl 0 rfl) ?_
      refine lv_aload_n hx hb dX3_bit_24 rfl (lv_at hl 0 rfl) ?_
      refine va_get (D := (dC, dI)) (ci := 3) (C := RX3) (T := TX3) (N := 13) hx hb hts inX3 hown hK hP 0 rfl rfl 1 (by decide) hw1 (fun _ h9 => h9) rfl dX3_bit_25 ?_
      refine lv_iload_n hx hb dX3_bit_28 rfl (lv_at hl 1 rfl) ?_
      refine va_lald hx hb hK hP 1 1 rfl rfl (strm_in c_4) dX3_bit_29 ?_
      refine lv_iload_n hx hb dX3_bit_30 rfl (lv_at hl 2 rfl) ?_
      refine ro_i (va_runV ⟨hx, hb, hml, hown, hts⟩ (c_X3_bitOf l ) (cwV 2 hts gX3_bit_X3_bitOf rfl rfl rfl ⟨rfl, kd_X3_bitOf⟩ ⟨Nat.le_of_ble_eq_true rfl, Nat.le_of_ble_eq_true rfl⟩) (preV1 hnw hK hP 0 3 rfl rfl) rfl rfl hl.1 rfl (lv_room (Nat.le_of_ble_eq_true rfl)) dX3_bit_31 ⟨Nat.zero_le _, Nat.zero_le _⟩) ?_
      refine lv_goto (tgt := 39) hx hb dX3_bit_34 (by decide) ?_
      exact W.iret hx hb hr (fun t ht _ => ri hv.symm ht) no_locs dX3_bit_39
theorem kd_X3_ones : yX3_ones.cls ≠ "java/lang/invoke/MethodHandle" ∧ yX3_ones.cls ≠ "java/lang/invoke/VarHandle" ∧ (parseMethodDescriptor yX3_ones.desc).map (fun d => d.parameters.length) = some 1 := by decide +kernel
set_option maxHeartbeats 4000000 in
set_option maxRecDepth 100000 in
theorem c_X3_ones (l : Launch) {dC : Nat → ClassId} {dI : Nat → Nat → Nat} {ad : Nat → Nat} {cI cJ : ClassId} {ln : Int32} {dg : Int32} {sc : Int32} {ms : Int32} {mi : Int32} {mv : Int32} {mw : Int32} {pu : Int64} {pl : Int64} {st : (Nat → Int64)} {fr : (Nat → Int64)} {sr : (Nat → Int64)} {nu : (Nat → Int32)} {a0 : Int32} : Met l yX3_ones wsX3_ones ({ frames := 2, cells := 0, slots := 0, locals := 47 }) (va_Pc ([.ref (ad 0), .int a0] : List Value) (gB (dC, dI) (tyw cI cJ) (yw ad cI cJ ln dg sc ms mi mv mw pu pl st fr sr nu))) (QcRead (p_ones ln.toNatClampNeg st a0)) 0 0 (fun _ => False) := by
  refine Met.ofW (cc := cX3_ones) (maxL := 2) (ret := (some .int)) (by decide) rfl ?_
  intro p e s m args below meth c s₁ B hml hv
  obtain ⟨rfl, hnw, hK, hP⟩ := hv
  have hx := B.exec
  have hb := B.bytes
  have hr := B.returns
  have hts := atoms_spec (ws := wsX3_ones) B.pre
  have hown : s.vm.findClass RX3 = some m.cls := findClass_of_methodNamed B.named
  have hlocks := B.notSynchronized
  have hw0 := hts (.fieldLink RX3 7 "BitStreamsModel" "rows" "[J") (by decide +kernel)
  have inX3 : ∀ w ∈ wsX30, w ∈ wsX3_ones := by decide +kernel
  have hl := lv_entry ([.ref (ad 0), .int a0] : List Value) (n := 2) (Nat.le_of_ble_eq_true rfl)
  rw [lg_entry_eq]
  generalize (lg_sl ([.ref (ad 0), .int a0] : List Value) ++ List.replicate (2 - (lg_sl ([.ref (ad 0), .int a0] : List Value)).length) Slot.unset).toArray = ls at hl ⊢
  have hl : lv_has ls 2 [(0, .ref (ad 0)), (1, .int a0)] := hl
  refine lv_iload_n hx hb dX3_ones_0 rfl (lv_at hl 1 rfl) ?_
  refine ro_i (va_runS ⟨hx, hb, hml, hown, hts⟩ (c_X3_isStream l ) (va_cwS 1 hts gX3_ones_X3_isStream rfl rfl rfl kd_X3_isStream ⟨Nat.le_of_ble_eq_true rfl, Nat.le_of_ble_eq_true rfl⟩) preS0 rfl rfl hl.1 rfl (lv_room (Nat.le_of_ble_eq_true rfl)) dX3_ones_1 ⟨Nat.zero_le _, Nat.zero_le _⟩) ?_
  refine lv_if_eq (tgt := 20) hx hb dX3_ones_4 (by decide) (fun c_4 => ?_) (fun c_4 => ?_)
  · skip
    have c_4 := bI_eq.mp c_4
    have hv : p_ones ln.toNatClampNeg st a0 = -101 := if_neg c_4
    refine lv_bipush (v := (-101)) hx hb dX3_ones_20 (by decide) ?_
    exact W.iret hx hb hr (fun t ht _ => ri hv.symm ht) no_locs dX3_ones_22
  · skip
    have c_4 := bI_ne.mp c_4
    have hv : p_ones ln.toNatClampNeg st a0 = g_ones (st a0.toNatClampNeg) ln.toNatClampNeg := if_pos c_4
    refine lv_aload_n hx hb dX3_ones_7 rfl (lv_at hl 0 rfl) ?_
    refine lv_aload_n hx hb dX3_ones_8 rfl (lv_at hl 0 rfl) ?_
    refine va_get (D := (dC, dI)) (ci := 3) (C := RX3) (T := TX3) (N := 13) hx hb hts inX3 hown hK hP 0 rfl rfl 1 (by decide) hw0 (fun _ h9 => h9) rfl dX3_ones_9 ?_
    refine lv_iload_n hx hb dX3_ones_12 rfl (lv_at hl 1 rfl) ?_
    refine va_lald hx hb hK hP 1 1 rfl rfl (strm_in c_4) dX3_ones_13 ?_
    refine ro_i (va_runV ⟨hx, hb, hml, hown, hts⟩ (c_X3_onesOf l ) (cwV 1 hts gX3_ones_X3_onesOf rfl rfl rfl ⟨rfl, kd_X3_onesOf⟩ ⟨Nat.le_of_ble_eq_true rfl, Nat.le_of_ble_eq_true rfl⟩) (preV1 hnw hK hP 0 3 rfl rfl) rfl rfl hl.1 rfl (lv_room (Nat.le_of_ble_eq_true rfl)) dX3_ones_14 ⟨Nat.zero_le _, Nat.zero_le _⟩) ?_
    refine lv_goto (tgt := 22) hx hb dX3_ones_17 (by decide) ?_
    exact W.iret hx hb hr (fun t ht _ => ri hv.symm ht) no_locs dX3_ones_22
theorem kd_X3_gate : yX3_gate.cls ≠ "java/lang/invoke/MethodHandle" ∧ yX3_gate.cls ≠ "java/lang/invoke/VarHandle" ∧ (parseMethodDescriptor yX3_gate.desc).map (fun d => d.parameters.length) = some 5 := by decide +kernel
set_option maxHeartbeats 4000000 in
set_option maxRecDepth 100000 in
theorem c_X3_gate (l : Launch) {dC : Nat → ClassId} {dI : Nat → Nat → Nat} {ad : Nat → Nat} {cI cJ : ClassId} {ln : Int32} {dg : Int32} {sc : Int32} {ms : Int32} {mi : Int32} {mv : Int32} {mw : Int32} {pu : Int64} {pl : Int64} {st : (Nat → Int64)} {fr : (Nat → Int64)} {sr : (Nat → Int64)} {nu : (Nat → Int32)} {sz : Nat} {a0 a1 a2 a3 a4 : Int32} : Met l yX3_gate wsX3_gate ({ frames := 2, cells := 0, slots := 0, locals := 53 }) (va_Pc ([.ref (ad 0), .int a0, .int a1, .int a2, .int a3, .int a4] : List Value) (gW sz (dC, dI) (tyw cI cJ) (yw ad cI cJ ln dg sc ms mi mv mw pu pl st fr sr nu))) (va_Qi (fun r (_u : Unit) => r = (p_gate ln.toNatClampNeg st a0 a1 a2 a3 a4).1) (fun _u t => va_P (dC, dI) vwCl (yw ad cI cJ ln dg sc ms mi mv mw pu pl (p_gate ln.toNatClampNeg st a0 a1 a2 a3 a4).2 fr sr nu) t.heap) (va_A (yw ad cI cJ ln dg sc ms mi mv mw pu pl st fr sr nu) sz)) 0 0 (va_A (yw ad cI cJ ln dg sc ms mi mv mw pu pl st fr sr nu) sz) := by
  refine Met.ofW (cc := cX3_gate) (maxL := 6) (ret := (some .int)) (by decide) rfl ?_
  intro p e s m args below meth c s₁ B hml hv
  obtain ⟨rfl, hsz, ⟨hnw, hK, hP⟩, hD0⟩ := hv
  have hx := B.exec
  have hb := B.bytes
  have hr := B.returns
  have hts := atoms_spec (ws := wsX3_gate) B.pre
  have hown : s.vm.findClass RX3 = some m.cls := findClass_of_methodNamed B.named
  have hlocks := B.notSynchronized
  subst hsz
  have hD := hD0.self (sz := s.heap.size)
  generalize hAe : va_A (yw ad cI cJ ln dg sc ms mi mv mw pu pl st fr sr nu) s.heap.size = A at hD ⊢
  have hA : ∀ q : Nat, s.heap.size ≤ q → A q := fun q h => by rw [← hAe]; exact Or.inr h
  have hS : va_S A s.heap s.heap [] := va_S.rf
  have hw0 := hts (.constantLong RX3 71 (6)) (by decide +kernel)
  have hw1 := hts (.fieldLink RX3 7 "BitStreamsModel" "rows" "[J") (by decide +kernel)
  have inX3 : ∀ w ∈ wsX30, w ∈ wsX3_gate := by decide +kernel
  have hl := lv_entry ([.ref (ad 0), .int a0, .int a1, .int a2, .int a3, .int a4] : List Value) (n := 6) (Nat.le_of_ble_eq_true rfl)
  rw [lg_entry_eq]
  generalize (lg_sl ([.ref (ad 0), .int a0, .int a1, .int a2, .int a3, .int a4] : List Value) ++ List.replicate (6 - (lg_sl ([.ref (ad 0), .int a0, .int a1, .int a2, .int a3, .int a4] : List Value)).length) Slot.unset).toArray = ls at hl ⊢
  have hl : lv_has ls 6 [(0, .ref (ad 0)), (1, .int a0), (2, .int a1), (3, .int a2), (4, .int a3), (5, .int a4)] := hl
  refine lv_iload_n hx hb dX3_gate_0 rfl (lv_at hl 1 rfl) ?_
  refine lv_i2l hx hb dX3_gate_1 rfl ?_
  refine lv_lconst (v := 0) hx hb dX3_gate_2 (by decide) ?_
  refine lv_ldc2 (v := 6) hx hb hown hw0 dX3_gate_3 ?_
  refine ro_i (va_runS ⟨hx, hb, hml, hown, hts⟩ (c_X3_in l ) (va_cwS 3 hts gX3_gate_X3_in rfl rfl rfl kd_X3_in ⟨Nat.le_of_ble_eq_true rfl, Nat.le_of_ble_eq_true rfl⟩) preS0 rfl rfl hl.1 rfl (lv_room (Nat.le_of_ble_eq_true rfl)) dX3_gate_6 ⟨Nat.zero_le _, Nat.zero_le _⟩) ?_
  refine lv_if_ne (tgt := 15) hx hb dX3_gate_9 (by decide) (fun c_9 => ?_) (fun c_9 => ?_)
  · skip
    have c_9 := bI_ne.mp c_9
    have c_9 : 0 ≤ a0 ∧ a0 ≤ 6 := (in32 rfl rfl).mp c_9
    refine lv_iload hx hb dX3_gate_15 (lv_at hl 5 rfl) ?_
    refine ro_i (va_runS ⟨hx, hb, hml, hown, hts⟩ (c_X3_isStream l ) (va_cwS 1 hts gX3_gate_X3_isStream rfl rfl rfl kd_X3_isStream ⟨Nat.le_of_ble_eq_true rfl, Nat.le_of_ble_eq_true rfl⟩) preS0 rfl rfl hl.1 rfl (lv_room (Nat.le_of_ble_eq_true rfl)) dX3_gate_17 ⟨Nat.zero_le _, Nat.zero_le _⟩) ?_
    refine lv_if_eq (tgt := 50) hx hb dX3_gate_20 (by decide) (fun c_20 => ?_) (fun c_20 => ?_)
    · skip
      have c_20 := bI_eq.mp c_20
      have hC : ¬ (strm a4 ∧ strm a1 ∧ strm a2 ∧ (¬ a0 ≤ 4 → strm a3)) := fun h => c_20 h.1
      refine lv_bipush (v := (-101)) hx hb dX3_gate_50 (by decide) ?_
      simp only [p_gate, if_pos c_9, if_neg hC]
      exact W.iret hx hb hr (fun t ht _ => ⟨⟨_, (), rfl, rfl, wpost ht hP⟩, hS.F ht⟩) hS.2.2 dX3_gate_52
    · skip
      have c_20 := bI_ne.mp c_20
      refine lv_iload_n hx hb dX3_gate_23 rfl (lv_at hl 2 rfl) ?_
      refine ro_i (va_runS ⟨hx, hb, hml, hown, hts⟩ (c_X3_isStream l ) (va_cwS 1 hts gX3_gate_X3_isStream rfl rfl rfl kd_X3_isStream ⟨Nat.le_of_ble_eq_true rfl, Nat.le_of_ble_eq_true rfl⟩) preS0 rfl rfl hl.1 rfl (lv_room (Nat.le_of_ble_eq_true rfl)) dX3_gate_24 ⟨Nat.zero_le _, Nat.zero_le _⟩) ?_
      refine lv_if_eq (tgt := 50) hx hb dX3_gate_27 (by decide) (fun c_27 => ?_) (fun c_27 => ?_)
      · skip
        have c_27 := bI_eq.mp c_27
        have hC : ¬ (strm a4 ∧ strm a1 ∧ strm a2 ∧ (¬ a0 ≤ 4 → strm a3)) := fun h => c_27 h.2.1
        refine lv_bipush (v := (-101)) hx hb dX3_gate_50 (by decide) ?_
        simp only [p_gate, if_pos c_9, if_neg hC]
        exact W.iret hx hb hr (fun t ht _ => ⟨⟨_, (), rfl, rfl, wpost ht hP⟩, hS.F ht⟩) hS.2.2 dX3_gate_52
      · skip
        have c_27 := bI_ne.mp c_27
        refine lv_iload_n hx hb dX3_gate_30 rfl (lv_at hl 3 rfl) ?_
        refine ro_i (va_runS ⟨hx, hb, hml, hown, hts⟩ (c_X3_isStream l ) (va_cwS 1 hts gX3_gate_X3_isStream rfl rfl rfl kd_X3_isStream ⟨Nat.le_of_ble_eq_true rfl, Nat.le_of_ble_eq_true rfl⟩) preS0 rfl rfl hl.1 rfl (lv_room (Nat.le_of_ble_eq_true rfl)) dX3_gate_31 ⟨Nat.zero_le _, Nat.zero_le _⟩) ?_
        refine lv_if_eq (tgt := 50) hx hb dX3_gate_34 (by decide) (fun c_34 => ?_) (fun c_34 => ?_)
        · skip
          have c_34 := bI_eq.mp c_34
          have hC : ¬ (strm a4 ∧ strm a1 ∧ strm a2 ∧ (¬ a0 ≤ 4 → strm a3)) := fun h => c_34 h.2.2.1
          refine lv_bipush (v := (-101)) hx hb dX3_gate_50 (by decide) ?_
          simp only [p_gate, if_pos c_9, if_neg hC]
          exact W.iret hx hb hr (fun t ht _ => ⟨⟨_, (), rfl, rfl, wpost ht hP⟩, hS.F ht⟩) hS.2.2 dX3_gate_52
        · skip
          have c_34 := bI_ne.mp c_34
          refine lv_iload_n hx hb dX3_gate_37 rfl (lv_at hl 1 rfl) ?_
          refine lv_iconst (v := 4) hx hb dX3_gate_38 (by decide) ?_
          refine lv_icmp_le (tgt := 53) hx hb dX3_gate_39 (by decide) (fun c_39 => ?_) (fun c_39 => ?_)
          · skip
            have hC : (strm a4 ∧ strm a1 ∧ strm a2 ∧ (¬ a0 ≤ 4 → strm a3)) := ⟨c_20, c_27, c_34, fun h => absurd c_39 h⟩
            refine lv_aload_n hx hb dX3_gate_53 rfl (lv_at hl 0 rfl) ?_
            refine va_get (D := (dC, dI)) (ci := 3) (C := RX3) (T := TX3) (N := 13) hx hb hts inX3 hown hK hP 0 rfl rfl 1 (by decide) hw1 (fun _ h9 => h9) rfl dX3_gate_54 ?_
            refine lv_iload hx hb dX3_gate_57 (lv_at hl 5 rfl) ?_
            refine lv_aload_n hx hb dX3_gate_59 rfl (lv_at hl 0 rfl) ?_
            refine lv_iload_n hx hb dX3_gate_60 rfl (lv_at hl 1 rfl) ?_
            refine lv_aload_n hx hb dX3_gate_61 rfl (lv_at hl 0 rfl) ?_
            refine va_get (D := (dC, dI)) (ci := 3) (C := RX3) (T := TX3) (N := 13) hx hb hts inX3 hown hK hP 0 rfl rfl 1 (by decide) hw1 (fun _ h9 => h9) rfl dX3_gate_62 ?_
            refine lv_iload_n hx hb dX3_gate_65 rfl (lv_at hl 2 rfl) ?_
            refine va_lald hx hb hK hP 1 1 rfl rfl (strm_in c_27) dX3_gate_66 ?_
            refine lv_aload_n hx hb dX3_gate_67 rfl (lv_at hl 0 rfl) ?_
            refine va_get (D := (dC, dI)) (ci := 3) (C := RX3) (T := TX3) (N := 13) hx hb hts inX3 hown hK hP 0 rfl rfl 1 (by decide) hw1 (fun _ h9 => h9) rfl dX3_gate_68 ?_
            refine lv_iload_n hx hb dX3_gate_71 rfl (lv_at hl 3 rfl) ?_
            refine va_lald hx hb hK hP 1 1 rfl rfl (strm_in c_34) dX3_gate_72 ?_
            refine lv_iload_n hx hb dX3_gate_73 rfl (lv_at hl 1 rfl) ?_
            refine lv_iconst (v := 4) hx hb dX3_gate_74 (by decide) ?_
            refine lv_icmp_le (tgt := 88) hx hb dX3_gate_75 (by decide) (fun c_75 => ?_) (fun c_75 => ?_)
            · skip
              refine lv_lconst (v := 0) hx hb dX3_gate_88 (by decide) ?_
              refine st_l (v := if a0 ≤ 4 then 0 else st a3.toNatClampNeg) (by first | rw [if_pos c_75] | rw [if_neg c_75]) ?_
              refine ro_l (va_runV ⟨hx, hb, hml, hown, hts⟩ (c_X3_gateRow l ) (cwV 4 hts gX3_gate_X3_gateRow rfl rfl rfl ⟨rfl, kd_X3_gateRow⟩ ⟨Nat.le_of_ble_eq_true rfl, Nat.le_of_ble_eq_true rfl⟩) (preV1 hnw hK hP 0 3 rfl rfl) rfl rfl hl.1 rfl (lv_room (Nat.le_of_ble_eq_true rfl)) dX3_gate_89 ⟨Nat.zero_le _, Nat.zero_le _⟩) ?_
              refine va_last hx hb hK hP hD hS 1 1 rfl rfl (strm_in c_20) dX3_gate_92 (fun H locs hP hD hS => ?_)
              have hP : va_P (dC, dI) vwCl (yw ad cI cJ ln dg sc ms mi mv mw pu pl _ fr sr nu) H := hP
              have hD : va_D A (yw ad cI cJ ln dg sc ms mi mv mw pu pl _ fr sr nu) := va_D_addr hD rfl
              refine lv_aload_n hx hb dX3_gate_93 rfl (lv_at hl 0 rfl) ?_
              refine lv_aload_n hx hb dX3_gate_94 rfl (lv_at hl 0 rfl) ?_
              refine va_get (D := (dC, dI)) (ci := 3) (C := RX3) (T := TX3) (N := 13) hx hb hts inX3 hown hK hP 0 rfl rfl 1 (by decide) hw1 (fun _ h9 => h9) rfl dX3_gate_95 ?_
              refine lv_iload hx hb dX3_gate_98 (lv_at hl 5 rfl) ?_
              refine va_lald hx hb hK hP 1 1 rfl rfl (strm_in c_20) dX3_gate_100 ?_
              refine st_l (v := g_gr a0 (st a1.toNatClampNeg) (st a2.toNatClampNeg) (if a0 ≤ 4 then 0 else st a3.toNatClampNeg) ln.toNatClampNeg) pk_uLs ?_
              refine ro_i (va_runV ⟨hx, hb, hml, hown, hts⟩ (c_X3_onesOf l ) (cwV 1 hts gX3_gate_X3_onesOf rfl rfl rfl ⟨rfl, kd_X3_onesOf⟩ ⟨Nat.le_of_ble_eq_true rfl, Nat.le_of_ble_eq_true rfl⟩) (preV1 hnw hK hP 0 3 rfl rfl) rfl rfl hl.1 rfl (lv_room (Nat.le_of_ble_eq_true rfl)) dX3_gate_101 ⟨Nat.zero_le _, Nat.zero_le _⟩) ?_
              simp only [p_gate, if_pos c_9, if_pos hC, p_set]
              exact W.iret hx hb hr (fun t ht _ => ⟨⟨_, (), rfl, rfl, wpost ht hP⟩, hS.F ht⟩) hS.2.2 dX3_gate_104
            · skip
              have hc3 : strm a3 := hC.2.2.2 c_75
              refine lv_aload_n hx hb dX3_gate_78 rfl (lv_at hl 0 rfl) ?_
              refine va_get (D := (dC, dI)) (ci := 3) (C := RX3) (T := TX3) (N := 13) hx hb hts inX3 hown hK hP 0 rfl rfl 1 (by decide) hw1 (fun _ h9 => h9) rfl dX3_gate_79 ?_
              refine lv_iload hx hb dX3_gate_82 (lv_at hl 4 rfl) ?_
              refine va_lald hx hb hK hP 1 1 rfl rfl (strm_in hc3) dX3_gate_84 ?_
              refine lv_goto (tgt := 89) hx hb dX3_gate_85 (by decide) ?_
              refine st_l (v := if a0 ≤ 4 then 0 else st a3.toNatClampNeg) (by first | rw [if_pos c_75] | rw [if_neg c_75]) ?_
              refine ro_l (va_runV ⟨hx, hb, hml, hown, hts⟩ (c_X3_gateRow l ) (cwV 4 hts gX3_gate_X3_gateRow rfl rfl rfl ⟨rfl, kd_X3_gateRow⟩ ⟨Nat.le_of_ble_eq_true rfl, Nat.le_of_ble_eq_true rfl⟩) (preV1 hnw hK hP 0 3 rfl rfl) rfl rfl hl.1 rfl (lv_room (Nat.le_of_ble_eq_true rfl)) dX3_gate_89 ⟨Nat.zero_le _, Nat.zero_le _⟩) ?_
              refine va_last hx hb hK hP hD hS 1 1 rfl rfl (strm_in c_20) dX3_gate_92 (fun H locs hP hD hS => ?_)
              have hP : va_P (dC, dI) vwCl (yw ad cI cJ ln dg sc ms mi mv mw pu pl _ fr sr nu) H := hP
              have hD : va_D A (yw ad cI cJ ln dg sc ms mi mv mw pu pl _ fr sr nu) := va_D_addr hD rfl
              refine lv_aload_n hx hb dX3_gate_93 rfl (lv_at hl 0 rfl) ?_
              refine lv_aload_n hx hb dX3_gate_94 rfl (lv_at hl 0 rfl) ?_
              refine va_get (D := (dC, dI)) (ci := 3) (C := RX3) (T := TX3) (N := 13) hx hb hts inX3 hown hK hP 0 rfl rfl 1 (by decide) hw1 (fun _ h9 => h9) rfl dX3_gate_95 ?_
              refine lv_iload hx hb dX3_gate_98 (lv_at hl 5 rfl) ?_
              refine va_lald hx hb hK hP 1 1 rfl rfl (strm_in c_20) dX3_gate_100 ?_
              refine st_l (v := g_gr a0 (st a1.toNatClampNeg) (st a2.toNatClampNeg) (if a0 ≤ 4 then 0 else st a3.toNatClampNeg) ln.toNatClampNeg) pk_uLs ?_
              refine ro_i (va_runV ⟨hx, hb, hml, hown, hts⟩ (c_X3_onesOf l ) (cwV 1 hts gX3_gate_X3_onesOf rfl rfl rfl ⟨rfl, kd_X3_onesOf⟩ ⟨Nat.le_of_ble_eq_true rfl, Nat.le_of_ble_eq_true rfl⟩) (preV1 hnw hK hP 0 3 rfl rfl) rfl rfl hl.1 rfl (lv_room (Nat.le_of_ble_eq_true rfl)) dX3_gate_101 ⟨Nat.zero_le _, Nat.zero_le _⟩) ?_
              simp only [p_gate, if_pos c_9, if_pos hC, p_set]
              exact W.iret hx hb hr (fun t ht _ => ⟨⟨_, (), rfl, rfl, wpost ht hP⟩, hS.F ht⟩) hS.2.2 dX3_gate_104
          · skip
            refine lv_iload hx hb dX3_gate_42 (lv_at hl 4 rfl) ?_
            refine ro_i (va_runS ⟨hx, hb, hml, hown, hts⟩ (c_X3_isStream l ) (va_cwS 1 hts gX3_gate_X3_isStream rfl rfl rfl kd_X3_isStream ⟨Nat.le_of_ble_eq_true rfl, Nat.le_of_ble_eq_true rfl⟩) preS0 rfl rfl hl.1 rfl (lv_room (Nat.le_of_ble_eq_true rfl)) dX3_gate_44 ⟨Nat.zero_le _, Nat.zero_le _⟩) ?_
            refine lv_if_ne (tgt := 53) hx hb dX3_gate_47 (by decide) (fun c_47 => ?_) (fun c_47 => ?_)
            · skip
              have c_47 := bI_ne.mp c_47
              have hC : (strm a4 ∧ strm a1 ∧ strm a2 ∧ (¬ a0 ≤ 4 → strm a3)) := ⟨c_20, c_27, c_34, fun _ => c_47⟩
              have hc3 := c_47
              refine lv_aload_n hx hb dX3_gate_53 rfl (lv_at hl 0 rfl) ?_
              refine va_get (D := (dC, dI)) (ci := 3) (C := RX3) (T := TX3) (N := 13) hx hb hts inX3 hown hK hP 0 rfl rfl 1 (by decide) hw1 (fun _ h9 => h9) rfl dX3_gate_54 ?_
              refine lv_iload hx hb dX3_gate_57 (lv_at hl 5 rfl) ?_
              refine lv_aload_n hx hb dX3_gate_59 rfl (lv_at hl 0 rfl) ?_
              refine lv_iload_n hx hb dX3_gate_60 rfl (lv_at hl 1 rfl) ?_
              refine lv_aload_n hx hb dX3_gate_61 rfl (lv_at hl 0 rfl) ?_
              refine va_get (D := (dC, dI)) (ci := 3) (C := RX3) (T := TX3) (N := 13) hx hb hts inX3 hown hK hP 0 rfl rfl 1 (by decide) hw1 (fun _ h9 => h9) rfl dX3_gate_62 ?_
              refine lv_iload_n hx hb dX3_gate_65 rfl (lv_at hl 2 rfl) ?_
              refine va_lald hx hb hK hP 1 1 rfl rfl (strm_in c_27) dX3_gate_66 ?_
              refine lv_aload_n hx hb dX3_gate_67 rfl (lv_at hl 0 rfl) ?_
              refine va_get (D := (dC, dI)) (ci := 3) (C := RX3) (T := TX3) (N := 13) hx hb hts inX3 hown hK hP 0 rfl rfl 1 (by decide) hw1 (fun _ h9 => h9) rfl dX3_gate_68 ?_
              refine lv_iload_n hx hb dX3_gate_71 rfl (lv_at hl 3 rfl) ?_
              refine va_lald hx hb hK hP 1 1 rfl rfl (strm_in c_34) dX3_gate_72 ?_
              refine lv_iload_n hx hb dX3_gate_73 rfl (lv_at hl 1 rfl) ?_
              refine lv_iconst (v := 4) hx hb dX3_gate_74 (by decide) ?_
              refine lv_icmp_le (tgt := 88) hx hb dX3_gate_75 (by decide) (fun c_75 => ?_) (fun c_75 => ?_)
              · skip
                refine lv_lconst (v := 0) hx hb dX3_gate_88 (by decide) ?_
                refine st_l (v := if a0 ≤ 4 then 0 else st a3.toNatClampNeg) (by first | rw [if_pos c_75] | rw [if_neg c_75]) ?_
                refine ro_l (va_runV ⟨hx, hb, hml, hown, hts⟩ (c_X3_gateRow l ) (cwV 4 hts gX3_gate_X3_gateRow rfl rfl rfl ⟨rfl, kd_X3_gateRow⟩ ⟨Nat.le_of_ble_eq_true rfl, Nat.le_of_ble_eq_true rfl⟩) (preV1 hnw hK hP 0 3 rfl rfl) rfl rfl hl.1 rfl (lv_room (Nat.le_of_ble_eq_true rfl)) dX3_gate_89 ⟨Nat.zero_le _, Nat.zero_le _⟩) ?_
                refine va_last hx hb hK hP hD hS 1 1 rfl rfl (strm_in c_20) dX3_gate_92 (fun H locs hP hD hS => ?_)
                have hP : va_P (dC, dI) vwCl (yw ad cI cJ ln dg sc ms mi mv mw pu pl _ fr sr nu) H := hP
                have hD : va_D A (yw ad cI cJ ln dg sc ms mi mv mw pu pl _ fr sr nu) := va_D_addr hD rfl
                refine lv_aload_n hx hb dX3_gate_93 rfl (lv_at hl 0 rfl) ?_
                refine lv_aload_n hx hb dX3_gate_94 rfl (lv_at hl 0 rfl) ?_
                refine va_get (D := (dC, dI)) (ci := 3) (C := RX3) (T := TX3) (N := 13) hx hb hts inX3 hown hK hP 0 rfl rfl 1 (by decide) hw1 (fun _ h9 => h9) rfl dX3_gate_95 ?_
                refine lv_iload hx hb dX3_gate_98 (lv_at hl 5 rfl) ?_
                refine va_lald hx hb hK hP 1 1 rfl rfl (strm_in c_20) dX3_gate_100 ?_
                refine st_l (v := g_gr a0 (st a1.toNatClampNeg) (st a2.toNatClampNeg) (if a0 ≤ 4 then 0 else st a3.toNatClampNeg) ln.toNatClampNeg) pk_uLs ?_
                refine ro_i (va_runV ⟨hx, hb, hml, hown, hts⟩ (c_X3_onesOf l ) (cwV 1 hts gX3_gate_X3_onesOf rfl rfl rfl ⟨rfl, kd_X3_onesOf⟩ ⟨Nat.le_of_ble_eq_true rfl, Nat.le_of_ble_eq_true rfl⟩) (preV1 hnw hK hP 0 3 rfl rfl) rfl rfl hl.1 rfl (lv_room (Nat.le_of_ble_eq_true rfl)) dX3_gate_101 ⟨Nat.zero_le _, Nat.zero_le _⟩) ?_
                simp only [p_gate, if_pos c_9, if_pos hC, p_set]
                exact W.iret hx hb hr (fun t ht _ => ⟨⟨_, (), rfl, rfl, wpost ht hP⟩, hS.F ht⟩) hS.2.2 dX3_gate_104
              · skip
                have hc3 : strm a3 := hC.2.2.2 c_75
                refine lv_aload_n hx hb dX3_gate_78 rfl (lv_at hl 0 rfl) ?_
                refine va_get (D := (dC, dI)) (ci := 3) (C := RX3) (T := TX3) (N := 13) hx hb hts inX3 hown hK hP 0 rfl rfl 1 (by decide) hw1 (fun _ h9 => h9) rfl dX3_gate_79 ?_
                refine lv_iload hx hb dX3_gate_82 (lv_at hl 4 rfl) ?_
                refine va_lald hx hb hK hP 1 1 rfl rfl (strm_in hc3) dX3_gate_84 ?_
                refine lv_goto (tgt := 89) hx hb dX3_gate_85 (by decide) ?_
                refine st_l (v := if a0 ≤ 4 then 0 else st a3.toNatClampNeg) (by first | rw [if_pos c_75] | rw [if_neg c_75]) ?_
                refine ro_l (va_runV ⟨hx, hb, hml, hown, hts⟩ (c_X3_gateRow l ) (cwV 4 hts gX3_gate_X3_gateRow rfl rfl rfl ⟨rfl, kd_X3_gateRow⟩ ⟨Nat.le_of_ble_eq_true rfl, Nat.le_of_ble_eq_true rfl⟩) (preV1 hnw hK hP 0 3 rfl rfl) rfl rfl hl.1 rfl (lv_room (Nat.le_of_ble_eq_true rfl)) dX3_gate_89 ⟨Nat.zero_le _, Nat.zero_le _⟩) ?_
                refine va_last hx hb hK hP hD hS 1 1 rfl rfl (strm_in c_20) dX3_gate_92 (fun H locs hP hD hS => ?_)
                have hP : va_P (dC, dI) vwCl (yw ad cI cJ ln dg sc ms mi mv mw pu pl _ fr sr nu) H := hP
                have hD : va_D A (yw ad cI cJ ln dg sc ms mi mv mw pu pl _ fr sr nu) := va_D_addr hD rfl
                refine lv_aload_n hx hb dX3_gate_93 rfl (lv_at hl 0 rfl) ?_
                refine lv_aload_n hx hb dX3_gate_94 rfl (lv_at hl 0 rfl) ?_
                refine va_get (D := (dC, dI)) (ci := 3) (C := RX3) (T := TX3) (N := 13) hx hb hts inX3 hown hK hP 0 rfl rfl 1 (by decide) hw1 (fun _ h9 => h9) rfl dX3_gate_95 ?_
                refine lv_iload hx hb dX3_gate_98 (lv_at hl 5 rfl) ?_
                refine va_lald hx hb hK hP 1 1 rfl rfl (strm_in c_20) dX3_gate_100 ?_
                refine st_l (v := g_gr a0 (st a1.toNatClampNeg) (st a2.toNatClampNeg) (if a0 ≤ 4 then 0 else st a3.toNatClampNeg) ln.toNatClampNeg) pk_uLs ?_
                refine ro_i (va_runV ⟨hx, hb, hml, hown, hts⟩ (c_X3_onesOf l ) (cwV 1 hts gX3_gate_X3_onesOf rfl rfl rfl ⟨rfl, kd_X3_onesOf⟩ ⟨Nat.le_of_ble_eq_true rfl, Nat.le_of_ble_eq_true rfl⟩) (preV1 hnw hK hP 0 3 rfl rfl) rfl rfl hl.1 rfl (lv_room (Nat.le_of_ble_eq_true rfl)) dX3_gate_101 ⟨Nat.zero_le _, Nat.zero_le _⟩) ?_
                simp only [p_gate, if_pos c_9, if_pos hC, p_set]
                exact W.iret hx hb hr (fun t ht _ => ⟨⟨_, (), rfl, rfl, wpost ht hP⟩, hS.F ht⟩) hS.2.2 dX3_gate_104
            · skip
              have c_47 := bI_eq.mp c_47
              have hC : ¬ (strm a4 ∧ strm a1 ∧ strm a2 ∧ (¬ a0 ≤ 4 → strm a3)) := fun h => c_47 (h.2.2.2 c_39)
              refine lv_bipush (v := (-101)) hx hb dX3_gate_50 (by decide) ?_
              simp only [p_gate, if_pos c_9, if_neg hC]
              exact W.iret hx hb hr (fun t ht _ => ⟨⟨_, (), rfl, rfl, wpost ht hP⟩, hS.F ht⟩) hS.2.2 dX3_gate_52
  · skip
    have c_9 := bI_eq.mp c_9
    have c_9 : ¬ (0 ≤ a0 ∧ a0 ≤ 6) := fun h => c_9 ((in32 rfl rfl).mpr h)
    refine lv_bipush (v := (-102)) hx hb dX3_gate_12 (by decide) ?_
    simp only [p_gate, if_neg c_9]
    exact W.iret hx hb hr (fun t ht _ => ⟨⟨_, (), rfl, rfl, wpost ht hP⟩, hS.F ht⟩) hS.2.2 dX3_gate_14
theorem kd_X3_not : yX3_not.cls ≠ "java/lang/invoke/MethodHandle" ∧ yX3_not.cls ≠ "java/lang/invoke/VarHandle" ∧ (parseMethodDescriptor yX3_not.desc).map (fun d => d.parameters.length) = some 2 := by decide +kernel
set_option maxHeartbeats 4000000 in
set_option maxRecDepth 100000 in
theorem c_X3_not (l : Launch) {dC : Nat → ClassId} {dI : Nat → Nat → Nat} {ad : Nat → Nat} {cI cJ : ClassId} {ln : Int32} {dg : Int32} {sc : Int32} {ms : Int32} {mi : Int32} {mv : Int32} {mw : Int32} {pu : Int64} {pl : Int64} {st : (Nat → Int64)} {fr : (Nat → Int64)} {sr : (Nat → Int64)} {nu : (Nat → Int32)} {sz : Nat} {a0 a1 : Int32} : Met l yX3_not wsX3_not ({ frames := 2, cells := 0, slots := 0, locals := 53 }) (va_Pc ([.ref (ad 0), .int a0, .int a1] : List Value) (gW sz (dC, dI) (tyw cI cJ) (yw ad cI cJ ln dg sc ms mi mv mw pu pl st fr sr nu))) (va_Qi (fun r (_u : Unit) => r = (p_not ln.toNatClampNeg st a0 a1).1) (fun _u t => va_P (dC, dI) vwCl (yw ad cI cJ ln dg sc ms mi mv mw pu pl (p_not ln.toNatClampNeg st a0 a1).2 fr sr nu) t.heap) (va_A (yw ad cI cJ ln dg sc ms mi mv mw pu pl st fr sr nu) sz)) 0 0 (va_A (yw ad cI cJ ln dg sc ms mi mv mw pu pl st fr sr nu) sz) := by
  refine Met.ofW (cc := cX3_not) (maxL := 3) (ret := (some .int)) (by decide) rfl ?_
  intro p e s m args below meth c s₁ B hml hv
  obtain ⟨rfl, hsz, ⟨hnw, hK, hP⟩, hD0⟩ := hv
  have hx := B.exec
  have hb := B.bytes
  have hr := B.returns
  have hts := atoms_spec (ws := wsX3_not) B.pre
  have hown : s.vm.findClass RX3 = some m.cls := findClass_of_methodNamed B.named
  have hlocks := B.notSynchronized
  subst hsz
  have hD := hD0.self (sz := s.heap.size)
  generalize hAe : va_A (yw ad cI cJ ln dg sc ms mi mv mw pu pl st fr sr nu) s.heap.size = A at hD ⊢
  have hA : ∀ q : Nat, s.heap.size ≤ q → A q := fun q h => by rw [← hAe]; exact Or.inr h
  have hS : va_S A s.heap s.heap [] := va_S.rf
  have hw0 := hts (.fieldLink RX3 7 "BitStreamsModel" "rows" "[J") (by decide +kernel)
  have inX3 : ∀ w ∈ wsX30, w ∈ wsX3_not := by decide +kernel
  have hl := lv_entry ([.ref (ad 0), .int a0, .int a1] : List Value) (n := 3) (Nat.le_of_ble_eq_true rfl)
  rw [lg_entry_eq]
  generalize (lg_sl ([.ref (ad 0), .int a0, .int a1] : List Value) ++ List.replicate (3 - (lg_sl ([.ref (ad 0), .int a0, .int a1] : List Value)).length) Slot.unset).toArray = ls at hl ⊢
  have hl : lv_has ls 3 [(0, .ref (ad 0)), (1, .int a0), (2, .int a1)] := hl
  refine lv_iload_n hx hb dX3_not_0 rfl (lv_at hl 1 rfl) ?_
  refine ro_i (va_runS ⟨hx, hb, hml, hown, hts⟩ (c_X3_isStream l ) (va_cwS 1 hts gX3_not_X3_isStream rfl rfl rfl kd_X3_isStream ⟨Nat.le_of_ble_eq_true rfl, Nat.le_of_ble_eq_true rfl⟩) preS0 rfl rfl hl.1 rfl (lv_room (Nat.le_of_ble_eq_true rfl)) dX3_not_1 ⟨Nat.zero_le _, Nat.zero_le _⟩) ?_
  refine lv_if_eq (tgt := 14) hx hb dX3_not_4 (by decide) (fun c_4 => ?_) (fun c_4 => ?_)
  · skip
    have c_4 := bI_eq.mp c_4
    have hC : ¬ (strm a0 ∧ strm a1) := fun h => c_4 h.1
    refine lv_bipush (v := (-101)) hx hb dX3_not_14 (by decide) ?_
    simp only [p_not, if_neg hC]
    exact W.iret hx hb hr (fun t ht _ => ⟨⟨_, (), rfl, rfl, wpost ht hP⟩, hS.F ht⟩) hS.2.2 dX3_not_16
  · skip
    have c_4 := bI_ne.mp c_4
    refine lv_iload_n hx hb dX3_not_7 rfl (lv_at hl 2 rfl) ?_
    refine ro_i (va_runS ⟨hx, hb, hml, hown, hts⟩ (c_X3_isStream l ) (va_cwS 1 hts gX3_not_X3_isStream rfl rfl rfl kd_X3_isStream ⟨Nat.le_of_ble_eq_true rfl, Nat.le_of_ble_eq_true rfl⟩) preS0 rfl rfl hl.1 rfl (lv_room (Nat.le_of_ble_eq_true rfl)) dX3_not_8 ⟨Nat.zero_le _, Nat.zero_le _⟩) ?_
    refine lv_if_ne (tgt := 17) hx hb dX3_not_11 (by decide) (fun c_11 => ?_) (fun c_11 => ?_)
    · skip
      have c_11 := bI_ne.mp c_11
      have hC : strm a0 ∧ strm a1 := ⟨c_4, c_11⟩
      refine lv_aload_n hx hb dX3_not_17 rfl (lv_at hl 0 rfl) ?_
      refine va_get (D := (dC, dI)) (ci := 3) (C := RX3) (T := TX3) (N := 13) hx hb hts inX3 hown hK hP 0 rfl rfl 1 (by decide) hw0 (fun _ h9 => h9) rfl dX3_not_18 ?_
      refine lv_iload_n hx hb dX3_not_21 rfl (lv_at hl 2 rfl) ?_
      refine lv_aload_n hx hb dX3_not_22 rfl (lv_at hl 0 rfl) ?_
      refine lv_iconst (v := 3) hx hb dX3_not_23 (by decide) ?_
      refine lv_aload_n hx hb dX3_not_24 rfl (lv_at hl 0 rfl) ?_
      refine va_get (D := (dC, dI)) (ci := 3) (C := RX3) (T := TX3) (N := 13) hx hb hts inX3 hown hK hP 0 rfl rfl 1 (by decide) hw0 (fun _ h9 => h9) rfl dX3_not_25 ?_
      refine lv_iload_n hx hb dX3_not_28 rfl (lv_at hl 1 rfl) ?_
      refine va_lald hx hb hK hP 1 1 rfl rfl (strm_in c_4) dX3_not_29 ?_
      refine lv_lconst (v := 0) hx hb dX3_not_30 (by decide) ?_
      refine lv_lconst (v := 0) hx hb dX3_not_31 (by decide) ?_
      refine ro_l (va_runV ⟨hx, hb, hml, hown, hts⟩ (c_X3_gateRow l ) (cwV 4 hts gX3_not_X3_gateRow rfl rfl rfl ⟨rfl, kd_X3_gateRow⟩ ⟨Nat.le_of_ble_eq_true rfl, Nat.le_of_ble_eq_true rfl⟩) (preV1 hnw hK hP 0 3 rfl rfl) rfl rfl hl.1 rfl (lv_room (Nat.le_of_ble_eq_true rfl)) dX3_not_32 ⟨Nat.zero_le _, Nat.zero_le _⟩) ?_
      refine va_last hx hb hK hP hD hS 1 1 rfl rfl (strm_in c_11) dX3_not_35 (fun H locs hP hD hS => ?_)
      have hP : va_P (dC, dI) vwCl (yw ad cI cJ ln dg sc ms mi mv mw pu pl _ fr sr nu) H := hP
      have hD : va_D A (yw ad cI cJ ln dg sc ms mi mv mw pu pl _ fr sr nu) := va_D_addr hD rfl
      refine lv_aload_n hx hb dX3_not_36 rfl (lv_at hl 0 rfl) ?_
      refine lv_aload_n hx hb dX3_not_37 rfl (lv_at hl 0 rfl) ?_
      refine va_get (D := (dC, dI)) (ci := 3) (C := RX3) (T := TX3) (N := 13) hx hb hts inX3 hown hK hP 0 rfl rfl 1 (by decide) hw0 (fun _ h9 => h9) rfl dX3_not_38 ?_
      refine lv_iload_n hx hb dX3_not_41 rfl (lv_at hl 2 rfl) ?_
      refine va_lald hx hb hK hP 1 1 rfl rfl (strm_in c_11) dX3_not_42 ?_
      refine st_l (v := g_gr 3 (st a0.toNatClampNeg) 0 0 ln.toNatClampNeg) pk_uLs ?_
      refine ro_i (va_runV ⟨hx, hb, hml, hown, hts⟩ (c_X3_onesOf l ) (cwV 1 hts gX3_not_X3_onesOf rfl rfl rfl ⟨rfl, kd_X3_onesOf⟩ ⟨Nat.le_of_ble_eq_true rfl, Nat.le_of_ble_eq_true rfl⟩) (preV1 hnw hK hP 0 3 rfl rfl) rfl rfl hl.1 rfl (lv_room (Nat.le_of_ble_eq_true rfl)) dX3_not_43 ⟨Nat.zero_le _, Nat.zero_le _⟩) ?_
      simp only [p_not, if_pos hC, p_set]
      exact W.iret hx hb hr (fun t ht _ => ⟨⟨_, (), rfl, rfl, wpost ht hP⟩, hS.F ht⟩) hS.2.2 dX3_not_46
    · skip
      have c_11 := bI_eq.mp c_11
      have hC : ¬ (strm a0 ∧ strm a1) := fun h => c_11 h.2
      refine lv_bipush (v := (-101)) hx hb dX3_not_14 (by decide) ?_
      simp only [p_not, if_neg hC]
      exact W.iret hx hb hr (fun t ht _ => ⟨⟨_, (), rfl, rfl, wpost ht hP⟩, hS.F ht⟩) hS.2.2 dX3_not_16
theorem kd_X3_later : yX3_later.cls ≠ "java/lang/invoke/MethodHandle" ∧ yX3_later.cls ≠ "java/lang/invoke/VarHandle" ∧ (parseMethodDescriptor yX3_later.desc).map (fun d => d.parameters.length) = some 3 := by decide +kernel
set_option maxHeartbeats 4000000 in
set_option maxRecDepth 100000 in
theorem c_X3_later (l : Launch) {dC : Nat → ClassId} {dI : Nat → Nat → Nat} {ad : Nat → Nat} {cI cJ : ClassId} {ln : Int32} {dg : Int32} {sc : Int32} {ms : Int32} {mi : Int32} {mv : Int32} {mw : Int32} {pu : Int64} {pl : Int64} {st : (Nat → Int64)} {fr : (Nat → Int64)} {sr : (Nat → Int64)} {nu : (Nat → Int32)} {sz : Nat} {a0 a1 a2 : Int32} (hln : ¬ ln = 0) : Met l yX3_later wsX3_later ({ frames := 2, cells := 0, slots := 0, locals := 49 }) (va_Pc ([.ref (ad 0), .int a0, .int a1, .int a2] : List Value) (gW sz (dC, dI) (tyw cI cJ) (yw ad cI cJ ln dg sc ms mi mv mw pu pl st fr sr nu))) (va_Qi (fun r (_u : Unit) => r = (p_later ln ln.toNatClampNeg st a0 a1 a2).1) (fun _u t => va_P (dC, dI) vwCl (yw ad cI cJ ln dg sc ms mi mv mw pu pl (p_later ln ln.toNatClampNeg st a0 a1 a2).2 fr sr nu) t.heap) (va_A (yw ad cI cJ ln dg sc ms mi mv mw pu pl st fr sr nu) sz)) 0 0 (va_A (yw ad cI cJ ln dg sc ms mi mv mw pu pl st fr sr nu) sz) := by
  refine Met.ofW (cc := cX3_later) (maxL := 4) (ret := (some .int)) (by decide) rfl ?_
  intro p e s m args below meth c s₁ B hml hv
  obtain ⟨rfl, hsz, ⟨hnw, hK, hP⟩, hD0⟩ := hv
  have hx := B.exec
  have hb := B.bytes
  have hr := B.returns
  have hts := atoms_spec (ws := wsX3_later) B.pre
  have hown : s.vm.findClass RX3 = some m.cls := findClass_of_methodNamed B.named
  have hlocks := B.notSynchronized
  subst hsz
  have hD := hD0.self (sz := s.heap.size)
  generalize hAe : va_A (yw ad cI cJ ln dg sc ms mi mv mw pu pl st fr sr nu) s.heap.size = A at hD ⊢
  have hA : ∀ q : Nat, s.heap.size ≤ q → A q := fun q h => by rw [← hAe]; exact Or.inr h
  have hS : va_S A s.heap s.heap [] := va_S.rf
  have hw0 := hts (.constantLong RX3 77 (-64)) (by decide +kernel)
  have hw1 := hts (.constantLong RX3 79 (64)) (by decide +kernel)
  have hw2 := hts (.fieldLink RX3 7 "BitStreamsModel" "rows" "[J") (by decide +kernel)
  have hw3 := hts (.fieldLink RX3 23 "BitStreamsModel" "size" "I") (by decide +kernel)
  have inX3 : ∀ w ∈ wsX30, w ∈ wsX3_later := by decide +kernel
  have hl := lv_entry ([.ref (ad 0), .int a0, .int a1, .int a2] : List Value) (n := 4) (Nat.le_of_ble_eq_true rfl)
  rw [lg_entry_eq]
  generalize (lg_sl ([.ref (ad 0), .int a0, .int a1, .int a2] : List Value) ++ List.replicate (4 - (lg_sl ([.ref (ad 0), .int a0, .int a1, .int a2] : List Value)).length) Slot.unset).toArray = ls at hl ⊢
  have hl : lv_has ls 4 [(0, .ref (ad 0)), (1, .int a0), (2, .int a1), (3, .int a2)] := hl
  refine lv_iload_n hx hb dX3_later_0 rfl (lv_at hl 1 rfl) ?_
  refine ro_i (va_runS ⟨hx, hb, hml, hown, hts⟩ (c_X3_isStream l ) (va_cwS 1 hts gX3_later_X3_isStream rfl rfl rfl kd_X3_isStream ⟨Nat.le_of_ble_eq_true rfl, Nat.le_of_ble_eq_true rfl⟩) preS0 rfl rfl hl.1 rfl (lv_room (Nat.le_of_ble_eq_true rfl)) dX3_later_1 ⟨Nat.zero_le _, Nat.zero_le _⟩) ?_
  refine lv_if_eq (tgt := 14) hx hb dX3_later_4 (by decide) (fun c_4 => ?_) (fun c_4 => ?_)
  · skip
    have c_4 := bI_eq.mp c_4
    have hC : ¬ (strm a0 ∧ strm a2) := fun h => c_4 h.1
    refine lv_bipush (v := (-101)) hx hb dX3_later_14 (by decide) ?_
    simp only [p_later, if_neg hC]
    exact W.iret hx hb hr (fun t ht _ => ⟨⟨_, (), rfl, rfl, wpost ht hP⟩, hS.F ht⟩) hS.2.2 dX3_later_16
  · skip
    have c_4 := bI_ne.mp c_4
    refine lv_iload_n hx hb dX3_later_7 rfl (lv_at hl 3 rfl) ?_
    refine ro_i (va_runS ⟨hx, hb, hml, hown, hts⟩ (c_X3_isStream l ) (va_cwS 1 hts gX3_later_X3_isStream rfl rfl rfl kd_X3_isStream ⟨Nat.le_of_ble_eq_true rfl, Nat.le_of_ble_eq_true rfl⟩) preS0 rfl rfl hl.1 rfl (lv_room (Nat.le_of_ble_eq_true rfl)) dX3_later_8 ⟨Nat.zero_le _, Nat.zero_le _⟩) ?_
    refine lv_if_ne (tgt := 17) hx hb dX3_later_11 (by decide) (fun c_11 => ?_) (fun c_11 => ?_)
    · skip
      have c_11 := bI_ne.mp c_11
      have hC : strm a0 ∧ strm a2 := ⟨c_4, c_11⟩
      refine lv_iload_n hx hb dX3_later_17 rfl (lv_at hl 2 rfl) ?_
      refine lv_i2l hx hb dX3_later_18 rfl ?_
      refine lv_ldc2 (v := (-64)) hx hb hown hw0 dX3_later_19 ?_
      refine lv_ldc2 (v := 64) hx hb hown hw1 dX3_later_22 ?_
      refine ro_i (va_runS ⟨hx, hb, hml, hown, hts⟩ (c_X3_in l ) (va_cwS 3 hts gX3_later_X3_in rfl rfl rfl kd_X3_in ⟨Nat.le_of_ble_eq_true rfl, Nat.le_of_ble_eq_true rfl⟩) preS0 rfl rfl hl.1 rfl (lv_room (Nat.le_of_ble_eq_true rfl)) dX3_later_25 ⟨Nat.zero_le _, Nat.zero_le _⟩) ?_
      refine lv_if_ne (tgt := 34) hx hb dX3_later_28 (by decide) (fun c_28 => ?_) (fun c_28 => ?_)
      · skip
        have c_28 := bI_ne.mp c_28
        have c_28 : -64 ≤ a1 ∧ a1 ≤ 64 := (in32 rfl rfl).mp c_28
        refine lv_aload_n hx hb dX3_later_34 rfl (lv_at hl 0 rfl) ?_
        refine va_get (D := (dC, dI)) (ci := 3) (C := RX3) (T := TX3) (N := 13) hx hb hts inX3 hown hK hP 0 rfl rfl 1 (by decide) hw2 (fun _ h9 => h9) rfl dX3_later_35 ?_
        refine lv_iload_n hx hb dX3_later_38 rfl (lv_at hl 3 rfl) ?_
        refine lv_aload_n hx hb dX3_later_39 rfl (lv_at hl 0 rfl) ?_
        refine lv_aload_n hx hb dX3_later_40 rfl (lv_at hl 0 rfl) ?_
        refine va_get (D := (dC, dI)) (ci := 3) (C := RX3) (T := TX3) (N := 13) hx hb hts inX3 hown hK hP 0 rfl rfl 1 (by decide) hw2 (fun _ h9 => h9) rfl dX3_later_41 ?_
        refine lv_iload_n hx hb dX3_later_44 rfl (lv_at hl 1 rfl) ?_
        refine va_lald hx hb hK hP 1 1 rfl rfl (strm_in c_4) dX3_later_45 ?_
        refine lv_bipush (v := 64) hx hb dX3_later_46 (by decide) ?_
        refine lv_aload_n hx hb dX3_later_48 rfl (lv_at hl 0 rfl) ?_
        refine va_get (D := (dC, dI)) (ci := 3) (C := RX3) (T := TX3) (N := 13) hx hb hts inX3 hown hK hP 0 rfl rfl 0 (by decide) hw3 (fun _ h9 => h9) rfl dX3_later_49 ?_
        refine lv_iadd hx hb dX3_later_52 ?_
        refine lv_iload_n hx hb dX3_later_53 rfl (lv_at hl 2 rfl) ?_
        refine lv_isub hx hb dX3_later_54 ?_
        refine lv_aload_n hx hb dX3_later_55 rfl (lv_at hl 0 rfl) ?_
        refine va_get (D := (dC, dI)) (ci := 3) (C := RX3) (T := TX3) (N := 13) hx hb hts inX3 hown hK hP 0 rfl rfl 0 (by decide) hw3 (fun _ h9 => h9) rfl dX3_later_56 ?_
        refine lv_irem hx hb dX3_later_59 (hln) ?_
        refine ro_l (va_runV ⟨hx, hb, hml, hown, hts⟩ (c_X3_shifted l hln) (cwV 2 hts gX3_later_X3_shifted rfl rfl rfl ⟨rfl, kd_X3_shifted⟩ ⟨Nat.le_of_ble_eq_true rfl, Nat.le_of_ble_eq_true rfl⟩) (preV1 hnw hK hP 0 3 rfl rfl) rfl rfl hl.1 rfl (lv_room (Nat.le_of_ble_eq_true rfl)) dX3_later_60 ⟨Nat.zero_le _, Nat.zero_le _⟩) ?_
        refine va_last hx hb hK hP hD hS 1 1 rfl rfl (strm_in c_11) dX3_later_63 (fun H locs hP hD hS => ?_)
        have hP : va_P (dC, dI) vwCl (yw ad cI cJ ln dg sc ms mi mv mw pu pl _ fr sr nu) H := hP
        have hD : va_D A (yw ad cI cJ ln dg sc ms mi mv mw pu pl _ fr sr nu) := va_D_addr hD rfl
        refine lv_aload_n hx hb dX3_later_64 rfl (lv_at hl 0 rfl) ?_
        refine lv_aload_n hx hb dX3_later_65 rfl (lv_at hl 0 rfl) ?_
        refine va_get (D := (dC, dI)) (ci := 3) (C := RX3) (T := TX3) (N := 13) hx hb hts inX3 hown hK hP 0 rfl rfl 1 (by decide) hw2 (fun _ h9 => h9) rfl dX3_later_66 ?_
        refine lv_iload_n hx hb dX3_later_69 rfl (lv_at hl 3 rfl) ?_
        refine va_lald hx hb hK hP 1 1 rfl rfl (strm_in c_11) dX3_later_70 ?_
        refine st_l (v := g_sh ln (st a0.toNatClampNeg) (remI (64 + ln - a1) ln) ln.toNatClampNeg) pk_uLs ?_
        refine ro_i (va_runV ⟨hx, hb, hml, hown, hts⟩ (c_X3_onesOf l ) (cwV 1 hts gX3_later_X3_onesOf rfl rfl rfl ⟨rfl, kd_X3_onesOf⟩ ⟨Nat.le_of_ble_eq_true rfl, Nat.le_of_ble_eq_true rfl⟩) (preV1 hnw hK hP 0 3 rfl rfl) rfl rfl hl.1 rfl (lv_room (Nat.le_of_ble_eq_true rfl)) dX3_later_71 ⟨Nat.zero_le _, Nat.zero_le _⟩) ?_
        simp only [p_later, if_pos hC, if_pos c_28, p_set]
        exact W.iret hx hb hr (fun t ht _ => ⟨⟨_, (), rfl, rfl, wpost ht hP⟩, hS.F ht⟩) hS.2.2 dX3_later_74
      · skip
        have c_28 := bI_eq.mp c_28
        have c_28 : ¬ (-64 ≤ a1 ∧ a1 ≤ 64) := fun h => c_28 ((in32 rfl rfl).mpr h)
        refine lv_bipush (v := (-102)) hx hb dX3_later_31 (by decide) ?_
        simp only [p_later, if_pos hC, if_neg c_28]
        exact W.iret hx hb hr (fun t ht _ => ⟨⟨_, (), rfl, rfl, wpost ht hP⟩, hS.F ht⟩) hS.2.2 dX3_later_33
    · skip
      have c_11 := bI_eq.mp c_11
      have hC : ¬ (strm a0 ∧ strm a2) := fun h => c_11 h.2
      refine lv_bipush (v := (-101)) hx hb dX3_later_14 (by decide) ?_
      simp only [p_later, if_neg hC]
      exact W.iret hx hb hr (fun t ht _ => ⟨⟨_, (), rfl, rfl, wpost ht hP⟩, hS.F ht⟩) hS.2.2 dX3_later_16
theorem kd_X3_flip : yX3_flip.cls ≠ "java/lang/invoke/MethodHandle" ∧ yX3_flip.cls ≠ "java/lang/invoke/VarHandle" ∧ (parseMethodDescriptor yX3_flip.desc).map (fun d => d.parameters.length) = some 3 := by decide +kernel
set_option maxHeartbeats 4000000 in
set_option maxRecDepth 100000 in
theorem c_X3_flip (l : Launch) {dC : Nat → ClassId} {dI : Nat → Nat → Nat} {ad : Nat → Nat} {cI cJ : ClassId} {ln : Int32} {dg : Int32} {sc : Int32} {ms : Int32} {mi : Int32} {mv : Int32} {mw : Int32} {pu : Int64} {pl : Int64} {st : (Nat → Int64)} {fr : (Nat → Int64)} {sr : (Nat → Int64)} {nu : (Nat → Int32)} {sz : Nat} {a0 a2 : Int32} {a1 : Int64} : Met l yX3_flip wsX3_flip ({ frames := 2, cells := 0, slots := 0, locals := 45 }) (va_Pc ([.ref (ad 0), .int a0, .long a1, .int a2] : List Value) (gW sz (dC, dI) (tyw cI cJ) (yw ad cI cJ ln dg sc ms mi mv mw pu pl st fr sr nu))) (va_Qi (fun r (_u : Unit) => r = (p_flip ln st a0 a1 a2).1) (fun _u t => va_P (dC, dI) vwCl (yw ad cI cJ ln dg sc ms mi mv mw pu pl (p_flip ln st a0 a1 a2).2 fr sr nu) t.heap) (va_A (yw ad cI cJ ln dg sc ms mi mv mw pu pl st fr sr nu) sz)) 0 0 (va_A (yw ad cI cJ ln dg sc ms mi mv mw pu pl st fr sr nu) sz) := by
  refine Met.ofW (cc := cX3_flip) (maxL := 8) (ret := (some .int)) (by decide) rfl ?_
  intro p e s m args below meth c s₁ B hml hv
  obtain ⟨rfl, hsz, ⟨hnw, hK, hP⟩, hD0⟩ := hv
  have hx := B.exec
  have hb := B.bytes
  have hr := B.returns
  have hts := atoms_spec (ws := wsX3_flip) B.pre
  have hown : s.vm.findClass RX3 = some m.cls := findClass_of_methodNamed B.named
  have hlocks := B.notSynchronized
  subst hsz
  have hD := hD0.self (sz := s.heap.size)
  generalize hAe : va_A (yw ad cI cJ ln dg sc ms mi mv mw pu pl st fr sr nu) s.heap.size = A at hD ⊢
  have hA : ∀ q : Nat, s.heap.size ≤ q → A q := fun q h => by rw [← hAe]; exact Or.inr h
  have hS : va_S A s.heap s.heap [] := va_S.rf
  have hw0 := hts (.fieldLink RX3 23 "BitStreamsModel" "size" "I") (by decide +kernel)
  have hw1 := hts (.fieldLink RX3 7 "BitStreamsModel" "rows" "[J") (by decide +kernel)
  have inX3 : ∀ w ∈ wsX30, w ∈ wsX3_flip := by decide +kernel
  have hl := lv_entry ([.ref (ad 0), .int a0, .long a1, .int a2] : List Value) (n := 8) (Nat.le_of_ble_eq_true rfl)
  rw [lg_entry_eq]
  generalize (lg_sl ([.ref (ad 0), .int a0, .long a1, .int a2] : List Value) ++ List.replicate (8 - (lg_sl ([.ref (ad 0), .int a0, .long a1, .int a2] : List Value)).length) Slot.unset).toArray = ls at hl ⊢
  have hl : lv_has ls 8 [(0, .ref (ad 0)), (1, .int a0), (2, .long a1), (4, .int a2)] := hl
  refine lv_iload_n hx hb dX3_flip_0 rfl (lv_at hl 1 rfl) ?_
  refine ro_i (va_runS ⟨hx, hb, hml, hown, hts⟩ (c_X3_isStream l ) (va_cwS 1 hts gX3_flip_X3_isStream rfl rfl rfl kd_X3_isStream ⟨Nat.le_of_ble_eq_true rfl, Nat.le_of_ble_eq_true rfl⟩) preS0 rfl rfl hl.1 rfl (lv_room (Nat.le_of_ble_eq_true rfl)) dX3_flip_1 ⟨Nat.zero_le _, Nat.zero_le _⟩) ?_
  refine lv_if_ne (tgt := 10) hx hb dX3_flip_4 (by decide) (fun c_4 => ?_) (fun c_4 => ?_)
  · skip
    have c_4 := bI_ne.mp c_4
    refine lv_iload hx hb dX3_flip_10 (lv_at hl 3 rfl) ?_
    refine lv_i2l hx hb dX3_flip_12 rfl ?_
    refine lv_lconst (v := 0) hx hb dX3_flip_13 (by decide) ?_
    refine lv_aload_n hx hb dX3_flip_14 rfl (lv_at hl 0 rfl) ?_
    refine va_get (D := (dC, dI)) (ci := 3) (C := RX3) (T := TX3) (N := 13) hx hb hts inX3 hown hK hP 0 rfl rfl 0 (by decide) hw0 (fun _ h9 => h9) rfl dX3_flip_15 ?_
    refine lv_i2l hx hb dX3_flip_18 rfl ?_
    refine ro_i (va_runS ⟨hx, hb, hml, hown, hts⟩ (c_X3_in l ) (va_cwS 3 hts gX3_flip_X3_in rfl rfl rfl kd_X3_in ⟨Nat.le_of_ble_eq_true rfl, Nat.le_of_ble_eq_true rfl⟩) preS0 rfl rfl hl.1 rfl (lv_room (Nat.le_of_ble_eq_true rfl)) dX3_flip_19 ⟨Nat.zero_le _, Nat.zero_le _⟩) ?_
    refine lv_if_ne (tgt := 28) hx hb dX3_flip_22 (by decide) (fun c_22 => ?_) (fun c_22 => ?_)
    · skip
      have c_22 := bI_ne.mp c_22
      have c_22 : 0 ≤ a2 ∧ a2 ≤ ln := (in32 rfl rfl).mp c_22
      refine lv_iconst (v := 0) hx hb dX3_flip_28 (by decide) ?_
      refine lv_istore (lv' := [(5, .int _), (0, .ref _), (1, .int _), (2, .long _), (4, .int _)]) hx hb dX3_flip_29 hl (by decide) rfl (fun ls hl => ?_)
      refine lv_iconst (v := 0) hx hb dX3_flip_31 (by decide) ?_
      refine lv_istore (lv' := [(6, .int _), (5, .int _), (0, .ref _), (1, .int _), (2, .long _), (4, .int _)]) hx hb dX3_flip_32 hl (by decide) rfl (fun ls hl => ?_)
      have L34 : ∀ (n34 : Nat) (kq : Nat) (uq : Nat → Int64), a2.toNatClampNeg + 1 ≤ kq + n34 → (kq ≤ a2.toNatClampNeg) → (uq = vp_updL st a0.toNatClampNeg (g_fl (st a0.toNatClampNeg) a1 kq)) → ∀ (H : Heap) (locs : List Loc), va_P (dC, dI) vwCl (yw ad cI cJ ln dg sc ms mi mv mw pu pl uq fr sr nu) H → va_S A s.heap H locs → ∀ (ls : Array Slot), lv_has ls 8 [(0, .ref (ad 0)), (1, .int a0), (2, .long a1), (4, .int a2), (5, .int (g_ones a1 kq)), (6, .int (nI kq))] → W p l e { frames := 2, cells := 0, slots := 0, locals := 45 } s m ([.ref (ad 0), .int a0, .long a1, .int a2] : List Value).toArray below meth c H locs 0 0 (MQ below (va_Qi (fun r (_u : Unit) => r = (p_flip ln st a0 a1 a2).1) (fun _u t => va_P (dC, dI) vwCl (yw ad cI cJ ln dg sc ms mi mv mw pu pl (p_flip ln st a0 a1 a2).2 fr sr nu) t.heap) A) ([.ref (ad 0), .int a0, .long a1, .int a2] : List Value).toArray s 0 0 (A)) (F0 m 34 ls []) := by
        intro n34
        induction n34 with
        | zero =>
          intro kq uq hf34 hk hu
          exact absurd hf34 (by omega)
        | succ n34 ih34 =>
          intro kq uq hf34 hk hu H locs hP hS ls hl
          have hD : va_D A (yw ad cI cJ ln dg sc ms mi mv mw pu pl uq fr sr nu) := va_D_addr hD rfl
          refine lv_iload hx hb dX3_flip_34 (lv_at hl 5 rfl) ?_
          refine lv_iload hx hb dX3_flip_36 (lv_at hl 3 rfl) ?_
          refine lv_icmp_ge (tgt := 78) hx hb dX3_flip_38 (by decide) (fun c_38 => ?_) (fun c_38 => ?_)
          · skip
            have hz := cl_end hk c_38
            refine lv_iload hx hb dX3_flip_78 (lv_at hl 4 rfl) ?_
            subst hu
            simp only [p_flip, if_pos c_4, if_pos c_22]
            rw [hz]
            exact W.iret hx hb hr (fun t ht _ => ⟨⟨_, (), rfl, rfl, wpost ht hP⟩, hS.F ht⟩) hS.2.2 dX3_flip_80
          · skip
            refine lv_aload_n hx hb dX3_flip_41 rfl (lv_at hl 0 rfl) ?_
            refine lv_lload_n hx hb dX3_flip_42 rfl (lv_at hl 2 rfl) ?_
            refine lv_iload hx hb dX3_flip_43 (lv_at hl 5 rfl) ?_
            refine ro_i (va_runV ⟨hx, hb, hml, hown, hts⟩ (c_X3_bitOf l ) (cwV 2 hts gX3_flip_X3_bitOf rfl rfl rfl ⟨rfl, kd_X3_bitOf⟩ ⟨Nat.le_of_ble_eq_true rfl, Nat.le_of_ble_eq_true rfl⟩) (preV1 hnw hK hP 0 3 rfl rfl) rfl rfl hl.1 rfl (lv_room (Nat.le_of_ble_eq_true rfl)) dX3_flip_45 ⟨Nat.zero_le _, Nat.zero_le _⟩) ?_
            refine lv_istore (lv' := [(7, .int _), (0, .ref _), (1, .int _), (2, .long _), (4, .int _), (5, .int _), (6, .int _)]) hx hb dX3_flip_48 hl (by decide) rfl (fun ls hl => ?_)
            refine lv_aload_n hx hb dX3_flip_50 rfl (lv_at hl 1 rfl) ?_
            refine va_get (D := (dC, dI)) (ci := 3) (C := RX3) (T := TX3) (N := 13) hx hb hts inX3 hown hK hP 0 rfl rfl 1 (by decide) hw1 (fun _ h9 => h9) rfl dX3_flip_51 ?_
            refine lv_iload_n hx hb dX3_flip_54 rfl (lv_at hl 2 rfl) ?_
            refine lv_dup2_11 hx hb dX3_flip_55 rfl rfl ?_
            refine va_lald hx hb hK hP 1 1 rfl rfl (strm_in c_4) dX3_flip_56 ?_
            refine lv_iload hx hb dX3_flip_57 (lv_at hl 0 rfl) ?_
            refine lv_i2l hx hb dX3_flip_59 rfl ?_
            refine lv_iload hx hb dX3_flip_60 (lv_at hl 6 rfl) ?_
            refine lv_lshl hx hb dX3_flip_62 rfl ?_
            refine lv_lxor hx hb dX3_flip_63 ?_
            refine va_last hx hb hK hP hD hS 1 1 rfl rfl (strm_in c_4) dX3_flip_64 (fun H locs hP hD hS => ?_)
            have hP : va_P (dC, dI) vwCl (yw ad cI cJ ln dg sc ms mi mv mw pu pl _ fr sr nu) H := hP
            have hD : va_D A (yw ad cI cJ ln dg sc ms mi mv mw pu pl _ fr sr nu) := va_D_addr hD rfl
            refine lv_iload hx hb dX3_flip_65 (lv_at hl 5 rfl) ?_
            refine lv_iload hx hb dX3_flip_67 (lv_at hl 0 rfl) ?_
            refine lv_iadd hx hb dX3_flip_69 ?_
            refine lv_istore (lv' := [(5, .int _), (7, .int _), (0, .ref _), (1, .int _), (2, .long _), (4, .int _), (6, .int _)]) hx hb dX3_flip_70 hl (by decide) rfl (fun ls hl => ?_)
            refine lv_iinc (lv' := [(6, .int (nI (kq + 1))), (5, .int _), (7, .int _), (0, .ref _), (1, .int _), (2, .long _), (4, .int _)]) hx hb dX3_flip_72 hl (k := 6) rfl (nI_1 _) (by decide) rfl (fun ls hl => ?_)
            refine lv_goto (tgt := 34) hx hb dX3_flip_75 (by decide) ?_
            exact ih34 (kq + 1) _ (by have := cl_go hk c_38; omega) (cl_go hk c_38) (by rw [hu, updL_twice, pk_uLs]; rfl) _ _ hP hS ls (lv_sub hl [3, 4, 5, 6, 1, 0] rfl)
      exact L34 (a2.toNatClampNeg + 1) 0 st (by omega) (Nat.zero_le _) (updL_same st _).symm _ _ hP hS ls (lv_sub hl [2, 3, 4, 5, 1, 0] rfl)
    · skip
      have c_22 := bI_eq.mp c_22
      have c_22 : ¬ (0 ≤ a2 ∧ a2 ≤ ln) := fun h => c_22 ((in32 rfl rfl).mpr h)
      refine lv_bipush (v := (-102)) hx hb dX3_flip_25 (by decide) ?_
      simp only [p_flip, if_pos c_4, if_neg c_22]
      exact W.iret hx hb hr (fun t ht _ => ⟨⟨_, (), rfl, rfl, wpost ht hP⟩, hS.F ht⟩) hS.2.2 dX3_flip_27
  · skip
    have c_4 := bI_eq.mp c_4
    refine lv_bipush (v := (-101)) hx hb dX3_flip_7 (by decide) ?_
    simp only [p_flip, if_neg c_4]
    exact W.iret hx hb hr (fun t ht _ => ⟨⟨_, (), rfl, rfl, wpost ht hP⟩, hS.F ht⟩) hS.2.2 dX3_flip_9
theorem kd_X3_both : yX3_both.cls ≠ "java/lang/invoke/MethodHandle" ∧ yX3_both.cls ≠ "java/lang/invoke/VarHandle" ∧ (parseMethodDescriptor yX3_both.desc).map (fun d => d.parameters.length) = some 3 := by decide +kernel
set_option maxHeartbeats 4000000 in
set_option maxRecDepth 100000 in
theorem c_X3_both (l : Launch) {dC : Nat → ClassId} {dI : Nat → Nat → Nat} {ad : Nat → Nat} {cI cJ : ClassId} {ln : Int32} {dg : Int32} {sc : Int32} {ms : Int32} {mi : Int32} {mv : Int32} {mw : Int32} {pu : Int64} {pl : Int64} {st : (Nat → Int64)} {fr : (Nat → Int64)} {sr : (Nat → Int64)} {nu : (Nat → Int32)} {a0 a1 a2 : Int32} : Met l yX3_both wsX3_both ({ frames := 2, cells := 0, slots := 0, locals := 50 }) (va_Pc ([.ref (ad 0), .int a0, .int a1, .int a2] : List Value) (gB (dC, dI) (tyw cI cJ) (yw ad cI cJ ln dg sc ms mi mv mw pu pl st fr sr nu))) (QcRead (p_both ln.toNatClampNeg st a0 a1 a2)) 0 0 (fun _ => False) := by
  refine Met.ofW (cc := cX3_both) (maxL := 4) (ret := (some .int)) (by decide) rfl ?_
  intro p e s m args below meth c s₁ B hml hv
  obtain ⟨rfl, hnw, hK, hP⟩ := hv
  have hx := B.exec
  have hb := B.bytes
  have hr := B.returns
  have hts := atoms_spec (ws := wsX3_both) B.pre
  have hown : s.vm.findClass RX3 = some m.cls := findClass_of_methodNamed B.named
  have hlocks := B.notSynchronized
  have hw0 := hts (.constantLong RX3 47 (3)) (by decide +kernel)
  have hl := lv_entry ([.ref (ad 0), .int a0, .int a1, .int a2] : List Value) (n := 4) (Nat.le_of_ble_eq_true rfl)
  rw [lg_entry_eq]
  generalize (lg_sl ([.ref (ad 0), .int a0, .int a1, .int a2] : List Value) ++ List.replicate (4 - (lg_sl ([.ref (ad 0), .int a0, .int a1, .int a2] : List Value)).length) Slot.unset).toArray = ls at hl ⊢
  have hl : lv_has ls 4 [(0, .ref (ad 0)), (1, .int a0), (2, .int a1), (3, .int a2)] := hl
  refine lv_iload_n hx hb dX3_both_0 rfl (lv_at hl 1 rfl) ?_
  refine ro_i (va_runS ⟨hx, hb, hml, hown, hts⟩ (c_X3_isStream l ) (va_cwS 1 hts gX3_both_X3_isStream rfl rfl rfl kd_X3_isStream ⟨Nat.le_of_ble_eq_true rfl, Nat.le_of_ble_eq_true rfl⟩) preS0 rfl rfl hl.1 rfl (lv_room (Nat.le_of_ble_eq_true rfl)) dX3_both_1 ⟨Nat.zero_le _, Nat.zero_le _⟩) ?_
  refine lv_if_eq (tgt := 14) hx hb dX3_both_4 (by decide) (fun c_4 => ?_) (fun c_4 => ?_)
  · skip
    have c_4 := bI_eq.mp c_4
    have hC : ¬ (strm a0 ∧ strm a1) := fun h => c_4 h.1
    refine lv_bipush (v := (-101)) hx hb dX3_both_14 (by decide) ?_
    exact W.iret hx hb hr (fun t ht _ => ri (by simp only [p_both, if_neg hC]) ht) no_locs dX3_both_16
  · skip
    have c_4 := bI_ne.mp c_4
    refine lv_iload_n hx hb dX3_both_7 rfl (lv_at hl 2 rfl) ?_
    refine ro_i (va_runS ⟨hx, hb, hml, hown, hts⟩ (c_X3_isStream l ) (va_cwS 1 hts gX3_both_X3_isStream rfl rfl rfl kd_X3_isStream ⟨Nat.le_of_ble_eq_true rfl, Nat.le_of_ble_eq_true rfl⟩) preS0 rfl rfl hl.1 rfl (lv_room (Nat.le_of_ble_eq_true rfl)) dX3_both_8 ⟨Nat.zero_le _, Nat.zero_le _⟩) ?_
    refine lv_if_ne (tgt := 17) hx hb dX3_both_11 (by decide) (fun c_11 => ?_) (fun c_11 => ?_)
    · skip
      have c_11 := bI_ne.mp c_11
      have hC : strm a0 ∧ strm a1 := ⟨c_4, c_11⟩
      refine lv_iload_n hx hb dX3_both_17 rfl (lv_at hl 3 rfl) ?_
      refine lv_i2l hx hb dX3_both_18 rfl ?_
      refine lv_lconst (v := 0) hx hb dX3_both_19 (by decide) ?_
      refine lv_ldc2 (v := 3) hx hb hown hw0 dX3_both_20 ?_
      refine ro_i (va_runS ⟨hx, hb, hml, hown, hts⟩ (c_X3_in l ) (va_cwS 3 hts gX3_both_X3_in rfl rfl rfl kd_X3_in ⟨Nat.le_of_ble_eq_true rfl, Nat.le_of_ble_eq_true rfl⟩) preS0 rfl rfl hl.1 rfl (lv_room (Nat.le_of_ble_eq_true rfl)) dX3_both_23 ⟨Nat.zero_le _, Nat.zero_le _⟩) ?_
      refine lv_if_eq (tgt := 39) hx hb dX3_both_26 (by decide) (fun c_26 => ?_) (fun c_26 => ?_)
      · skip
        have c_26 := bI_eq.mp c_26
        have c_26 : ¬ (0 ≤ a2 ∧ a2 ≤ 3) := fun h => c_26 ((in32 rfl rfl).mpr h)
        have hv : p_both ln.toNatClampNeg st a0 a1 a2 = -102 := by simp only [p_both, if_pos hC, if_neg c_26]
        refine lv_bipush (v := (-102)) hx hb dX3_both_39 (by decide) ?_
        exact W.iret hx hb hr (fun t ht _ => ri hv.symm ht) no_locs dX3_both_41
      · skip
        have c_26 := bI_ne.mp c_26
        have c_26 : 0 ≤ a2 ∧ a2 ≤ 3 := (in32 rfl rfl).mp c_26
        have hv : p_both ln.toNatClampNeg st a0 a1 a2 = g_bo (st a0.toNatClampNeg) (st a1.toNatClampNeg) a2 ln.toNatClampNeg := by simp only [p_both, if_pos hC, if_pos c_26]
        refine lv_aload_n hx hb dX3_both_29 rfl (lv_at hl 0 rfl) ?_
        refine lv_iload_n hx hb dX3_both_30 rfl (lv_at hl 1 rfl) ?_
        refine lv_iload_n hx hb dX3_both_31 rfl (lv_at hl 2 rfl) ?_
        refine lv_iload_n hx hb dX3_both_32 rfl (lv_at hl 3 rfl) ?_
        refine ro_i (va_runV ⟨hx, hb, hml, hown, hts⟩ (c_X3_bothOf l (strm_in c_4) (strm_in c_11)) (cwV 3 hts gX3_both_X3_bothOf rfl rfl rfl ⟨rfl, kd_X3_bothOf⟩ ⟨Nat.le_of_ble_eq_true rfl, Nat.le_of_ble_eq_true rfl⟩) (preV1 hnw hK hP 0 3 rfl rfl) rfl rfl hl.1 rfl (lv_room (Nat.le_of_ble_eq_true rfl)) dX3_both_33 ⟨Nat.zero_le _, Nat.zero_le _⟩) ?_
        refine lv_goto (tgt := 41) hx hb dX3_both_36 (by decide) ?_
        exact W.iret hx hb hr (fun t ht _ => ri hv.symm ht) no_locs dX3_both_41
    · skip
      have c_11 := bI_eq.mp c_11
      have hC : ¬ (strm a0 ∧ strm a1) := fun h => c_11 h.2
      refine lv_bipush (v := (-101)) hx hb dX3_both_14 (by decide) ?_
      exact W.iret hx hb hr (fun t ht _ => ri (by simp only [p_both, if_neg hC]) ht) no_locs dX3_both_16
theorem kd_X3_together : yX3_together.cls ≠ "java/lang/invoke/MethodHandle" ∧ yX3_together.cls ≠ "java/lang/invoke/VarHandle" ∧ (parseMethodDescriptor yX3_together.desc).map (fun d => d.parameters.length) = some 2 := by decide +kernel
set_option maxHeartbeats 4000000 in
set_option maxRecDepth 100000 in
theorem c_X3_together (l : Launch) {dC : Nat → ClassId} {dI : Nat → Nat → Nat} {ad : Nat → Nat} {cI cJ : ClassId} {ln : Int32} {dg : Int32} {sc : Int32} {ms : Int32} {mi : Int32} {mv : Int32} {mw : Int32} {pu : Int64} {pl : Int64} {st : (Nat → Int64)} {fr : (Nat → Int64)} {sr : (Nat → Int64)} {nu : (Nat → Int32)} {a0 a1 : Int32} (hlo : ∀ p q r s, p = (g_bo (st a0.toNatClampNeg) (st a1.toNatClampNeg) 0 ln.toNatClampNeg) → q = (g_bo (st a0.toNatClampNeg) (st a1.toNatClampNeg) 1 ln.toNatClampNeg) → r = (g_bo (st a0.toNatClampNeg) (st a1.toNatClampNeg) 2 ln.toNatClampNeg) → s = (g_bo (st a0.toNatClampNeg) (st a1.toNatClampNeg) 3 ln.toNatClampNeg) → ¬ p * s - q * r = 0 → ¬ g_below ln p q r s = 0) : Met l yX3_together wsX3_together ({ frames := 2, cells := 0, slots := 0, locals := 50 }) (va_Pc ([.ref (ad 0), .int a0, .int a1] : List Value) (gB (dC, dI) (tyw cI cJ) (yw ad cI cJ ln dg sc ms mi mv mw pu pl st fr sr nu))) (QcRead (p_together ln ln.toNatClampNeg st a0 a1)) 0 0 (fun _ => False) := by
  refine Met.ofW (cc := cX3_together) (maxL := 11) (ret := (some .int)) (by decide) rfl ?_
  intro p e s m args below meth c s₁ B hml hv
  obtain ⟨rfl, hnw, hK, hP⟩ := hv
  have hx := B.exec
  have hb := B.bytes
  have hr := B.returns
  have hts := atoms_spec (ws := wsX3_together) B.pre
  have hown : s.vm.findClass RX3 = some m.cls := findClass_of_methodNamed B.named
  have hlocks := B.notSynchronized
  have hw0 := hts (.constant RX3 89 (-100000)) (by decide +kernel)
  have hw1 := hts (.fieldLink RX3 23 "BitStreamsModel" "size" "I") (by decide +kernel)
  have inX3 : ∀ w ∈ wsX30, w ∈ wsX3_together := by decide +kernel
  have hl := lv_entry ([.ref (ad 0), .int a0, .int a1] : List Value) (n := 11) (Nat.le_of_ble_eq_true rfl)
  rw [lg_entry_eq]
  generalize (lg_sl ([.ref (ad 0), .int a0, .int a1] : List Value) ++ List.replicate (11 - (lg_sl ([.ref (ad 0), .int a0, .int a1] : List Value)).length) Slot.unset).toArray = ls at hl ⊢
  have hl : lv_has ls 11 [(0, .ref (ad 0)), (1, .int a0), (2, .int a1)] := hl
  refine lv_iload_n hx hb dX3_together_0 rfl (lv_at hl 1 rfl) ?_
  refine ro_i (va_runS ⟨hx, hb, hml, hown, hts⟩ (c_X3_isStream l ) (va_cwS 1 hts gX3_together_X3_isStream rfl rfl rfl kd_X3_isStream ⟨Nat.le_of_ble_eq_true rfl, Nat.le_of_ble_eq_true rfl⟩) preS0 rfl rfl hl.1 rfl (lv_room (Nat.le_of_ble_eq_true rfl)) dX3_together_1 ⟨Nat.zero_le _, Nat.zero_le _⟩) ?_
  refine lv_if_eq (tgt := 14) hx hb dX3_together_4 (by decide) (fun c_4 => ?_) (fun c_4 => ?_)
  · skip
    have c_4 := bI_eq.mp c_4
    have hC : ¬ (strm a0 ∧ strm a1) := fun h => c_4 h.1
    refine lv_ldc (v := (-100000)) hx hb hown hw0 dX3_together_14 ?_
    exact W.iret hx hb hr (fun t ht _ => ri (by simp only [p_together, if_neg hC]) ht) no_locs dX3_together_16
  · skip
    have c_4 := bI_ne.mp c_4
    refine lv_iload_n hx hb dX3_together_7 rfl (lv_at hl 2 rfl) ?_
    refine ro_i (va_runS ⟨hx, hb, hml, hown, hts⟩ (c_X3_isStream l ) (va_cwS 1 hts gX3_together_X3_isStream rfl rfl rfl kd_X3_isStream ⟨Nat.le_of_ble_eq_true rfl, Nat.le_of_ble_eq_true rfl⟩) preS0 rfl rfl hl.1 rfl (lv_room (Nat.le_of_ble_eq_true rfl)) dX3_together_8 ⟨Nat.zero_le _, Nat.zero_le _⟩) ?_
    refine lv_if_ne (tgt := 17) hx hb dX3_together_11 (by decide) (fun c_11 => ?_) (fun c_11 => ?_)
    · skip
      have c_11 := bI_ne.mp c_11
      have hC : strm a0 ∧ strm a1 := ⟨c_4, c_11⟩
      refine lv_aload_n hx hb dX3_together_17 rfl (lv_at hl 0 rfl) ?_
      refine lv_iload_n hx hb dX3_together_18 rfl (lv_at hl 1 rfl) ?_
      refine lv_iload_n hx hb dX3_together_19 rfl (lv_at hl 2 rfl) ?_
      refine lv_iconst (v := 0) hx hb dX3_together_20 (by decide) ?_
      refine ro_i (va_runV ⟨hx, hb, hml, hown, hts⟩ (c_X3_bothOf l (strm_in c_4) (strm_in c_11)) (cwV 3 hts gX3_together_X3_bothOf rfl rfl rfl ⟨rfl, kd_X3_bothOf⟩ ⟨Nat.le_of_ble_eq_true rfl, Nat.le_of_ble_eq_true rfl⟩) (preV1 hnw hK hP 0 3 rfl rfl) rfl rfl hl.1 rfl (lv_room (Nat.le_of_ble_eq_true rfl)) dX3_together_21 ⟨Nat.zero_le _, Nat.zero_le _⟩) ?_
      refine lv_topi (fun xp ep => ?_)
      refine lv_istore_n (lv' := [(3, .int _), (0, .ref _), (1, .int _), (2, .int _)]) hx hb dX3_together_24 rfl hl (by decide) rfl (fun ls hl => ?_)
      refine lv_aload_n hx hb dX3_together_25 rfl (lv_at hl 1 rfl) ?_
      refine lv_iload_n hx hb dX3_together_26 rfl (lv_at hl 2 rfl) ?_
      refine lv_iload_n hx hb dX3_together_27 rfl (lv_at hl 3 rfl) ?_
      refine lv_iconst (v := 1) hx hb dX3_together_28 (by decide) ?_
      refine ro_i (va_runV ⟨hx, hb, hml, hown, hts⟩ (c_X3_bothOf l (strm_in c_4) (strm_in c_11)) (cwV 3 hts gX3_together_X3_bothOf rfl rfl rfl ⟨rfl, kd_X3_bothOf⟩ ⟨Nat.le_of_ble_eq_true rfl, Nat.le_of_ble_eq_true rfl⟩) (preV1 hnw hK hP 0 3 rfl rfl) rfl rfl hl.1 rfl (lv_room (Nat.le_of_ble_eq_true rfl)) dX3_together_29 ⟨Nat.zero_le _, Nat.zero_le _⟩) ?_
      refine lv_topi (fun xq eq => ?_)
      refine lv_istore (lv' := [(4, .int _), (3, .int _), (0, .ref _), (1, .int _), (2, .int _)]) hx hb dX3_together_32 hl (by decide) rfl (fun ls hl => ?_)
      refine lv_aload_n hx hb dX3_together_34 rfl (lv_at hl 2 rfl) ?_
      refine lv_iload_n hx hb dX3_together_35 rfl (lv_at hl 3 rfl) ?_
      refine lv_iload_n hx hb dX3_together_36 rfl (lv_at hl 4 rfl) ?_
      refine lv_iconst (v := 2) hx hb dX3_together_37 (by decide) ?_
      refine ro_i (va_runV ⟨hx, hb, hml, hown, hts⟩ (c_X3_bothOf l (strm_in c_4) (strm_in c_11)) (cwV 3 hts gX3_together_X3_bothOf rfl rfl rfl ⟨rfl, kd_X3_bothOf⟩ ⟨Nat.le_of_ble_eq_true rfl, Nat.le_of_ble_eq_true rfl⟩) (preV1 hnw hK hP 0 3 rfl rfl) rfl rfl hl.1 rfl (lv_room (Nat.le_of_ble_eq_true rfl)) dX3_together_38 ⟨Nat.zero_le _, Nat.zero_le _⟩) ?_
      refine lv_topi (fun xr er => ?_)
      refine lv_istore (lv' := [(5, .int _), (4, .int _), (3, .int _), (0, .ref _), (1, .int _), (2, .int _)]) hx hb dX3_together_41 hl (by decide) rfl (fun ls hl => ?_)
      refine lv_aload_n hx hb dX3_together_43 rfl (lv_at hl 3 rfl) ?_
      refine lv_iload_n hx hb dX3_together_44 rfl (lv_at hl 4 rfl) ?_
      refine lv_iload_n hx hb dX3_together_45 rfl (lv_at hl 5 rfl) ?_
      refine lv_iconst (v := 3) hx hb dX3_together_46 (by decide) ?_
      refine ro_i (va_runV ⟨hx, hb, hml, hown, hts⟩ (c_X3_bothOf l (strm_in c_4) (strm_in c_11)) (cwV 3 hts gX3_together_X3_bothOf rfl rfl rfl ⟨rfl, kd_X3_bothOf⟩ ⟨Nat.le_of_ble_eq_true rfl, Nat.le_of_ble_eq_true rfl⟩) (preV1 hnw hK hP 0 3 rfl rfl) rfl rfl hl.1 rfl (lv_room (Nat.le_of_ble_eq_true rfl)) dX3_together_47 ⟨Nat.zero_le _, Nat.zero_le _⟩) ?_
      refine lv_topi (fun xs es => ?_)
      refine lv_istore (lv' := [(6, .int _), (5, .int _), (4, .int _), (3, .int _), (0, .ref _), (1, .int _), (2, .int _)]) hx hb dX3_together_50 hl (by decide) rfl (fun ls hl => ?_)
      refine lv_iload_n hx hb dX3_together_52 rfl (lv_at hl 3 rfl) ?_
      refine lv_iload hx hb dX3_together_53 (lv_at hl 0 rfl) ?_
      refine lv_imul hx hb dX3_together_55 ?_
      refine lv_iload hx hb dX3_together_56 (lv_at hl 2 rfl) ?_
      refine lv_iload hx hb dX3_together_58 (lv_at hl 1 rfl) ?_
      refine lv_imul hx hb dX3_together_60 ?_
      refine lv_isub hx hb dX3_together_61 ?_
      refine lv_topi (fun ab eab => ?_)
      refine lv_istore (lv' := [(7, .int _), (6, .int _), (5, .int _), (4, .int _), (3, .int _), (0, .ref _), (1, .int _), (2, .int _)]) hx hb dX3_together_62 hl (by decide) rfl (fun ls hl => ?_)
      refine lv_iload hx hb dX3_together_64 (lv_at hl 0 rfl) ?_
      refine lv_if_ne (tgt := 71) hx hb dX3_together_66 (by decide) (fun c_66 => ?_) (fun c_66 => ?_)
      · skip
        refine lv_iload hx hb dX3_together_71 (lv_at hl 3 rfl) ?_
        refine lv_iload hx hb dX3_together_73 (lv_at hl 2 rfl) ?_
        refine lv_icmp_ge (tgt := 85) hx hb dX3_together_75 (by decide) (fun c_75 => ?_) (fun c_75 => ?_)
        · skip
          have hls : ∀ x y : Int32, (if xr ≤ xq then x else y) = x := fun x y => if_pos c_75
          refine lv_iload_n hx hb dX3_together_85 rfl (lv_at hl 4 rfl) ?_
          refine lv_iload hx hb dX3_together_86 (lv_at hl 2 rfl) ?_
          refine lv_iadd hx hb dX3_together_88 ?_
          refine st_i (v := if xr ≤ xq then xp + xr else xp + xq) (by rw [hls]) ?_
          refine lv_istore (lv' := [(8, .int _), (7, .int _), (6, .int _), (5, .int _), (4, .int _), (3, .int _), (0, .ref _), (1, .int _), (2, .int _)]) hx hb dX3_together_89 hl (by decide) rfl (fun ls hl => ?_)
          refine lv_iload_n hx hb dX3_together_91 rfl (lv_at hl 5 rfl) ?_
          refine lv_iload hx hb dX3_together_92 (lv_at hl 2 rfl) ?_
          refine lv_icmp_le (tgt := 104) hx hb dX3_together_94 (by decide) (fun c_94 => ?_) (fun c_94 => ?_)
          · skip
            have hgr : ∀ x y : Int32, (if xp ≤ xs then x else y) = x := fun x y => if_pos c_94
            refine lv_iconst (v := 0) hx hb dX3_together_104 (by decide) ?_
            refine st_i (v := if xp ≤ xs then 0 else xp - xs) (by rw [hgr]) ?_
            refine lv_istore (lv' := [(9, .int _), (8, .int _), (7, .int _), (6, .int _), (5, .int _), (4, .int _), (3, .int _), (0, .ref _), (1, .int _), (2, .int _)]) hx hb dX3_together_105 hl (by decide) rfl (fun ls hl => ?_)
            refine lv_iload hx hb dX3_together_107 (lv_at hl 2 rfl) ?_
            refine lv_if_le (tgt := 132) hx hb dX3_together_109 (by decide) (fun c_109 => ?_) (fun c_109 => ?_)
            · skip
              refine lv_iload_n hx hb dX3_together_132 rfl (lv_at hl 6 rfl) ?_
              refine lv_iload hx hb dX3_together_133 (lv_at hl 5 rfl) ?_
              refine lv_iadd hx hb dX3_together_135 ?_
              refine lv_iload_n hx hb dX3_together_136 rfl (lv_at hl 6 rfl) ?_
              refine lv_iload hx hb dX3_together_137 (lv_at hl 4 rfl) ?_
              refine lv_iadd hx hb dX3_together_139 ?_
              refine lv_imul hx hb dX3_together_140 ?_
              refine lv_aload_n hx hb dX3_together_141 rfl (lv_at hl 7 rfl) ?_
              refine va_get (D := (dC, dI)) (ci := 3) (C := RX3) (T := TX3) (N := 13) hx hb hts inX3 hown hK hP 0 rfl rfl 0 (by decide) hw1 (fun _ h9 => h9) rfl dX3_together_142 ?_
              refine lv_iload hx hb dX3_together_145 (lv_at hl 0 rfl) ?_
              refine lv_imul hx hb dX3_together_147 ?_
              refine lv_isub hx hb dX3_together_148 ?_
              refine lv_topi (fun bl ebl => ?_)
              have hbl : bl = g_below ln xp xq xr xs := by unfold g_below; rw [← eab, ebl]; first | rw [if_pos c_109] | rw [if_neg c_109]
              refine lv_istore (lv' := [(10, .int _), (9, .int _), (8, .int _), (7, .int _), (6, .int _), (5, .int _), (4, .int _), (3, .int _), (0, .ref _), (1, .int _), (2, .int _)]) hx hb dX3_together_149 hl (by decide) rfl (fun ls hl => ?_)
              refine lv_sipush (v := 1000) hx hb dX3_together_151 (by decide) ?_
              refine lv_iload hx hb dX3_together_154 (lv_at hl 3 rfl) ?_
              refine lv_imul hx hb dX3_together_156 ?_
              refine lv_iload hx hb dX3_together_157 (lv_at hl 0 rfl) ?_
              refine lv_idiv hx hb dX3_together_159 (by rw [hbl]; exact hlo xp xq xr xs ep eq er es (by rw [← eab]; exact c_66)) ?_
              exact W.iret hx hb hr (fun t ht _ => ri (by simp only [p_together, if_pos hC]; rw [← ep, ← eq, ← er, ← es]; unfold g_tog; rw [← hbl, ← eab]; exact (if_neg c_66).symm) ht) no_locs dX3_together_160
            · skip
              refine lv_aload_n hx hb dX3_together_112 rfl (lv_at hl 7 rfl) ?_
              refine va_get (D := (dC, dI)) (ci := 3) (C := RX3) (T := TX3) (N := 13) hx hb hts inX3 hown hK hP 0 rfl rfl 0 (by decide) hw1 (fun _ h9 => h9) rfl dX3_together_113 ?_
              refine lv_iload hx hb dX3_together_116 (lv_at hl 1 rfl) ?_
              refine lv_imul hx hb dX3_together_118 ?_
              refine lv_iload_n hx hb dX3_together_119 rfl (lv_at hl 6 rfl) ?_
              refine lv_iload hx hb dX3_together_120 (lv_at hl 5 rfl) ?_
              refine lv_iadd hx hb dX3_together_122 ?_
              refine lv_iload_n hx hb dX3_together_123 rfl (lv_at hl 6 rfl) ?_
              refine lv_iload hx hb dX3_together_124 (lv_at hl 4 rfl) ?_
              refine lv_iadd hx hb dX3_together_126 ?_
              refine lv_imul hx hb dX3_together_127 ?_
              refine lv_isub hx hb dX3_together_128 ?_
              refine lv_goto (tgt := 149) hx hb dX3_together_129 (by decide) ?_
              refine lv_topi (fun bl ebl => ?_)
              have hbl : bl = g_below ln xp xq xr xs := by unfold g_below; rw [← eab, ebl]; first | rw [if_pos c_109] | rw [if_neg c_109]
              refine lv_istore (lv' := [(10, .int _), (9, .int _), (8, .int _), (7, .int _), (6, .int _), (5, .int _), (4, .int _), (3, .int _), (0, .ref _), (1, .int _), (2, .int _)]) hx hb dX3_together_149 hl (by decide) rfl (fun ls hl => ?_)
              refine lv_sipush (v := 1000) hx hb dX3_together_151 (by decide) ?_
              refine lv_iload hx hb dX3_together_154 (lv_at hl 3 rfl) ?_
              refine lv_imul hx hb dX3_together_156 ?_
              refine lv_iload hx hb dX3_together_157 (lv_at hl 0 rfl) ?_
              refine lv_idiv hx hb dX3_together_159 (by rw [hbl]; exact hlo xp xq xr xs ep eq er es (by rw [← eab]; exact c_66)) ?_
              exact W.iret hx hb hr (fun t ht _ => ri (by simp only [p_together, if_pos hC]; rw [← ep, ← eq, ← er, ← es]; unfold g_tog; rw [← hbl, ← eab]; exact (if_neg c_66).symm) ht) no_locs dX3_together_160
          · skip
            have hgr : ∀ x y : Int32, (if xp ≤ xs then x else y) = y := fun x y => if_neg c_94
            refine lv_iload_n hx hb dX3_together_97 rfl (lv_at hl 5 rfl) ?_
            refine lv_iload hx hb dX3_together_98 (lv_at hl 2 rfl) ?_
            refine lv_isub hx hb dX3_together_100 ?_
            refine lv_goto (tgt := 105) hx hb dX3_together_101 (by decide) ?_
            refine st_i (v := if xp ≤ xs then 0 else xp - xs) (by rw [hgr]) ?_
            refine lv_istore (lv' := [(9, .int _), (8, .int _), (7, .int _), (6, .int _), (5, .int _), (4, .int _), (3, .int _), (0, .ref _), (1, .int _), (2, .int _)]) hx hb dX3_together_105 hl (by decide) rfl (fun ls hl => ?_)
            refine lv_iload hx hb dX3_together_107 (lv_at hl 2 rfl) ?_
            refine lv_if_le (tgt := 132) hx hb dX3_together_109 (by decide) (fun c_109 => ?_) (fun c_109 => ?_)
            · skip
              refine lv_iload_n hx hb dX3_together_132 rfl (lv_at hl 6 rfl) ?_
              refine lv_iload hx hb dX3_together_133 (lv_at hl 5 rfl) ?_
              refine lv_iadd hx hb dX3_together_135 ?_
              refine lv_iload_n hx hb dX3_together_136 rfl (lv_at hl 6 rfl) ?_
              refine lv_iload hx hb dX3_together_137 (lv_at hl 4 rfl) ?_
              refine lv_iadd hx hb dX3_together_139 ?_
              refine lv_imul hx hb dX3_together_140 ?_
              refine lv_aload_n hx hb dX3_together_141 rfl (lv_at hl 7 rfl) ?_
              refine va_get (D := (dC, dI)) (ci := 3) (C := RX3) (T := TX3) (N := 13) hx hb hts inX3 hown hK hP 0 rfl rfl 0 (by decide) hw1 (fun _ h9 => h9) rfl dX3_together_142 ?_
              refine lv_iload hx hb dX3_together_145 (lv_at hl 0 rfl) ?_
              refine lv_imul hx hb dX3_together_147 ?_
              refine lv_isub hx hb dX3_together_148 ?_
              refine lv_topi (fun bl ebl => ?_)
              have hbl : bl = g_below ln xp xq xr xs := by unfold g_below; rw [← eab, ebl]; first | rw [if_pos c_109] | rw [if_neg c_109]
              refine lv_istore (lv' := [(10, .int _), (9, .int _), (8, .int _), (7, .int _), (6, .int _), (5, .int _), (4, .int _), (3, .int _), (0, .ref _), (1, .int _), (2, .int _)]) hx hb dX3_together_149 hl (by decide) rfl (fun ls hl => ?_)
              refine lv_sipush (v := 1000) hx hb dX3_together_151 (by decide) ?_
              refine lv_iload hx hb dX3_together_154 (lv_at hl 3 rfl) ?_
              refine lv_imul hx hb dX3_together_156 ?_
              refine lv_iload hx hb dX3_together_157 (lv_at hl 0 rfl) ?_
              refine lv_idiv hx hb dX3_together_159 (by rw [hbl]; exact hlo xp xq xr xs ep eq er es (by rw [← eab]; exact c_66)) ?_
              exact W.iret hx hb hr (fun t ht _ => ri (by simp only [p_together, if_pos hC]; rw [← ep, ← eq, ← er, ← es]; unfold g_tog; rw [← hbl, ← eab]; exact (if_neg c_66).symm) ht) no_locs dX3_together_160
            · skip
              refine lv_aload_n hx hb dX3_together_112 rfl (lv_at hl 7 rfl) ?_
              refine va_get (D := (dC, dI)) (ci := 3) (C := RX3) (T := TX3) (N := 13) hx hb hts inX3 hown hK hP 0 rfl rfl 0 (by decide) hw1 (fun _ h9 => h9) rfl dX3_together_113 ?_
              refine lv_iload hx hb dX3_together_116 (lv_at hl 1 rfl) ?_
              refine lv_imul hx hb dX3_together_118 ?_
              refine lv_iload_n hx hb dX3_together_119 rfl (lv_at hl 6 rfl) ?_
              refine lv_iload hx hb dX3_together_120 (lv_at hl 5 rfl) ?_
              refine lv_iadd hx hb dX3_together_122 ?_
              refine lv_iload_n hx hb dX3_together_123 rfl (lv_at hl 6 rfl) ?_
              refine lv_iload hx hb dX3_together_124 (lv_at hl 4 rfl) ?_
              refine lv_iadd hx hb dX3_together_126 ?_
              refine lv_imul hx hb dX3_together_127 ?_
              refine lv_isub hx hb dX3_together_128 ?_
              refine lv_goto (tgt := 149) hx hb dX3_together_129 (by decide) ?_
              refine lv_topi (fun bl ebl => ?_)
              have hbl : bl = g_below ln xp xq xr xs := by unfold g_below; rw [← eab, ebl]; first | rw [if_pos c_109] | rw [if_neg c_109]
              refine lv_istore (lv' := [(10, .int _), (9, .int _), (8, .int _), (7, .int _), (6, .int _), (5, .int _), (4, .int _), (3, .int _), (0, .ref _), (1, .int _), (2, .int _)]) hx hb dX3_together_149 hl (by decide) rfl (fun ls hl => ?_)
              refine lv_sipush (v := 1000) hx hb dX3_together_151 (by decide) ?_
              refine lv_iload hx hb dX3_together_154 (lv_at hl 3 rfl) ?_
              refine lv_imul hx hb dX3_together_156 ?_
              refine lv_iload hx hb dX3_together_157 (lv_at hl 0 rfl) ?_
              refine lv_idiv hx hb dX3_together_159 (by rw [hbl]; exact hlo xp xq xr xs ep eq er es (by rw [← eab]; exact c_66)) ?_
              exact W.iret hx hb hr (fun t ht _ => ri (by simp only [p_together, if_pos hC]; rw [← ep, ← eq, ← er, ← es]; unfold g_tog; rw [← hbl, ← eab]; exact (if_neg c_66).symm) ht) no_locs dX3_together_160
        · skip
          have hls : ∀ x y : Int32, (if xr ≤ xq then x else y) = y := fun x y => if_neg c_75
          refine lv_iload_n hx hb dX3_together_78 rfl (lv_at hl 4 rfl) ?_
          refine lv_iload hx hb dX3_together_79 (lv_at hl 3 rfl) ?_
          refine lv_iadd hx hb dX3_together_81 ?_
          refine lv_goto (tgt := 89) hx hb dX3_together_82 (by decide) ?_
          refine st_i (v := if xr ≤ xq then xp + xr else xp + xq) (by rw [hls]) ?_
          refine lv_istore (lv' := [(8, .int _), (7, .int _), (6, .int _), (5, .int _), (4, .int _), (3, .int _), (0, .ref _), (1, .int _), (2, .int _)]) hx hb dX3_together_89 hl (by decide) rfl (fun ls hl => ?_)
          refine lv_iload_n hx hb dX3_together_91 rfl (lv_at hl 5 rfl) ?_
          refine lv_iload hx hb dX3_together_92 (lv_at hl 2 rfl) ?_
          refine lv_icmp_le (tgt := 104) hx hb dX3_together_94 (by decide) (fun c_94 => ?_) (fun c_94 => ?_)
          · skip
            have hgr : ∀ x y : Int32, (if xp ≤ xs then x else y) = x := fun x y => if_pos c_94
            refine lv_iconst (v := 0) hx hb dX3_together_104 (by decide) ?_
            refine st_i (v := if xp ≤ xs then 0 else xp - xs) (by rw [hgr]) ?_
            refine lv_istore (lv' := [(9, .int _), (8, .int _), (7, .int _), (6, .int _), (5, .int _), (4, .int _), (3, .int _), (0, .ref _), (1, .int _), (2, .int _)]) hx hb dX3_together_105 hl (by decide) rfl (fun ls hl => ?_)
            refine lv_iload hx hb dX3_together_107 (lv_at hl 2 rfl) ?_
            refine lv_if_le (tgt := 132) hx hb dX3_together_109 (by decide) (fun c_109 => ?_) (fun c_109 => ?_)
            · skip
              refine lv_iload_n hx hb dX3_together_132 rfl (lv_at hl 6 rfl) ?_
              refine lv_iload hx hb dX3_together_133 (lv_at hl 5 rfl) ?_
              refine lv_iadd hx hb dX3_together_135 ?_
              refine lv_iload_n hx hb dX3_together_136 rfl (lv_at hl 6 rfl) ?_
              refine lv_iload hx hb dX3_together_137 (lv_at hl 4 rfl) ?_
              refine lv_iadd hx hb dX3_together_139 ?_
              refine lv_imul hx hb dX3_together_140 ?_
              refine lv_aload_n hx hb dX3_together_141 rfl (lv_at hl 7 rfl) ?_
              refine va_get (D := (dC, dI)) (ci := 3) (C := RX3) (T := TX3) (N := 13) hx hb hts inX3 hown hK hP 0 rfl rfl 0 (by decide) hw1 (fun _ h9 => h9) rfl dX3_together_142 ?_
              refine lv_iload hx hb dX3_together_145 (lv_at hl 0 rfl) ?_
              refine lv_imul hx hb dX3_together_147 ?_
              refine lv_isub hx hb dX3_together_148 ?_
              refine lv_topi (fun bl ebl => ?_)
              have hbl : bl = g_below ln xp xq xr xs := by unfold g_below; rw [← eab, ebl]; first | rw [if_pos c_109] | rw [if_neg c_109]
              refine lv_istore (lv' := [(10, .int _), (9, .int _), (8, .int _), (7, .int _), (6, .int _), (5, .int _), (4, .int _), (3, .int _), (0, .ref _), (1, .int _), (2, .int _)]) hx hb dX3_together_149 hl (by decide) rfl (fun ls hl => ?_)
              refine lv_sipush (v := 1000) hx hb dX3_together_151 (by decide) ?_
              refine lv_iload hx hb dX3_together_154 (lv_at hl 3 rfl) ?_
              refine lv_imul hx hb dX3_together_156 ?_
              refine lv_iload hx hb dX3_together_157 (lv_at hl 0 rfl) ?_
              refine lv_idiv hx hb dX3_together_159 (by rw [hbl]; exact hlo xp xq xr xs ep eq er es (by rw [← eab]; exact c_66)) ?_
              exact W.iret hx hb hr (fun t ht _ => ri (by simp only [p_together, if_pos hC]; rw [← ep, ← eq, ← er, ← es]; unfold g_tog; rw [← hbl, ← eab]; exact (if_neg c_66).symm) ht) no_locs dX3_together_160
            · skip
              refine lv_aload_n hx hb dX3_together_112 rfl (lv_at hl 7 rfl) ?_
              refine va_get (D := (dC, dI)) (ci := 3) (C := RX3) (T := TX3) (N := 13) hx hb hts inX3 hown hK hP 0 rfl rfl 0 (by decide) hw1 (fun _ h9 => h9) rfl dX3_together_113 ?_
              refine lv_iload hx hb dX3_together_116 (lv_at hl 1 rfl) ?_
              refine lv_imul hx hb dX3_together_118 ?_
              refine lv_iload_n hx hb dX3_together_119 rfl (lv_at hl 6 rfl) ?_
              refine lv_iload hx hb dX3_together_120 (lv_at hl 5 rfl) ?_
              refine lv_iadd hx hb dX3_together_122 ?_
              refine lv_iload_n hx hb dX3_together_123 rfl (lv_at hl 6 rfl) ?_
              refine lv_iload hx hb dX3_together_124 (lv_at hl 4 rfl) ?_
              refine lv_iadd hx hb dX3_together_126 ?_
              refine lv_imul hx hb dX3_together_127 ?_
              refine lv_isub hx hb dX3_together_128 ?_
              refine lv_goto (tgt := 149) hx hb dX3_together_129 (by decide) ?_
              refine lv_topi (fun bl ebl => ?_)
              have hbl : bl = g_below ln xp xq xr xs := by unfold g_below; rw [← eab, ebl]; first | rw [if_pos c_109] | rw [if_neg c_109]
              refine lv_istore (lv' := [(10, .int _), (9, .int _), (8, .int _), (7, .int _), (6, .int _), (5, .int _), (4, .int _), (3, .int _), (0, .ref _), (1, .int _), (2, .int _)]) hx hb dX3_together_149 hl (by decide) rfl (fun ls hl => ?_)
              refine lv_sipush (v := 1000) hx hb dX3_together_151 (by decide) ?_
              refine lv_iload hx hb dX3_together_154 (lv_at hl 3 rfl) ?_
              refine lv_imul hx hb dX3_together_156 ?_
              refine lv_iload hx hb dX3_together_157 (lv_at hl 0 rfl) ?_
              refine lv_idiv hx hb dX3_together_159 (by rw [hbl]; exact hlo xp xq xr xs ep eq er es (by rw [← eab]; exact c_66)) ?_
              exact W.iret hx hb hr (fun t ht _ => ri (by simp only [p_together, if_pos hC]; rw [← ep, ← eq, ← er, ← es]; unfold g_tog; rw [← hbl, ← eab]; exact (if_neg c_66).symm) ht) no_locs dX3_together_160
          · skip
            have hgr : ∀ x y : Int32, (if xp ≤ xs then x else y) = y := fun x y => if_neg c_94
            refine lv_iload_n hx hb dX3_together_97 rfl (lv_at hl 5 rfl) ?_
            refine lv_iload hx hb dX3_together_98 (lv_at hl 2 rfl) ?_
            refine lv_isub hx hb dX3_together_100 ?_
            refine lv_goto (tgt := 105) hx hb dX3_together_101 (by decide) ?_
            refine st_i (v := if xp ≤ xs then 0 else xp - xs) (by rw [hgr]) ?_
            refine lv_istore (lv' := [(9, .int _), (8, .int _), (7, .int _), (6, .int _), (5, .int _), (4, .int _), (3, .int _), (0, .ref _), (1, .int _), (2, .int _)]) hx hb dX3_together_105 hl (by decide) rfl (fun ls hl => ?_)
            refine lv_iload hx hb dX3_together_107 (lv_at hl 2 rfl) ?_
            refine lv_if_le (tgt := 132) hx hb dX3_together_109 (by decide) (fun c_109 => ?_) (fun c_109 => ?_)
            · skip
              refine lv_iload_n hx hb dX3_together_132 rfl (lv_at hl 6 rfl) ?_
              refine lv_iload hx hb dX3_together_133 (lv_at hl 5 rfl) ?_
              refine lv_iadd hx hb dX3_together_135 ?_
              refine lv_iload_n hx hb dX3_together_136 rfl (lv_at hl 6 rfl) ?_
              refine lv_iload hx hb dX3_together_137 (lv_at hl 4 rfl) ?_
              refine lv_iadd hx hb dX3_together_139 ?_
              refine lv_imul hx hb dX3_together_140 ?_
              refine lv_aload_n hx hb dX3_together_141 rfl (lv_at hl 7 rfl) ?_
              refine va_get (D := (dC, dI)) (ci := 3) (C := RX3) (T := TX3) (N := 13) hx hb hts inX3 hown hK hP 0 rfl rfl 0 (by decide) hw1 (fun _ h9 => h9) rfl dX3_together_142 ?_
              refine lv_iload hx hb dX3_together_145 (lv_at hl 0 rfl) ?_
              refine lv_imul hx hb dX3_together_147 ?_
              refine lv_isub hx hb dX3_together_148 ?_
              refine lv_topi (fun bl ebl => ?_)
              have hbl : bl = g_below ln xp xq xr xs := by unfold g_below; rw [← eab, ebl]; first | rw [if_pos c_109] | rw [if_neg c_109]
              refine lv_istore (lv' := [(10, .int _), (9, .int _), (8, .int _), (7, .int _), (6, .int _), (5, .int _), (4, .int _), (3, .int _), (0, .ref _), (1, .int _), (2, .int _)]) hx hb dX3_together_149 hl (by decide) rfl (fun ls hl => ?_)
              refine lv_sipush (v := 1000) hx hb dX3_together_151 (by decide) ?_
              refine lv_iload hx hb dX3_together_154 (lv_at hl 3 rfl) ?_
              refine lv_imul hx hb dX3_together_156 ?_
              refine lv_iload hx hb dX3_together_157 (lv_at hl 0 rfl) ?_
              refine lv_idiv hx hb dX3_together_159 (by rw [hbl]; exact hlo xp xq xr xs ep eq er es (by rw [← eab]; exact c_66)) ?_
              exact W.iret hx hb hr (fun t ht _ => ri (by simp only [p_together, if_pos hC]; rw [← ep, ← eq, ← er, ← es]; unfold g_tog; rw [← hbl, ← eab]; exact (if_neg c_66).symm) ht) no_locs dX3_together_160
            · skip
              refine lv_aload_n hx hb dX3_together_112 rfl (lv_at hl 7 rfl) ?_
              refine va_get (D := (dC, dI)) (ci := 3) (C := RX3) (T := TX3) (N := 13) hx hb hts inX3 hown hK hP 0 rfl rfl 0 (by decide) hw1 (fun _ h9 => h9) rfl dX3_together_113 ?_
              refine lv_iload hx hb dX3_together_116 (lv_at hl 1 rfl) ?_
              refine lv_imul hx hb dX3_together_118 ?_
              refine lv_iload_n hx hb dX3_together_119 rfl (lv_at hl 6 rfl) ?_
              refine lv_iload hx hb dX3_together_120 (lv_at hl 5 rfl) ?_
              refine lv_iadd hx hb dX3_together_122 ?_
              refine lv_iload_n hx hb dX3_together_123 rfl (lv_at hl 6 rfl) ?_
              refine lv_iload hx hb dX3_together_124 (lv_at hl 4 rfl) ?_
              refine lv_iadd hx hb dX3_together_126 ?_
              refine lv_imul hx hb dX3_together_127 ?_
              refine lv_isub hx hb dX3_together_128 ?_
              refine lv_goto (tgt := 149) hx hb dX3_together_129 (by decide) ?_
              refine lv_topi (fun bl ebl => ?_)
              have hbl : bl = g_below ln xp xq xr xs := by unfold g_below; rw [← eab, ebl]; first | rw [if_pos c_109] | rw [if_neg c_109]
              refine lv_istore (lv' := [(10, .int _), (9, .int _), (8, .int _), (7, .int _), (6, .int _), (5, .int _), (4, .int _), (3, .int _), (0, .ref _), (1, .int _), (2, .int _)]) hx hb dX3_together_149 hl (by decide) rfl (fun ls hl => ?_)
              refine lv_sipush (v := 1000) hx hb dX3_together_151 (by decide) ?_
              refine lv_iload hx hb dX3_together_154 (lv_at hl 3 rfl) ?_
              refine lv_imul hx hb dX3_together_156 ?_
              refine lv_iload hx hb dX3_together_157 (lv_at hl 0 rfl) ?_
              refine lv_idiv hx hb dX3_together_159 (by rw [hbl]; exact hlo xp xq xr xs ep eq er es (by rw [← eab]; exact c_66)) ?_
              exact W.iret hx hb hr (fun t ht _ => ri (by simp only [p_together, if_pos hC]; rw [← ep, ← eq, ← er, ← es]; unfold g_tog; rw [← hbl, ← eab]; exact (if_neg c_66).symm) ht) no_locs dX3_together_160
      · skip
        refine lv_iconst (v := 0) hx hb dX3_together_69 (by decide) ?_
        exact W.iret hx hb hr (fun t ht _ => ri (by simp only [p_together, if_pos hC]; rw [← ep, ← eq, ← er, ← es]; unfold g_tog; rw [← eab]; exact (if_pos c_66).symm) ht) no_locs dX3_together_70
    · skip
      have c_11 := bI_eq.mp c_11
      have hC : ¬ (strm a0 ∧ strm a1) := fun h => c_11 h.2
      refine lv_ldc (v := (-100000)) hx hb hown hw0 dX3_together_14 ?_
      exact W.iret hx hb hr (fun t ht _ => ri (by simp only [p_together, if_neg hC]) ht) no_locs dX3_together_16
