theorem kd_X2_miss : yX2_miss.cls ≠ "java/lang/invoke/MethodHandle" ∧ yX2_miss.cls ≠ "java/lang/invoke/VarHandle" ∧ (parseMethodDescriptor yX2_miss.desc).map (fun d => d.parameters.length) = some 4 := by decide +kernel
set_option maxHeartbeats 4000000 in
set_option maxRecDepth 100000 in
theorem c_X2_miss (l : Launch) {dC : Nat → ClassId} {dI : Nat → Nat → Nat} {ad : Nat → Nat} {cI cJ : ClassId} {fg : Int32} {dg : Int32} {sc : Int32} {ms : Int32} {mi : Int32} {mv : Int32} {mw : Int32} {st : (Nat → Int64)} {fr : (Nat → Int64)} {sr : (Nat → Int64)} {pa : (Nat → Int64)} {nu : (Nat → Int32)} {sz : Nat} {a0 a1 a2 a3 : Int32} {n : Nat} (hn : n ≤ 64) : Met l yX2_miss wsX2_miss ({ frames := 3, cells := 0, slots := 0, locals := 69 }) (va_Pc ([.ref (ad 0), .int a0, .int a1, .int a2, .int a3] : List Value) (gW sz (dC, dI) (tyw cI cJ) (xw ad cI cJ (nI n) fg dg sc ms mi mv mw st fr sr pa nu))) (va_Qi (fun r (u : ((Nat → Int64) × (Nat → Int64))) => r = (o_miss n fg mi mv mw a0 a1 a2 a3).1) (fun u t => va_P (dC, dI) vwCl (xw ad cI cJ (nI n) fg dg sc ms (o_miss n fg mi mv mw a0 a1 a2 a3).2.1 (o_miss n fg mi mv mw a0 a1 a2 a3).2.2.1 (o_miss n fg mi mv mw a0 a1 a2 a3).2.2.2 st u.1 u.2 pa nu) t.heap) (va_A (xw ad cI cJ (nI n) fg dg sc ms mi mv mw st fr sr pa nu) sz)) 0 0 (va_A (xw ad cI cJ (nI n) fg dg sc ms mi mv mw st fr sr pa nu) sz) := by
  refine Met.ofW (cc := cX2_miss) (maxL := 6) (ret := (some .int)) (by decide) rfl ?_
  intro p e s m args below meth c s₁ B hml hv
  obtain ⟨rfl, hsz, ⟨hnw, hK, hP⟩, hD0⟩ := hv
  have hx := B.exec
  have hb := B.bytes
  have hr := B.returns
  have hts := atoms_spec (ws := wsX2_miss) B.pre
  have hown : s.vm.findClass RX2 = some m.cls := findClass_of_methodNamed B.named
  have hlocks := B.notSynchronized
  subst hsz
  have hD := hD0.self (sz := s.heap.size)
  generalize hAe : va_A (xw ad cI cJ (nI n) fg dg sc ms mi mv mw st fr sr pa nu) s.heap.size = A at hD ⊢
  have hA : ∀ q : Nat, s.heap.size ≤ q → A q := fun q h => by rw [← hAe]; exact Or.inr h
  have hS : va_S A s.heap s.heap [] := va_S.rf
  have hw0 := hts (.fieldLink RX2 40 "BitStreams" "misses" "I") (by decide +kernel)
  have hw1 := hts (.fieldLink RX2 10 "BitStreams" "rows" "LBitStreams$Rows;") (by decide +kernel)
  have hw2 := hts (.fieldLink RX2 27 "BitStreams" "firstRows" "[J") (by decide +kernel)
  have hw3 := hts (.initialized RX1) (by decide +kernel)
  have hw4 := hts (.instanceMethod yX1_ofSource) (by decide +kernel)
  have hw5 := hts (.selects RX1 yX1_ofSource yX1_ofSource) (by decide +kernel)
  have hw6 := hts (.fieldLink RX2 30 "BitStreams" "secondRows" "[J") (by decide +kernel)
  have hw7 := hts (.instanceMethod yX1_shifted) (by decide +kernel)
  have hw8 := hts (.selects RX1 yX1_shifted yX1_shifted) (by decide +kernel)
  have inX1 : ∀ w ∈ wsX10, w ∈ wsX2_miss := by decide +kernel
  have inX2 : ∀ w ∈ wsX20, w ∈ wsX2_miss := by decide +kernel
  have hl := lv_entry ([.ref (ad 0), .int a0, .int a1, .int a2, .int a3] : List Value) (n := 6) (Nat.le_of_ble_eq_true rfl)
  rw [lg_entry_eq]
  generalize (lg_sl ([.ref (ad 0), .int a0, .int a1, .int a2, .int a3] : List Value) ++ List.replicate (6 - (lg_sl ([.ref (ad 0), .int a0, .int a1, .int a2, .int a3] : List Value)).length) Slot.unset).toArray = ls at hl ⊢
  have hl : lv_has ls 6 [(0, .ref (ad 0)), (1, .int a0), (2, .int a1), (3, .int a2), (4, .int a3)] := hl
  refine lv_iload_n hx hb dX2_miss_0 rfl (lv_at hl 1 rfl) ?_
  refine lv_iconst (v := 0) hx hb dX2_miss_1 (by decide) ?_
  refine lv_iconst (v := 3) hx hb dX2_miss_2 (by decide) ?_
  refine ro_i (va_runS ⟨hx, hb, hml, hown, hts⟩ (c_X2_isWithin l ) (va_cwS 3 hts gX2_miss_X2_isWithin rfl rfl rfl kd_X2_isWithin ⟨Nat.le_of_ble_eq_true rfl, Nat.le_of_ble_eq_true rfl⟩) preS0 rfl rfl hl.1 rfl (lv_room (Nat.le_of_ble_eq_true rfl)) dX2_miss_3 ⟨Nat.zero_le _, Nat.zero_le _⟩) ?_
  refine lv_if_eq (tgt := 34) hx hb dX2_miss_6 (by decide) (fun c_6 => ?_) (fun c_6 => ?_)
  · skip
    have c_6 := bI_eq.mp c_6
    have hC : ¬ ((0 ≤ a0 ∧ a0 ≤ 3) ∧ srcs a1 ∧ srcs a2 ∧ (0 ≤ a3 ∧ a3 ≤ 63)) := fun h => c_6 h.1
    refine lv_bipush (v := (-102)) hx hb dX2_miss_34 (by decide) ?_
    simp only [o_miss, if_neg hC]
    exact W.iret hx hb hr (fun t ht _ => ⟨⟨_, (fr, sr), rfl, rfl, wpost ht hP⟩, hS.F ht⟩) hS.2.2 dX2_miss_36
  · skip
    have c_6 := bI_ne.mp c_6
    refine lv_iload_n hx hb dX2_miss_9 rfl (lv_at hl 2 rfl) ?_
    refine ro_i (va_runS ⟨hx, hb, hml, hown, hts⟩ (c_X2_isSource l ) (va_cwS 1 hts gX2_miss_X2_isSource rfl rfl rfl kd_X2_isSource ⟨Nat.le_of_ble_eq_true rfl, Nat.le_of_ble_eq_true rfl⟩) preS0 rfl rfl hl.1 rfl (lv_room (Nat.le_of_ble_eq_true rfl)) dX2_miss_10 ⟨Nat.zero_le _, Nat.zero_le _⟩) ?_
    refine lv_if_eq (tgt := 34) hx hb dX2_miss_13 (by decide) (fun c_13 => ?_) (fun c_13 => ?_)
    · skip
      have c_13 := bI_eq.mp c_13
      have hC : ¬ ((0 ≤ a0 ∧ a0 ≤ 3) ∧ srcs a1 ∧ srcs a2 ∧ (0 ≤ a3 ∧ a3 ≤ 63)) := fun h => c_13 h.2.1
      refine lv_bipush (v := (-102)) hx hb dX2_miss_34 (by decide) ?_
      simp only [o_miss, if_neg hC]
      exact W.iret hx hb hr (fun t ht _ => ⟨⟨_, (fr, sr), rfl, rfl, wpost ht hP⟩, hS.F ht⟩) hS.2.2 dX2_miss_36
    · skip
      have c_13 := bI_ne.mp c_13
      refine lv_iload_n hx hb dX2_miss_16 rfl (lv_at hl 3 rfl) ?_
      refine ro_i (va_runS ⟨hx, hb, hml, hown, hts⟩ (c_X2_isSource l ) (va_cwS 1 hts gX2_miss_X2_isSource rfl rfl rfl kd_X2_isSource ⟨Nat.le_of_ble_eq_true rfl, Nat.le_of_ble_eq_true rfl⟩) preS0 rfl rfl hl.1 rfl (lv_room (Nat.le_of_ble_eq_true rfl)) dX2_miss_17 ⟨Nat.zero_le _, Nat.zero_le _⟩) ?_
      refine lv_if_eq (tgt := 34) hx hb dX2_miss_20 (by decide) (fun c_20 => ?_) (fun c_20 => ?_)
      · skip
        have c_20 := bI_eq.mp c_20
        have hC : ¬ ((0 ≤ a0 ∧ a0 ≤ 3) ∧ srcs a1 ∧ srcs a2 ∧ (0 ≤ a3 ∧ a3 ≤ 63)) := fun h => c_20 h.2.2.1
        refine lv_bipush (v := (-102)) hx hb dX2_miss_34 (by decide) ?_
        simp only [o_miss, if_neg hC]
        exact W.iret hx hb hr (fun t ht _ => ⟨⟨_, (fr, sr), rfl, rfl, wpost ht hP⟩, hS.F ht⟩) hS.2.2 dX2_miss_36
      · skip
        have c_20 := bI_ne.mp c_20
        refine lv_iload hx hb dX2_miss_23 (lv_at hl 4 rfl) ?_
        refine lv_iconst (v := 0) hx hb dX2_miss_25 (by decide) ?_
        refine lv_bipush (v := 63) hx hb dX2_miss_26 (by decide) ?_
        refine ro_i (va_runS ⟨hx, hb, hml, hown, hts⟩ (c_X2_isWithin l ) (va_cwS 3 hts gX2_miss_X2_isWithin rfl rfl rfl kd_X2_isWithin ⟨Nat.le_of_ble_eq_true rfl, Nat.le_of_ble_eq_true rfl⟩) preS0 rfl rfl hl.1 rfl (lv_room (Nat.le_of_ble_eq_true rfl)) dX2_miss_28 ⟨Nat.zero_le _, Nat.zero_le _⟩) ?_
        refine lv_if_ne (tgt := 37) hx hb dX2_miss_31 (by decide) (fun c_31 => ?_) (fun c_31 => ?_)
        · skip
          have c_31 := bI_ne.mp c_31
          have hC : ((0 ≤ a0 ∧ a0 ≤ 3) ∧ srcs a1 ∧ srcs a2 ∧ (0 ≤ a3 ∧ a3 ≤ 63)) := ⟨c_6, c_13, c_20, c_31⟩
          refine lv_aload_n hx hb dX2_miss_37 rfl (lv_at hl 0 rfl) ?_
          refine va_get (D := (dC, dI)) (ci := 2) (C := RX2) (T := TX2) (N := 10) hx hb hts inX2 hown hK hP 0 rfl rfl 7 (by decide) hw0 (fun _ h9 => h9) rfl dX2_miss_38 ?_
          refine lv_bipush (v := 60) hx hb dX2_miss_41 (by decide) ?_
          refine lv_icmp_lt (tgt := 49) hx hb dX2_miss_43 (by decide) (fun c_43 => ?_) (fun c_43 => ?_)
          · skip
            refine lv_aload_n hx hb dX2_miss_49 rfl (lv_at hl 0 rfl) ?_
            refine lv_dup hx hb dX2_miss_50 rfl ?_
            refine va_get (D := (dC, dI)) (ci := 2) (C := RX2) (T := TX2) (N := 10) hx hb hts inX2 hown hK hP 0 rfl rfl 7 (by decide) hw0 (fun _ h9 => h9) rfl dX2_miss_51 ?_
            refine lv_iconst (v := 1) hx hb dX2_miss_54 (by decide) ?_
            refine lv_iadd hx hb dX2_miss_55 ?_
            refine va_put (D := (dC, dI)) (ci := 2) (ty := .int) (C := RX2) (T := TX2) (N := 10) hx hb hts inX2 tyX2 tyX2_ok nmX2 hown hK hP hD hS 0 rfl rfl 7 (by decide) hw0 (fun _ h9 => h9) rfl (by decide +kernel) rfl rfl (Nat.le_of_ble_eq_true rfl) dX2_miss_56 (fun H locs hP hD hS => ?_)
            have hP : va_P (dC, dI) vwCl (xw ad cI cJ (nI n) fg dg sc ms (mi + 1) mv mw st fr sr pa nu) H := hP
            have hD : va_D A (xw ad cI cJ (nI n) fg dg sc ms (mi + 1) mv mw st fr sr pa nu) := va_D_addr hD rfl
            refine lv_iconst (v := 0) hx hb dX2_miss_59 (by decide) ?_
            refine lv_istore (lv' := [(5, .int _), (0, .ref _), (1, .int _), (2, .int _), (3, .int _), (4, .int _)]) hx hb dX2_miss_60 hl (by decide) rfl (fun ls hl => ?_)
            have L62 : ∀ (n62 : Nat) (v : Nat) (x y : Nat → Int64), n + 2 ≤ v + n62 → (v ≤ n + 1) → (∀ i, i < v → x i = f_src (nI n) fg a1 (nI i)) → (∀ i, i < v → y i = f_shifted (nI n) (f_src (nI n) fg a2 (nI i)) a3) → ∀ (H : Heap) (locs : List Loc), va_P (dC, dI) vwCl (xw ad cI cJ (nI n) fg dg sc ms (mi + 1) mv mw st x y pa nu) H → va_S A s.heap H locs → ∀ (ls : Array Slot), lv_has ls 6 [(0, .ref (ad 0)), (1, .int a0), (2, .int a1), (3, .int a2), (4, .int a3), (5, .int (nI v))] → W p l e { frames := 3, cells := 0, slots := 0, locals := 69 } s m ([.ref (ad 0), .int a0, .int a1, .int a2, .int a3] : List Value).toArray below meth c H locs 0 0 (MQ below (va_Qi (fun r (u : ((Nat → Int64) × (Nat → Int64))) => r = (o_miss n fg mi mv mw a0 a1 a2 a3).1) (fun u t => va_P (dC, dI) vwCl (xw ad cI cJ (nI n) fg dg sc ms (o_miss n fg mi mv mw a0 a1 a2 a3).2.1 (o_miss n fg mi mv mw a0 a1 a2 a3).2.2.1 (o_miss n fg mi mv mw a0 a1 a2 a3).2.2.2 st u.1 u.2 pa nu) t.heap) A) ([.ref (ad 0), .int a0, .int a1, .int a2, .int a3] : List Value).toArray s 0 0 (A)) (F0 m 62 ls []) := by
              intro n62
              induction n62 with
              | zero =>
                intro v x y hf62 hv hx1 hy1
                exact absurd hf62 (by omega)
              | succ n62 ih62 =>
                intro v x y hf62 hv hx1 hy1 H locs hP hS ls hl
                have hD : va_D A (xw ad cI cJ (nI n) fg dg sc ms (mi + 1) mv mw st x y pa nu) := va_D_addr hD rfl
                refine lv_iload hx hb dX2_miss_62 (lv_at hl 5 rfl) ?_
                refine lv_aload_n hx hb dX2_miss_64 rfl (lv_at hl 0 rfl) ?_
                refine va_get (D := (dC, dI)) (ci := 2) (C := RX2) (T := TX2) (N := 10) hx hb hts inX2 hown hK hP 0 rfl rfl 0 (by decide) hw1 (fun _ h9 => h9) rfl dX2_miss_65 ?_
                refine va_getN (D := (dC, dI)) (ci := 1) (C := RX1) (T := TX1) (N := 2) hx hb hts inX1 hown hK hP 1 rfl rfl 0 (by decide) (hnw.use 1 rfl) (fun _ h9 => h9) rfl dX2_miss_68 ?_
                refine lv_icmp_gt (tgt := 123) hx hb dX2_miss_71 (by decide) (fun c_71 => ?_) (fun c_71 => ?_)
                · skip
                  have hz := nI_nlt_end hv (by omega) c_71
                  refine lv_aload_n hx hb dX2_miss_123 rfl (lv_at hl 0 rfl) ?_
                  refine lv_iload_n hx hb dX2_miss_124 rfl (lv_at hl 1 rfl) ?_
                  refine wr_i (va_runV ⟨hx, hb, hml, hown, hts⟩ (c_X2_greatestMiss l hn) (cwV 1 hts gX2_miss_X2_greatestMiss rfl rfl rfl ⟨rfl, kd_X2_greatestMiss⟩ ⟨Nat.le_of_ble_eq_true rfl, Nat.le_of_ble_eq_true rfl⟩) (preV2 hnw hK hP hD 0 2 rfl rfl) rfl rfl hl.1 rfl (lv_room (Nat.le_of_ble_eq_true rfl)) dX2_miss_125 ⟨Nat.zero_le _, Nat.zero_le _⟩) hD hS hA (fun _ => rfl) (fun r_125 u_125 H locs h_125 hP hD hS => ?_)
                  have hP : va_P (dC, dI) vwCl (xw ad cI cJ (nI n) fg dg sc ms (mi + 1) (f_gm n a0 x y mv mw (n + 1) 0).2.1 (f_gm n a0 x y mv mw (n + 1) 0).2.2 st x y pa nu) H := hP
                  have hD : va_D A (xw ad cI cJ (nI n) fg dg sc ms (mi + 1) (f_gm n a0 x y mv mw (n + 1) 0).2.1 (f_gm n a0 x y mv mw (n + 1) 0).2.2 st x y pa nu) := va_D_addr hD rfl
                  subst h_125
                  have egm : f_gm n a0 x y mv mw (n + 1) 0 = f_mis n fg a0 a1 a2 a3 mv mw := f_gm_cong (fun i h => hx1 i (by omega)) (fun i h => hy1 i (by omega))
                  rw [egm] at hP
                  rw [egm]
                  simp only [o_miss, if_pos hC, if_pos c_43]
                  exact W.iret hx hb hr (fun t ht _ => ⟨⟨_, (x, y), rfl, rfl, wpost ht hP⟩, hS.F ht⟩) hS.2.2 dX2_miss_128
                · skip
                  have hz := nI_nlt_go hv (by omega) c_71
                  refine lv_aload_n hx hb dX2_miss_74 rfl (lv_at hl 0 rfl) ?_
                  refine va_get (D := (dC, dI)) (ci := 2) (C := RX2) (T := TX2) (N := 10) hx hb hts inX2 hown hK hP 0 rfl rfl 3 (by decide) hw2 (fun _ h9 => h9) rfl dX2_miss_75 ?_
                  refine lv_iload hx hb dX2_miss_78 (lv_at hl 5 rfl) ?_
                  refine lv_aload_n hx hb dX2_miss_80 rfl (lv_at hl 0 rfl) ?_
                  refine va_get (D := (dC, dI)) (ci := 2) (C := RX2) (T := TX2) (N := 10) hx hb hts inX2 hown hK hP 0 rfl rfl 0 (by decide) hw1 (fun _ h9 => h9) rfl dX2_miss_81 ?_
                  refine lv_iload_n hx hb dX2_miss_84 rfl (lv_at hl 2 rfl) ?_
                  refine lv_iload hx hb dX2_miss_85 (lv_at hl 5 rfl) ?_
                  refine ro_l (va_runVN ⟨hx, hb, hml, hown, hts⟩ (c_X1_ofSource l ) ⟨va_cnB 2 hts gX2_miss_X1_ofSource_n66 rfl rfl rfl (hnw.at 7 rfl) hw3 kd_X1_ofSource ⟨Nat.le_of_ble_eq_true rfl, Nat.le_of_ble_eq_true rfl⟩, hw4, hw5⟩ (preV1 hnw hK hP 1 1 rfl rfl) rfl rfl hl.1 rfl (lv_room (Nat.le_of_ble_eq_true rfl)) dX2_miss_87 ⟨Nat.zero_le _, Nat.zero_le _⟩) ?_
                  refine va_last hx hb hK hP hD hS 4 1 rfl rfl (vp_in_nI (by omega) (by omega)) dX2_miss_90 (fun H locs hP hD hS => ?_)
                  have hP : va_P (dC, dI) vwCl (xw ad cI cJ (nI n) fg dg sc ms (mi + 1) mv mw st _ y pa nu) H := hP
                  have hD : va_D A (xw ad cI cJ (nI n) fg dg sc ms (mi + 1) mv mw st _ y pa nu) := va_D_addr hD rfl
                  refine lv_aload_n hx hb dX2_miss_91 rfl (lv_at hl 0 rfl) ?_
                  refine va_get (D := (dC, dI)) (ci := 2) (C := RX2) (T := TX2) (N := 10) hx hb hts inX2 hown hK hP 0 rfl rfl 4 (by decide) hw6 (fun _ h9 => h9) rfl dX2_miss_92 ?_
                  refine lv_iload hx hb dX2_miss_95 (lv_at hl 5 rfl) ?_
                  refine lv_aload_n hx hb dX2_miss_97 rfl (lv_at hl 0 rfl) ?_
                  refine va_get (D := (dC, dI)) (ci := 2) (C := RX2) (T := TX2) (N := 10) hx hb hts inX2 hown hK hP 0 rfl rfl 0 (by decide) hw1 (fun _ h9 => h9) rfl dX2_miss_98 ?_
                  refine lv_aload_n hx hb dX2_miss_101 rfl (lv_at hl 0 rfl) ?_
                  refine va_get (D := (dC, dI)) (ci := 2) (C := RX2) (T := TX2) (N := 10) hx hb hts inX2 hown hK hP 0 rfl rfl 0 (by decide) hw1 (fun _ h9 => h9) rfl dX2_miss_102 ?_
                  refine lv_iload_n hx hb dX2_miss_105 rfl (lv_at hl 3 rfl) ?_
                  refine lv_iload hx hb dX2_miss_106 (lv_at hl 5 rfl) ?_
                  refine ro_l (va_runVN ⟨hx, hb, hml, hown, hts⟩ (c_X1_ofSource l ) ⟨va_cnB 2 hts gX2_miss_X1_ofSource_n66 rfl rfl rfl (hnw.at 7 rfl) hw3 kd_X1_ofSource ⟨Nat.le_of_ble_eq_true rfl, Nat.le_of_ble_eq_true rfl⟩, hw4, hw5⟩ (preV1 hnw hK hP 1 1 rfl rfl) rfl rfl hl.1 rfl (lv_room (Nat.le_of_ble_eq_true rfl)) dX2_miss_108 ⟨Nat.zero_le _, Nat.zero_le _⟩) ?_
                  refine lv_iload hx hb dX2_miss_111 (lv_at hl 4 rfl) ?_
                  refine ro_l (va_runVN ⟨hx, hb, hml, hown, hts⟩ (c_X1_shifted l ) ⟨va_cnB 2 hts gX2_miss_X1_shifted_n97 rfl rfl rfl (hnw.at 9 rfl) hw3 kd_X1_shifted ⟨Nat.le_of_ble_eq_true rfl, Nat.le_of_ble_eq_true rfl⟩, hw7, hw8⟩ (preV1 hnw hK hP 1 1 rfl rfl) rfl rfl hl.1 rfl (lv_room (Nat.le_of_ble_eq_true rfl)) dX2_miss_113 ⟨Nat.zero_le _, Nat.zero_le _⟩) ?_
                  refine va_last hx hb hK hP hD hS 5 1 rfl rfl (vp_in_nI (by omega) (by omega)) dX2_miss_116 (fun H locs hP hD hS => ?_)
                  have hP : va_P (dC, dI) vwCl (xw ad cI cJ (nI n) fg dg sc ms (mi + 1) mv mw st _ _ pa nu) H := hP
                  have hD : va_D A (xw ad cI cJ (nI n) fg dg sc ms (mi + 1) mv mw st _ _ pa nu) := va_D_addr hD rfl
                  refine lv_iinc (lv' := [(5, .int (nI (v + 1))), (0, .ref _), (1, .int _), (2, .int _), (3, .int _), (4, .int _)]) hx hb dX2_miss_117 hl (k := 5) rfl (nI_1 _) (by decide) rfl (fun ls hl => ?_)
                  refine lv_goto (tgt := 62) hx hb dX2_miss_120 (by decide) ?_
                  exact ih62 (v + 1) _ _ (by omega) (by omega) (fun i h => by rw [nI_cl (by omega)]; exact fill_step hx1 i h) (fun i h => by rw [nI_cl (by omega)]; exact fill_step hy1 i h) _ _ hP hS ls (lv_sub hl [1, 2, 3, 4, 5, 0] rfl)
            exact L62 (n + 2) 0 fr sr (by omega) (Nat.zero_le _) (fun i h => absurd h (Nat.not_lt_zero i)) (fun i h => absurd h (Nat.not_lt_zero i)) _ _ hP hS ls (lv_sub hl [1, 2, 3, 4, 5, 0] rfl)
          · skip
            refine lv_bipush (v := (-103)) hx hb dX2_miss_46 (by decide) ?_
            simp only [o_miss, if_pos hC, if_neg c_43]
            exact W.iret hx hb hr (fun t ht _ => ⟨⟨_, (fr, sr), rfl, rfl, wpost ht hP⟩, hS.F ht⟩) hS.2.2 dX2_miss_48
        · skip
          have c_31 := bI_eq.mp c_31
          have hC : ¬ ((0 ≤ a0 ∧ a0 ≤ 3) ∧ srcs a1 ∧ srcs a2 ∧ (0 ≤ a3 ∧ a3 ≤ 63)) := fun h => c_31 h.2.2.2
          refine lv_bipush (v := (-102)) hx hb dX2_miss_34 (by decide) ?_
          simp only [o_miss, if_neg hC]
          exact W.iret hx hb hr (fun t ht _ => ⟨⟨_, (fr, sr), rfl, rfl, wpost ht hP⟩, hS.F ht⟩) hS.2.2 dX2_miss_36
theorem kd_X2_where : yX2_where.cls ≠ "java/lang/invoke/MethodHandle" ∧ yX2_where.cls ≠ "java/lang/invoke/VarHandle" ∧ (parseMethodDescriptor yX2_where.desc).map (fun d => d.parameters.length) = some 1 := by decide +kernel
set_option maxHeartbeats 4000000 in
set_option maxRecDepth 100000 in
theorem c_X2_where (l : Launch) {dC : Nat → ClassId} {dI : Nat → Nat → Nat} {ad : Nat → Nat} {cI cJ : ClassId} {ln : Int32} {fg : Int32} {dg : Int32} {sc : Int32} {ms : Int32} {mi : Int32} {mv : Int32} {mw : Int32} {st : (Nat → Int64)} {fr : (Nat → Int64)} {sr : (Nat → Int64)} {pa : (Nat → Int64)} {nu : (Nat → Int32)} {a0 : Int32} : Met l yX2_where wsX2_where ({ frames := 1, cells := 0, slots := 0, locals := 22 }) (va_Pc ([.ref (ad 0), .int a0] : List Value) (gB (dC, dI) (tyw cI cJ) (xw ad cI cJ ln fg dg sc ms mi mv mw st fr sr pa nu))) (QcRead (o_where mi mv mw a0)) 0 0 (fun _ => False) := by
  refine Met.ofW (cc := cX2_where) (maxL := 2) (ret := (some .int)) (by decide) rfl ?_
  intro p e s m args below meth c s₁ B hml hv
  obtain ⟨rfl, hnw, hK, hP⟩ := hv
  have hx := B.exec
  have hb := B.bytes
  have hr := B.returns
  have hts := atoms_spec (ws := wsX2_where) B.pre
  have hown : s.vm.findClass RX2 = some m.cls := findClass_of_methodNamed B.named
  have hlocks := B.notSynchronized
  have hw0 := hts (.fieldLink RX2 40 "BitStreams" "misses" "I") (by decide +kernel)
  have hw1 := hts (.fieldLink RX2 46 "BitStreams" "missW" "I") (by decide +kernel)
  have hw2 := hts (.fieldLink RX2 43 "BitStreams" "missV" "I") (by decide +kernel)
  have inX2 : ∀ w ∈ wsX20, w ∈ wsX2_where := by decide +kernel
  have hl := lv_entry ([.ref (ad 0), .int a0] : List Value) (n := 2) (Nat.le_of_ble_eq_true rfl)
  rw [lg_entry_eq]
  generalize (lg_sl ([.ref (ad 0), .int a0] : List Value) ++ List.replicate (2 - (lg_sl ([.ref (ad 0), .int a0] : List Value)).length) Slot.unset).toArray = ls at hl ⊢
  have hl : lv_has ls 2 [(0, .ref (ad 0)), (1, .int a0)] := hl
  refine lv_aload_n hx hb dX2_where_0 rfl (lv_at hl 0 rfl) ?_
  refine va_get (D := (dC, dI)) (ci := 2) (C := RX2) (T := TX2) (N := 10) hx hb hts inX2 hown hK hP 0 rfl rfl 7 (by decide) hw0 (fun _ h9 => h9) rfl dX2_where_1 ?_
  refine lv_if_ne (tgt := 10) hx hb dX2_where_4 (by decide) (fun c_4 => ?_) (fun c_4 => ?_)
  · skip
    refine lv_iload_n hx hb dX2_where_10 rfl (lv_at hl 1 rfl) ?_
    refine lv_iconst (v := 0) hx hb dX2_where_11 (by decide) ?_
    refine lv_iconst (v := 1) hx hb dX2_where_12 (by decide) ?_
    refine ro_i (va_runS ⟨hx, hb, hml, hown, hts⟩ (c_X2_isWithin l ) (va_cwS 3 hts gX2_where_X2_isWithin rfl rfl rfl kd_X2_isWithin ⟨Nat.le_of_ble_eq_true rfl, Nat.le_of_ble_eq_true rfl⟩) preS0 rfl rfl hl.1 rfl (lv_room (Nat.le_of_ble_eq_true rfl)) dX2_where_13 ⟨Nat.zero_le _, Nat.zero_le _⟩) ?_
    refine lv_if_ne (tgt := 22) hx hb dX2_where_16 (by decide) (fun c_16 => ?_) (fun c_16 => ?_)
    · skip
      have c_16 := bI_ne.mp c_16
      refine lv_iload_n hx hb dX2_where_22 rfl (lv_at hl 1 rfl) ?_
      refine lv_if_ne (tgt := 33) hx hb dX2_where_23 (by decide) (fun c_23 => ?_) (fun c_23 => ?_)
      · skip
        have hq : ∀ x y : Int32, (if a0 = 0 then x else y) = y := fun x y => if_neg c_23
        refine lv_aload_n hx hb dX2_where_33 rfl (lv_at hl 0 rfl) ?_
        refine va_get (D := (dC, dI)) (ci := 2) (C := RX2) (T := TX2) (N := 10) hx hb hts inX2 hown hK hP 0 rfl rfl 9 (by decide) hw1 (fun _ h9 => h9) rfl dX2_where_34 ?_
        exact W.iret hx hb hr (fun t ht _ => ri (by simp only [o_where, if_neg c_4, if_pos c_16, hq]) ht) no_locs dX2_where_37
      · skip
        have hq : ∀ x y : Int32, (if a0 = 0 then x else y) = x := fun x y => if_pos c_23
        refine lv_aload_n hx hb dX2_where_26 rfl (lv_at hl 0 rfl) ?_
        refine va_get (D := (dC, dI)) (ci := 2) (C := RX2) (T := TX2) (N := 10) hx hb hts inX2 hown hK hP 0 rfl rfl 8 (by decide) hw2 (fun _ h9 => h9) rfl dX2_where_27 ?_
        refine lv_goto (tgt := 37) hx hb dX2_where_30 (by decide) ?_
        exact W.iret hx hb hr (fun t ht _ => ri (by simp only [o_where, if_neg c_4, if_pos c_16, hq]) ht) no_locs dX2_where_37
    · skip
      have c_16 := bI_eq.mp c_16
      refine lv_bipush (v := (-102)) hx hb dX2_where_19 (by decide) ?_
      exact W.iret hx hb hr (fun t ht _ => ri (by simp only [o_where, if_neg c_4, if_neg c_16]) ht) no_locs dX2_where_21
  · skip
    refine lv_bipush (v := (-103)) hx hb dX2_where_7 (by decide) ?_
    exact W.iret hx hb hr (fun t ht _ => ri (by simp only [o_where, if_pos c_4]) ht) no_locs dX2_where_9
theorem kd_X2_machine : yX2_machine.cls ≠ "java/lang/invoke/MethodHandle" ∧ yX2_machine.cls ≠ "java/lang/invoke/VarHandle" ∧ (parseMethodDescriptor yX2_machine.desc).map (fun d => d.parameters.length) = some 3 := by decide +kernel
set_option maxHeartbeats 4000000 in
set_option maxRecDepth 100000 in
theorem c_X2_machine (l : Launch) {dC : Nat → ClassId} {dI : Nat → Nat → Nat} {ad : Nat → Nat} {cI cJ : ClassId} {ln : Int32} {fg : Int32} {dg : Int32} {sc : Int32} {ms : Int32} {mi : Int32} {mv : Int32} {mw : Int32} {st : (Nat → Int64)} {fr : (Nat → Int64)} {sr : (Nat → Int64)} {pa : (Nat → Int64)} {nu : (Nat → Int32)} {sz : Nat} {a0 a1 a2 : Int32} : Met l yX2_machine wsX2_machine ({ frames := 2, cells := 0, slots := 0, locals := 50 }) (va_Pc ([.ref (ad 0), .int a0, .int a1, .int a2] : List Value) (gW sz (dC, dI) (tyw cI cJ) (xw ad cI cJ ln fg dg sc ms mi mv mw st fr sr pa nu))) (va_Qi (fun r (_u : Unit) => r = (o_machine ln ms st a0 a1 a2).1) (fun _u t => va_P (dC, dI) vwCl (xw ad cI cJ ln fg dg sc (o_machine ln ms st a0 a1 a2).2.2 mi mv mw (o_machine ln ms st a0 a1 a2).2.1 fr sr pa nu) t.heap) (va_A (xw ad cI cJ ln fg dg sc ms mi mv mw st fr sr pa nu) sz)) 0 0 (va_A (xw ad cI cJ ln fg dg sc ms mi mv mw st fr sr pa nu) sz) := by
  refine Met.ofW (cc := cX2_machine) (maxL := 4) (ret := (some .int)) (by decide) rfl ?_
  intro p e s m args below meth c s₁ B hml hv
  obtain ⟨rfl, hsz, ⟨hnw, hK, hP⟩, hD0⟩ := hv
  have hx := B.exec
  have hb := B.bytes
  have hr := B.returns
  have hts := atoms_spec (ws := wsX2_machine) B.pre
  have hown : s.vm.findClass RX2 = some m.cls := findClass_of_methodNamed B.named
  have hlocks := B.notSynchronized
  subst hsz
  have hD := hD0.self (sz := s.heap.size)
  generalize hAe : va_A (xw ad cI cJ ln fg dg sc ms mi mv mw st fr sr pa nu) s.heap.size = A at hD ⊢
  have hA : ∀ q : Nat, s.heap.size ≤ q → A q := fun q h => by rw [← hAe]; exact Or.inr h
  have hS : va_S A s.heap s.heap [] := va_S.rf
  have hw0 := hts (.fieldLink RX2 23 "BitStreams" "streams" "[J") (by decide +kernel)
  have inX2 : ∀ w ∈ wsX20, w ∈ wsX2_machine := by decide +kernel
  have hl := lv_entry ([.ref (ad 0), .int a0, .int a1, .int a2] : List Value) (n := 4) (Nat.le_of_ble_eq_true rfl)
  rw [lg_entry_eq]
  generalize (lg_sl ([.ref (ad 0), .int a0, .int a1, .int a2] : List Value) ++ List.replicate (4 - (lg_sl ([.ref (ad 0), .int a0, .int a1, .int a2] : List Value)).length) Slot.unset).toArray = ls at hl ⊢
  have hl : lv_has ls 4 [(0, .ref (ad 0)), (1, .int a0), (2, .int a1), (3, .int a2)] := hl
  refine lv_iload_n hx hb dX2_machine_0 rfl (lv_at hl 1 rfl) ?_
  refine ro_i (va_runS ⟨hx, hb, hml, hown, hts⟩ (c_X2_isStream l ) (va_cwS 1 hts gX2_machine_X2_isStream rfl rfl rfl kd_X2_isStream ⟨Nat.le_of_ble_eq_true rfl, Nat.le_of_ble_eq_true rfl⟩) preS0 rfl rfl hl.1 rfl (lv_room (Nat.le_of_ble_eq_true rfl)) dX2_machine_1 ⟨Nat.zero_le _, Nat.zero_le _⟩) ?_
  refine lv_if_eq (tgt := 14) hx hb dX2_machine_4 (by decide) (fun c_4 => ?_) (fun c_4 => ?_)
  · skip
    have c_4 := bI_eq.mp c_4
    have hC : ¬ (strm a0 ∧ strm a2) := fun h => c_4 h.1
    refine lv_bipush (v := (-101)) hx hb dX2_machine_14 (by decide) ?_
    simp only [o_machine, if_neg hC]
    exact W.iret hx hb hr (fun t ht _ => ⟨⟨_, (), rfl, rfl, wpost ht hP⟩, hS.F ht⟩) hS.2.2 dX2_machine_16
  · skip
    have c_4 := bI_ne.mp c_4
    refine lv_iload_n hx hb dX2_machine_7 rfl (lv_at hl 3 rfl) ?_
    refine ro_i (va_runS ⟨hx, hb, hml, hown, hts⟩ (c_X2_isStream l ) (va_cwS 1 hts gX2_machine_X2_isStream rfl rfl rfl kd_X2_isStream ⟨Nat.le_of_ble_eq_true rfl, Nat.le_of_ble_eq_true rfl⟩) preS0 rfl rfl hl.1 rfl (lv_room (Nat.le_of_ble_eq_true rfl)) dX2_machine_8 ⟨Nat.zero_le _, Nat.zero_le _⟩) ?_
    refine lv_if_ne (tgt := 17) hx hb dX2_machine_11 (by decide) (fun c_11 => ?_) (fun c_11 => ?_)
    · skip
      have c_11 := bI_ne.mp c_11
      have hC : strm a0 ∧ strm a2 := ⟨c_4, c_11⟩
      refine lv_iload_n hx hb dX2_machine_17 rfl (lv_at hl 2 rfl) ?_
      refine ro_i (va_runS ⟨hx, hb, hml, hown, hts⟩ (c_X2_isMachine l ) (va_cwS 1 hts gX2_machine_X2_isMachine rfl rfl rfl kd_X2_isMachine ⟨Nat.le_of_ble_eq_true rfl, Nat.le_of_ble_eq_true rfl⟩) preS0 rfl rfl hl.1 rfl (lv_room (Nat.le_of_ble_eq_true rfl)) dX2_machine_18 ⟨Nat.zero_le _, Nat.zero_le _⟩) ?_
      refine lv_if_ne (tgt := 27) hx hb dX2_machine_21 (by decide) (fun c_21 => ?_) (fun c_21 => ?_)
      · skip
        have c_21 := bI_ne.mp c_21
        refine lv_aload_n hx hb dX2_machine_27 rfl (lv_at hl 0 rfl) ?_
        refine lv_iload_n hx hb dX2_machine_28 rfl (lv_at hl 3 rfl) ?_
        refine lv_aload_n hx hb dX2_machine_29 rfl (lv_at hl 0 rfl) ?_
        refine lv_aload_n hx hb dX2_machine_30 rfl (lv_at hl 0 rfl) ?_
        refine va_get (D := (dC, dI)) (ci := 2) (C := RX2) (T := TX2) (N := 10) hx hb hts inX2 hown hK hP 0 rfl rfl 2 (by decide) hw0 (fun _ h9 => h9) rfl dX2_machine_31 ?_
        refine lv_iload_n hx hb dX2_machine_34 rfl (lv_at hl 1 rfl) ?_
        refine va_lald hx hb hK hP 3 1 rfl rfl (strm_in c_4) dX2_machine_35 ?_
        refine lv_iload_n hx hb dX2_machine_36 rfl (lv_at hl 2 rfl) ?_
        refine wr_l (va_runV ⟨hx, hb, hml, hown, hts⟩ (c_X2_ranThrough l ) (cwV 2 hts gX2_machine_X2_ranThrough rfl rfl rfl ⟨rfl, kd_X2_ranThrough⟩ ⟨Nat.le_of_ble_eq_true rfl, Nat.le_of_ble_eq_true rfl⟩) (preV2 hnw hK hP hD 0 2 rfl rfl) rfl rfl hl.1 rfl (lv_room (Nat.le_of_ble_eq_true rfl)) dX2_machine_37 ⟨Nat.zero_le _, Nat.zero_le _⟩) hD hS hA (fun _ => rfl) (fun r_37 u_37 H locs h_37 hP hD hS => ?_)
        have hP : va_P (dC, dI) vwCl (xw ad cI cJ ln fg dg sc _ mi mv mw st fr sr pa nu) H := hP
        have hD : va_D A (xw ad cI cJ ln fg dg sc _ mi mv mw st fr sr pa nu) := va_D_addr hD rfl
        subst h_37
        refine wr_i (va_runV ⟨hx, hb, hml, hown, hts⟩ (c_X2_setStream l (strm_in c_11)) (cwV 2 hts gX2_machine_X2_setStream rfl rfl rfl ⟨rfl, kd_X2_setStream⟩ ⟨Nat.le_of_ble_eq_true rfl, Nat.le_of_ble_eq_true rfl⟩) (preV2 hnw hK hP hD 0 2 rfl rfl) rfl rfl hl.1 rfl (lv_room (Nat.le_of_ble_eq_true rfl)) dX2_machine_40 ⟨Nat.zero_le _, Nat.zero_le _⟩) hD hS hA (fun _ => rfl) (fun r_40 u_40 H locs h_40 hP hD hS => ?_)
        have hP : va_P (dC, dI) vwCl (xw ad cI cJ ln fg dg sc _ mi mv mw _ fr sr pa nu) H := hP
        have hD : va_D A (xw ad cI cJ ln fg dg sc _ mi mv mw _ fr sr pa nu) := va_D_addr hD rfl
        subst h_40
        simp only [o_machine, if_pos hC, if_pos c_21, o_set]
        exact W.iret hx hb hr (fun t ht _ => ⟨⟨_, (), rfl, rfl, wpost ht hP⟩, hS.F ht⟩) hS.2.2 dX2_machine_43
      · skip
        have c_21 := bI_eq.mp c_21
        refine lv_bipush (v := (-102)) hx hb dX2_machine_24 (by decide) ?_
        simp only [o_machine, if_pos hC, if_neg c_21]
        exact W.iret hx hb hr (fun t ht _ => ⟨⟨_, (), rfl, rfl, wpost ht hP⟩, hS.F ht⟩) hS.2.2 dX2_machine_26
    · skip
      have c_11 := bI_eq.mp c_11
      have hC : ¬ (strm a0 ∧ strm a2) := fun h => c_11 h.2
      refine lv_bipush (v := (-101)) hx hb dX2_machine_14 (by decide) ?_
      simp only [o_machine, if_neg hC]
      exact W.iret hx hb hr (fun t ht _ => ⟨⟨_, (), rfl, rfl, wpost ht hP⟩, hS.F ht⟩) hS.2.2 dX2_machine_16
theorem kd_X2_state : yX2_state.cls ≠ "java/lang/invoke/MethodHandle" ∧ yX2_state.cls ≠ "java/lang/invoke/VarHandle" ∧ (parseMethodDescriptor yX2_state.desc).map (fun d => d.parameters.length) = some 0 := by decide +kernel
set_option maxHeartbeats 4000000 in
set_option maxRecDepth 100000 in
theorem c_X2_state (l : Launch) {dC : Nat → ClassId} {dI : Nat → Nat → Nat} {ad : Nat → Nat} {cI cJ : ClassId} {ln : Int32} {fg : Int32} {dg : Int32} {sc : Int32} {ms : Int32} {mi : Int32} {mv : Int32} {mw : Int32} {st : (Nat → Int64)} {fr : (Nat → Int64)} {sr : (Nat → Int64)} {pa : (Nat → Int64)} {nu : (Nat → Int32)}  : Met l yX2_state wsX2_state ({ frames := 0, cells := 0, slots := 0, locals := 0 }) (va_Pc ([.ref (ad 0)] : List Value) (gB (dC, dI) (tyw cI cJ) (xw ad cI cJ ln fg dg sc ms mi mv mw st fr sr pa nu))) (QcRead (ms)) 0 0 (fun _ => False) := by
  refine Met.ofW (cc := cX2_state) (maxL := 1) (ret := (some .int)) (by decide) rfl ?_
  intro p e s m args below meth c s₁ B hml hv
  obtain ⟨rfl, hnw, hK, hP⟩ := hv
  have hx := B.exec
  have hb := B.bytes
  have hr := B.returns
  have hts := atoms_spec (ws := wsX2_state) B.pre
  have hown : s.vm.findClass RX2 = some m.cls := findClass_of_methodNamed B.named
  have hlocks := B.notSynchronized
  have hw0 := hts (.fieldLink RX2 36 "BitStreams" "machineState" "I") (by decide +kernel)
  have inX2 : ∀ w ∈ wsX20, w ∈ wsX2_state := by decide +kernel
  have hl := lv_entry ([.ref (ad 0)] : List Value) (n := 1) (Nat.le_of_ble_eq_true rfl)
  rw [lg_entry_eq]
  generalize (lg_sl ([.ref (ad 0)] : List Value) ++ List.replicate (1 - (lg_sl ([.ref (ad 0)] : List Value)).length) Slot.unset).toArray = ls at hl ⊢
  have hl : lv_has ls 1 [(0, .ref (ad 0))] := hl
  refine lv_aload_n hx hb dX2_state_0 rfl (lv_at hl 0 rfl) ?_
  refine va_get (D := (dC, dI)) (ci := 2) (C := RX2) (T := TX2) (N := 10) hx hb hts inX2 hown hK hP 0 rfl rfl 6 (by decide) hw0 (fun _ h9 => h9) rfl dX2_state_1 ?_
  exact W.iret hx hb hr (fun t ht _ => ri rfl ht) no_locs dX2_state_4
theorem kd_X2_ever : yX2_ever.cls ≠ "java/lang/invoke/MethodHandle" ∧ yX2_ever.cls ≠ "java/lang/invoke/VarHandle" ∧ (parseMethodDescriptor yX2_ever.desc).map (fun d => d.parameters.length) = some 3 := by decide +kernel
set_option maxHeartbeats 4000000 in
set_option maxRecDepth 100000 in
theorem c_X2_ever (l : Launch) {dC : Nat → ClassId} {dI : Nat → Nat → Nat} {ad : Nat → Nat} {cI cJ : ClassId} {ln : Int32} {fg : Int32} {dg : Int32} {sc : Int32} {ms : Int32} {mi : Int32} {mv : Int32} {mw : Int32} {st : (Nat → Int64)} {fr : (Nat → Int64)} {sr : (Nat → Int64)} {pa : (Nat → Int64)} {nu : (Nat → Int32)} {a0 a1 a2 : Int32} : Met l yX2_ever wsX2_ever ({ frames := 3, cells := 0, slots := 0, locals := 75 }) (va_Pc ([.ref (ad 0), .int a0, .int a1, .int a2] : List Value) (gB (dC, dI) (tyw cI cJ) (xw ad cI cJ ln fg dg sc ms mi mv mw st fr sr pa nu))) (qL (o_ever ln a0 a1 a2)) 0 0 (fun _ => False) := by
  refine Met.ofW (cc := cX2_ever) (maxL := 11) (ret := (some .long)) (by decide) rfl ?_
  intro p e s m args below meth c s₁ B hml hv
  obtain ⟨rfl, hnw, hK, hP⟩ := hv
  have hx := B.exec
  have hb := B.bytes
  have hr := B.returns
  have hts := atoms_spec (ws := wsX2_ever) B.pre
  have hown : s.vm.findClass RX2 = some m.cls := findClass_of_methodNamed B.named
  have hlocks := B.notSynchronized
  have hw0 := hts (.constantLong RX2 129 (-102)) (by decide +kernel)
  have hw1 := hts (.fieldLink RX2 10 "BitStreams" "rows" "LBitStreams$Rows;") (by decide +kernel)
  have inX1 : ∀ w ∈ wsX10, w ∈ wsX2_ever := by decide +kernel
  have inX2 : ∀ w ∈ wsX20, w ∈ wsX2_ever := by decide +kernel
  have hl := lv_entry ([.ref (ad 0), .int a0, .int a1, .int a2] : List Value) (n := 11) (Nat.le_of_ble_eq_true rfl)
  rw [lg_entry_eq]
  generalize (lg_sl ([.ref (ad 0), .int a0, .int a1, .int a2] : List Value) ++ List.replicate (11 - (lg_sl ([.ref (ad 0), .int a0, .int a1, .int a2] : List Value)).length) Slot.unset).toArray = ls at hl ⊢
  have hl : lv_has ls 11 [(0, .ref (ad 0)), (1, .int a0), (2, .int a1), (3, .int a2)] := hl
  refine lv_iload_n hx hb dX2_ever_0 rfl (lv_at hl 1 rfl) ?_
  refine ro_i (va_runS ⟨hx, hb, hml, hown, hts⟩ (c_X2_isMachine l ) (va_cwS 1 hts gX2_ever_X2_isMachine rfl rfl rfl kd_X2_isMachine ⟨Nat.le_of_ble_eq_true rfl, Nat.le_of_ble_eq_true rfl⟩) preS0 rfl rfl hl.1 rfl (lv_room (Nat.le_of_ble_eq_true rfl)) dX2_ever_1 ⟨Nat.zero_le _, Nat.zero_le _⟩) ?_
  refine lv_if_eq (tgt := 24) hx hb dX2_ever_4 (by decide) (fun c_4 => ?_) (fun c_4 => ?_)
  · skip
    have c_4 := bI_eq.mp c_4
    have hC : ¬ (mach a0 ∧ (0 ≤ a1 ∧ a1 ≤ ln) ∧ (0 ≤ a2 ∧ a2 ≤ 1)) := fun h => c_4 h.1
    refine lv_ldc2 (v := (-102)) hx hb hown hw0 dX2_ever_24 ?_
    exact W.lret hx hb hr (fun t ht _ => rl (by simp only [o_ever, if_neg hC]) ht) no_locs dX2_ever_27
  · skip
    have c_4 := bI_ne.mp c_4
    refine lv_aload_n hx hb dX2_ever_7 rfl (lv_at hl 0 rfl) ?_
    refine lv_iload_n hx hb dX2_ever_8 rfl (lv_at hl 2 rfl) ?_
    refine ro_i (va_runV ⟨hx, hb, hml, hown, hts⟩ (c_X2_isValue l ) (cwV 1 hts gX2_ever_X2_isValue rfl rfl rfl ⟨rfl, kd_X2_isValue⟩ ⟨Nat.le_of_ble_eq_true rfl, Nat.le_of_ble_eq_true rfl⟩) (preV1 hnw hK hP 0 2 rfl rfl) rfl rfl hl.1 rfl (lv_room (Nat.le_of_ble_eq_true rfl)) dX2_ever_9 ⟨Nat.zero_le _, Nat.zero_le _⟩) ?_
    refine lv_if_eq (tgt := 24) hx hb dX2_ever_12 (by decide) (fun c_12 => ?_) (fun c_12 => ?_)
    · skip
      have c_12 := bI_eq.mp c_12
      have hC : ¬ (mach a0 ∧ (0 ≤ a1 ∧ a1 ≤ ln) ∧ (0 ≤ a2 ∧ a2 ≤ 1)) := fun h => c_12 h.2.1
      refine lv_ldc2 (v := (-102)) hx hb hown hw0 dX2_ever_24 ?_
      exact W.lret hx hb hr (fun t ht _ => rl (by simp only [o_ever, if_neg hC]) ht) no_locs dX2_ever_27
    · skip
      have c_12 := bI_ne.mp c_12
      refine lv_iload_n hx hb dX2_ever_15 rfl (lv_at hl 3 rfl) ?_
      refine lv_iconst (v := 0) hx hb dX2_ever_16 (by decide) ?_
      refine lv_iconst (v := 1) hx hb dX2_ever_17 (by decide) ?_
      refine ro_i (va_runS ⟨hx, hb, hml, hown, hts⟩ (c_X2_isWithin l ) (va_cwS 3 hts gX2_ever_X2_isWithin rfl rfl rfl kd_X2_isWithin ⟨Nat.le_of_ble_eq_true rfl, Nat.le_of_ble_eq_true rfl⟩) preS0 rfl rfl hl.1 rfl (lv_room (Nat.le_of_ble_eq_true rfl)) dX2_ever_18 ⟨Nat.zero_le _, Nat.zero_le _⟩) ?_
      refine lv_if_ne (tgt := 28) hx hb dX2_ever_21 (by decide) (fun c_21 => ?_) (fun c_21 => ?_)
      · skip
        have c_21 := bI_ne.mp c_21
        have hC : (mach a0 ∧ (0 ≤ a1 ∧ a1 ≤ ln) ∧ (0 ≤ a2 ∧ a2 ≤ 1)) := ⟨c_4, c_12, c_21⟩
        refine lv_lconst (v := 0) hx hb dX2_ever_28 (by decide) ?_
        refine lv_lstore (lv' := [(4, .long _), (0, .ref _), (1, .int _), (2, .int _), (3, .int _)]) hx hb dX2_ever_29 hl (by decide) rfl (fun ls hl => ?_)
        refine lv_lconst (v := 0) hx hb dX2_ever_31 (by decide) ?_
        refine lv_lstore (lv' := [(6, .long _), (4, .long _), (0, .ref _), (1, .int _), (2, .int _), (3, .int _)]) hx hb dX2_ever_32 hl (by decide) rfl (fun ls hl => ?_)
        refine lv_iconst (v := 0) hx hb dX2_ever_34 (by decide) ?_
        refine lv_istore (lv' := [(8, .int _), (6, .long _), (4, .long _), (0, .ref _), (1, .int _), (2, .int _), (3, .int _)]) hx hb dX2_ever_35 hl (by decide) rfl (fun ls hl => ?_)
        have L37 : ∀ (n37 : Nat) (j : Nat) (up al : Int64), a0.toNatClampNeg + 1 ≤ j + n37 → (j ≤ a0.toNatClampNeg) → (up = f_own ln a0 a1 j) → (al = f_all ln a0 a1 j) → ∀ (ls : Array Slot), lv_has ls 11 [(0, .ref (ad 0)), (1, .int a0), (2, .int a1), (3, .int a2), (4, .long up), (6, .long al), (8, .int (nI j))] → W p l e { frames := 3, cells := 0, slots := 0, locals := 75 } s m ([.ref (ad 0), .int a0, .int a1, .int a2] : List Value).toArray below meth c s.heap [] 0 0 (MQ below (qL (o_ever ln a0 a1 a2)) ([.ref (ad 0), .int a0, .int a1, .int a2] : List Value).toArray s 0 0 (fun _ => False)) (F0 m 37 ls []) := by
          intro n37
          induction n37 with
          | zero =>
            intro j up al hf37 hj hup hal
            exact absurd hf37 (by omega)
          | succ n37 ih37 =>
            intro j up al hf37 hj hup hal ls hl
            refine lv_iload hx hb dX2_ever_37 (lv_at hl 6 rfl) ?_
            refine lv_iload_n hx hb dX2_ever_39 rfl (lv_at hl 1 rfl) ?_
            refine lv_icmp_ge (tgt := 101) hx hb dX2_ever_40 (by decide) (fun c_40 => ?_) (fun c_40 => ?_)
            · skip
              refine lv_lload hx hb dX2_ever_101 (lv_at hl 4 rfl) ?_
              refine lv_lload hx hb dX2_ever_103 (lv_at hl 5 rfl) ?_
              refine lv_iload_n hx hb dX2_ever_105 rfl (lv_at hl 3 rfl) ?_
              refine ro_l (va_runS ⟨hx, hb, hml, hown, hts⟩ (c_X2_inLowestTerms l ) (va_cwS 3 hts gX2_ever_X2_inLowestTerms rfl rfl rfl kd_X2_inLowestTerms ⟨Nat.le_of_ble_eq_true rfl, Nat.le_of_ble_eq_true rfl⟩) preS0 rfl rfl hl.1 rfl (lv_room (Nat.le_of_ble_eq_true rfl)) dX2_ever_106 ⟨Nat.zero_le _, Nat.zero_le _⟩) ?_
              exact W.lret hx hb hr (fun t ht _ => rl (by simp only [o_ever, if_pos hC]; rw [cl_end hj c_40, hup, hal]) ht) no_locs dX2_ever_109
            · skip
              refine lv_iload_n hx hb dX2_ever_43 rfl (lv_at hl 2 rfl) ?_
              refine lv_i2l hx hb dX2_ever_44 rfl ?_
              refine lv_iload hx hb dX2_ever_45 (lv_at hl 6 rfl) ?_
              refine ro_l (va_runS ⟨hx, hb, hml, hown, hts⟩ (c_X2_power l ) (va_cwS 2 hts gX2_ever_X2_power rfl rfl rfl kd_X2_power ⟨Nat.le_of_ble_eq_true rfl, Nat.le_of_ble_eq_true rfl⟩) preS0 rfl rfl hl.1 rfl (lv_room (Nat.le_of_ble_eq_true rfl)) dX2_ever_47 ⟨Nat.zero_le _, Nat.zero_le _⟩) ?_
              refine lv_aload_n hx hb dX2_ever_50 rfl (lv_at hl 0 rfl) ?_
              refine va_get (D := (dC, dI)) (ci := 2) (C := RX2) (T := TX2) (N := 10) hx hb hts inX2 hown hK hP 0 rfl rfl 0 (by decide) hw1 (fun _ h9 => h9) rfl dX2_ever_51 ?_
              refine va_getN (D := (dC, dI)) (ci := 1) (C := RX1) (T := TX1) (N := 2) hx hb hts inX1 hown hK hP 1 rfl rfl 0 (by decide) (hnw.use 1 rfl) (fun _ h9 => h9) rfl dX2_ever_54 ?_
              refine lv_iload_n hx hb dX2_ever_57 rfl (lv_at hl 2 rfl) ?_
              refine lv_isub hx hb dX2_ever_58 ?_
              refine lv_i2l hx hb dX2_ever_59 rfl ?_
              refine lv_iload_n hx hb dX2_ever_60 rfl (lv_at hl 1 rfl) ?_
              refine lv_iconst (v := 1) hx hb dX2_ever_61 (by decide) ?_
              refine lv_isub hx hb dX2_ever_62 ?_
              refine lv_iload hx hb dX2_ever_63 (lv_at hl 6 rfl) ?_
              refine lv_isub hx hb dX2_ever_65 ?_
              refine ro_l (va_runS ⟨hx, hb, hml, hown, hts⟩ (c_X2_power l ) (va_cwS 2 hts gX2_ever_X2_power rfl rfl rfl kd_X2_power ⟨Nat.le_of_ble_eq_true rfl, Nat.le_of_ble_eq_true rfl⟩) preS0 rfl rfl hl.1 rfl (lv_room (Nat.le_of_ble_eq_true rfl)) dX2_ever_66 ⟨Nat.zero_le _, Nat.zero_le _⟩) ?_
              refine lv_lmul hx hb dX2_ever_69 ?_
              refine lv_topl (fun wt ewt => ?_)
              have hwt : wt = f_wt ln a0 a1 j := by rw [ewt, nI_cl (by have := cl_go hj c_40; have := cl_lt (a := a0); omega)]; rfl
              refine lv_lstore (lv' := [(9, .long _), (0, .ref _), (1, .int _), (2, .int _), (3, .int _), (4, .long _), (6, .long _), (8, .int _)]) hx hb dX2_ever_70 hl (by decide) rfl (fun ls hl => ?_)
              refine lv_lload hx hb dX2_ever_72 (lv_at hl 6 rfl) ?_
              refine lv_lload hx hb dX2_ever_74 (lv_at hl 0 rfl) ?_
              refine lv_ladd hx hb dX2_ever_76 ?_
              refine lv_lstore (lv' := [(6, .long _), (9, .long _), (0, .ref _), (1, .int _), (2, .int _), (3, .int _), (4, .long _), (8, .int _)]) hx hb dX2_ever_77 hl (by decide) rfl (fun ls hl => ?_)
              refine lv_iload hx hb dX2_ever_79 (lv_at hl 7 rfl) ?_
              refine lv_iload_n hx hb dX2_ever_81 rfl (lv_at hl 3 rfl) ?_
              refine ro_i (va_runS ⟨hx, hb, hml, hown, hts⟩ (c_X2_isUpper l ) (va_cwS 2 hts gX2_ever_X2_isUpper rfl rfl rfl kd_X2_isUpper ⟨Nat.le_of_ble_eq_true rfl, Nat.le_of_ble_eq_true rfl⟩) preS0 rfl rfl hl.1 rfl (lv_room (Nat.le_of_ble_eq_true rfl)) dX2_ever_82 ⟨Nat.zero_le _, Nat.zero_le _⟩) ?_
              refine lv_if_eq (tgt := 95) hx hb dX2_ever_85 (by decide) (fun c_85 => ?_) (fun c_85 => ?_)
              · skip
                have c_85 := bI_eq.mp c_85
                refine lv_iinc (lv' := [(8, .int (nI (j + 1))), (6, .long _), (9, .long _), (0, .ref _), (1, .int _), (2, .int _), (3, .int _), (4, .long _)]) hx hb dX2_ever_95 hl (k := 7) rfl (nI_1 _) (by decide) rfl (fun ls hl => ?_)
                refine lv_goto (tgt := 37) hx hb dX2_ever_98 (by decide) ?_
                exact ih37 (j + 1) _ _ (by have := cl_go hj c_40; omega) (cl_go hj c_40) (by rw [f_own, hup]; first | rw [if_pos c_85, hwt] | rw [if_neg c_85]) (by rw [f_all, hal, hwt]) ls (lv_sub hl [3, 4, 5, 6, 7, 1, 0] rfl)
              · skip
                have c_85 := bI_ne.mp c_85
                refine lv_lload hx hb dX2_ever_88 (lv_at hl 6 rfl) ?_
                refine lv_lload hx hb dX2_ever_90 (lv_at hl 1 rfl) ?_
                refine lv_ladd hx hb dX2_ever_92 ?_
                refine lv_lstore (lv' := [(4, .long _), (6, .long _), (9, .long _), (0, .ref _), (1, .int _), (2, .int _), (3, .int _), (8, .int _)]) hx hb dX2_ever_93 hl (by decide) rfl (fun ls hl => ?_)
                refine lv_iinc (lv' := [(8, .int (nI (j + 1))), (4, .long _), (6, .long _), (9, .long _), (0, .ref _), (1, .int _), (2, .int _), (3, .int _)]) hx hb dX2_ever_95 hl (k := 7) rfl (nI_1 _) (by decide) rfl (fun ls hl => ?_)
                refine lv_goto (tgt := 37) hx hb dX2_ever_98 (by decide) ?_
                exact ih37 (j + 1) _ _ (by have := cl_go hj c_40; omega) (cl_go hj c_40) (by rw [f_own, hup]; first | rw [if_pos c_85, hwt] | rw [if_neg c_85]) (by rw [f_all, hal, hwt]) ls (lv_sub hl [4, 5, 6, 7, 1, 2, 0] rfl)
        exact L37 (a0.toNatClampNeg + 1) 0 _ _ (by omega) (Nat.zero_le _) rfl rfl ls (lv_sub hl [3, 4, 5, 6, 2, 1, 0] rfl)
      · skip
        have c_21 := bI_eq.mp c_21
        have hC : ¬ (mach a0 ∧ (0 ≤ a1 ∧ a1 ≤ ln) ∧ (0 ≤ a2 ∧ a2 ≤ 1)) := fun h => c_21 h.2.2
        refine lv_ldc2 (v := (-102)) hx hb hown hw0 dX2_ever_24 ?_
        exact W.lret hx hb hr (fun t ht _ => rl (by simp only [o_ever, if_neg hC]) ht) no_locs dX2_ever_27
theorem kd_X2_degree : yX2_degree.cls ≠ "java/lang/invoke/MethodHandle" ∧ yX2_degree.cls ≠ "java/lang/invoke/VarHandle" ∧ (parseMethodDescriptor yX2_degree.desc).map (fun d => d.parameters.length) = some 2 := by decide +kernel
set_option maxHeartbeats 4000000 in
set_option maxRecDepth 100000 in
theorem c_X2_degree (l : Launch) {dC : Nat → ClassId} {dI : Nat → Nat → Nat} {ad : Nat → Nat} {cI cJ : ClassId} {ln : Int32} {fg : Int32} {dg : Int32} {sc : Int32} {ms : Int32} {mi : Int32} {mv : Int32} {mw : Int32} {st : (Nat → Int64)} {fr : (Nat → Int64)} {sr : (Nat → Int64)} {pa : (Nat → Int64)} {nu : (Nat → Int32)} {sz : Nat} {a0 a1 : Int32} : Met l yX2_degree wsX2_degree ({ frames := 1, cells := 0, slots := 0, locals := 23 }) (va_Pc ([.ref (ad 0), .int a0, .int a1] : List Value) (gW sz (dC, dI) (tyw cI cJ) (xw ad cI cJ ln fg dg sc ms mi mv mw st fr sr pa nu))) (va_Qi (fun r (_u : Unit) => r = (o_degree dg sc nu a0 a1).1) (fun _u t => va_P (dC, dI) vwCl (xw ad cI cJ ln fg (o_degree dg sc nu a0 a1).2.1 (o_degree dg sc nu a0 a1).2.2.1 ms mi mv mw st fr sr pa (o_degree dg sc nu a0 a1).2.2.2) t.heap) (va_A (xw ad cI cJ ln fg dg sc ms mi mv mw st fr sr pa nu) sz)) 0 0 (va_A (xw ad cI cJ ln fg dg sc ms mi mv mw st fr sr pa nu) sz) := by
  refine Met.ofW (cc := cX2_degree) (maxL := 3) (ret := (some .int)) (by decide) rfl ?_
  intro p e s m args below meth c s₁ B hml hv
  obtain ⟨rfl, hsz, ⟨hnw, hK, hP⟩, hD0⟩ := hv
  have hx := B.exec
  have hb := B.bytes
  have hr := B.returns
  have hts := atoms_spec (ws := wsX2_degree) B.pre
  have hown : s.vm.findClass RX2 = some m.cls := findClass_of_methodNamed B.named
  have hlocks := B.notSynchronized
  subst hsz
  have hD := hD0.self (sz := s.heap.size)
  generalize hAe : va_A (xw ad cI cJ ln fg dg sc ms mi mv mw st fr sr pa nu) s.heap.size = A at hD ⊢
  have hA : ∀ q : Nat, s.heap.size ≤ q → A q := fun q h => by rw [← hAe]; exact Or.inr h
  have hS : va_S A s.heap s.heap [] := va_S.rf
  have hw0 := hts (.fieldLink RX2 19 "BitStreams" "form" "LBitStreams$Form;") (by decide +kernel)
  have hw1 := hts (.initialized RX0) (by decide +kernel)
  have hw2 := hts (.instanceMethod yX0_setDegree) (by decide +kernel)
  have hw3 := hts (.selects RX0 yX0_setDegree yX0_setDegree) (by decide +kernel)
  have inX2 : ∀ w ∈ wsX20, w ∈ wsX2_degree := by decide +kernel
  have hl := lv_entry ([.ref (ad 0), .int a0, .int a1] : List Value) (n := 3) (Nat.le_of_ble_eq_true rfl)
  rw [lg_entry_eq]
  generalize (lg_sl ([.ref (ad 0), .int a0, .int a1] : List Value) ++ List.replicate (3 - (lg_sl ([.ref (ad 0), .int a0, .int a1] : List Value)).length) Slot.unset).toArray = ls at hl ⊢
  have hl : lv_has ls 3 [(0, .ref (ad 0)), (1, .int a0), (2, .int a1)] := hl
  refine lv_iload_n hx hb dX2_degree_0 rfl (lv_at hl 1 rfl) ?_
  refine lv_iconst (v := 0) hx hb dX2_degree_1 (by decide) ?_
  refine lv_iconst (v := 4) hx hb dX2_degree_2 (by decide) ?_
  refine ro_i (va_runS ⟨hx, hb, hml, hown, hts⟩ (c_X2_isWithin l ) (va_cwS 3 hts gX2_degree_X2_isWithin rfl rfl rfl kd_X2_isWithin ⟨Nat.le_of_ble_eq_true rfl, Nat.le_of_ble_eq_true rfl⟩) preS0 rfl rfl hl.1 rfl (lv_room (Nat.le_of_ble_eq_true rfl)) dX2_degree_3 ⟨Nat.zero_le _, Nat.zero_le _⟩) ?_
  refine lv_if_eq (tgt := 20) hx hb dX2_degree_6 (by decide) (fun c_6 => ?_) (fun c_6 => ?_)
  · skip
    have c_6 := bI_eq.mp c_6
    have hC : ¬ ((0 ≤ a0 ∧ a0 ≤ 4) ∧ (1 ≤ a1 ∧ a1 ≤ 1000)) := fun h => c_6 h.1
    refine lv_bipush (v := (-102)) hx hb dX2_degree_20 (by decide) ?_
    simp only [o_degree, if_neg hC]
    exact W.iret hx hb hr (fun t ht _ => ⟨⟨_, (), rfl, rfl, wpost ht hP⟩, hS.F ht⟩) hS.2.2 dX2_degree_22
  · skip
    have c_6 := bI_ne.mp c_6
    refine lv_iload_n hx hb dX2_degree_9 rfl (lv_at hl 2 rfl) ?_
    refine lv_iconst (v := 1) hx hb dX2_degree_10 (by decide) ?_
    refine lv_sipush (v := 1000) hx hb dX2_degree_11 (by decide) ?_
    refine ro_i (va_runS ⟨hx, hb, hml, hown, hts⟩ (c_X2_isWithin l ) (va_cwS 3 hts gX2_degree_X2_isWithin rfl rfl rfl kd_X2_isWithin ⟨Nat.le_of_ble_eq_true rfl, Nat.le_of_ble_eq_true rfl⟩) preS0 rfl rfl hl.1 rfl (lv_room (Nat.le_of_ble_eq_true rfl)) dX2_degree_14 ⟨Nat.zero_le _, Nat.zero_le _⟩) ?_
    refine lv_if_ne (tgt := 23) hx hb dX2_degree_17 (by decide) (fun c_17 => ?_) (fun c_17 => ?_)
    · skip
      have c_17 := bI_ne.mp c_17
      have hC : ((0 ≤ a0 ∧ a0 ≤ 4) ∧ (1 ≤ a1 ∧ a1 ≤ 1000)) := ⟨c_6, c_17⟩
      obtain ⟨d, -, hd, ed⟩ := rng_nat (a := 0) (b := 4) (by omega) (by omega) c_6
      subst ed
      refine lv_aload_n hx hb dX2_degree_23 rfl (lv_at hl 0 rfl) ?_
      refine va_get (D := (dC, dI)) (ci := 2) (C := RX2) (T := TX2) (N := 10) hx hb hts inX2 hown hK hP 0 rfl rfl 1 (by decide) hw0 (fun _ h9 => h9) rfl dX2_degree_24 ?_
      refine lv_iload_n hx hb dX2_degree_27 rfl (lv_at hl 1 rfl) ?_
      refine lv_iload_n hx hb dX2_degree_28 rfl (lv_at hl 2 rfl) ?_
      refine wr_v (va_runVN ⟨hx, hb, hml, hown, hts⟩ (c_X0_setDegree l hd) ⟨va_cnB 2 hts gX2_degree_X0_setDegree_n142 rfl rfl rfl (hnw.at 10 rfl) hw1 kd_X0_setDegree ⟨Nat.le_of_ble_eq_true rfl, Nat.le_of_ble_eq_true rfl⟩, hw2, hw3⟩ (preV2 hnw hK hP hD 2 0 rfl rfl) rfl rfl hl.1 rfl (lv_room (Nat.le_of_ble_eq_true rfl)) dX2_degree_29 ⟨Nat.zero_le _, Nat.zero_le _⟩) hD hS hA (fun _ => rfl) (fun u_29 H locs h_29 hP hD hS => ?_)
      have hP : va_P (dC, dI) vwCl (xw ad cI cJ ln fg (nI d) a1 ms mi mv mw st fr sr pa u_29) H := hP
      have hD : va_D A (xw ad cI cJ ln fg (nI d) a1 ms mi mv mw st fr sr pa u_29) := va_D_addr hD rfl
      refine lv_iload_n hx hb dX2_degree_32 rfl (lv_at hl 1 rfl) ?_
      have eu : u_29 = fun i => if (nI d).toNatClampNeg < i ∧ i < 5 then 0 else nu i := funext (fun i => by rw [h_29 i, nI_cl (by omega)])
      subst eu
      simp only [o_degree, if_pos hC]
      exact W.iret hx hb hr (fun t ht _ => ⟨⟨_, (), rfl, rfl, wpost ht hP⟩, hS.F ht⟩) hS.2.2 dX2_degree_33
    · skip
      have c_17 := bI_eq.mp c_17
      have hC : ¬ ((0 ≤ a0 ∧ a0 ≤ 4) ∧ (1 ≤ a1 ∧ a1 ≤ 1000)) := fun h => c_17 h.2
      refine lv_bipush (v := (-102)) hx hb dX2_degree_20 (by decide) ?_
      simp only [o_degree, if_neg hC]
      exact W.iret hx hb hr (fun t ht _ => ⟨⟨_, (), rfl, rfl, wpost ht hP⟩, hS.F ht⟩) hS.2.2 dX2_degree_22
theorem kd_X2_term : yX2_term.cls ≠ "java/lang/invoke/MethodHandle" ∧ yX2_term.cls ≠ "java/lang/invoke/VarHandle" ∧ (parseMethodDescriptor yX2_term.desc).map (fun d => d.parameters.length) = some 2 := by decide +kernel
set_option maxHeartbeats 4000000 in
set_option maxRecDepth 100000 in
theorem c_X2_term (l : Launch) {dC : Nat → ClassId} {dI : Nat → Nat → Nat} {ad : Nat → Nat} {cI cJ : ClassId} {ln : Int32} {fg : Int32} {sc : Int32} {ms : Int32} {mi : Int32} {mv : Int32} {mw : Int32} {st : (Nat → Int64)} {fr : (Nat → Int64)} {sr : (Nat → Int64)} {pa : (Nat → Int64)} {nu : (Nat → Int32)} {sz : Nat} {a0 a1 : Int32} {d : Nat} (hd : d ≤ 4) : Met l yX2_term wsX2_term ({ frames := 1, cells := 0, slots := 0, locals := 22 }) (va_Pc ([.ref (ad 0), .int a0, .int a1] : List Value) (gW sz (dC, dI) (tyw cI cJ) (xw ad cI cJ ln fg (nI d) sc ms mi mv mw st fr sr pa nu))) (va_Qi (fun r (_u : Unit) => r = (o_term (nI d) nu a0 a1).1) (fun _u t => va_P (dC, dI) vwCl (xw ad cI cJ ln fg (nI d) sc ms mi mv mw st fr sr pa (o_term (nI d) nu a0 a1).2) t.heap) (va_A (xw ad cI cJ ln fg (nI d) sc ms mi mv mw st fr sr pa nu) sz)) 0 0 (va_A (xw ad cI cJ ln fg (nI d) sc ms mi mv mw st fr sr pa nu) sz) := by
  refine Met.ofW (cc := cX2_term) (maxL := 4) (ret := (some .int)) (by decide) rfl ?_
  intro p e s m args below meth c s₁ B hml hv
  obtain ⟨rfl, hsz, ⟨hnw, hK, hP⟩, hD0⟩ := hv
  have hx := B.exec
  have hb := B.bytes
  have hr := B.returns
  have hts := atoms_spec (ws := wsX2_term) B.pre
  have hown : s.vm.findClass RX2 = some m.cls := findClass_of_methodNamed B.named
  have hlocks := B.notSynchronized
  subst hsz
  have hD := hD0.self (sz := s.heap.size)
  generalize hAe : va_A (xw ad cI cJ ln fg (nI d) sc ms mi mv mw st fr sr pa nu) s.heap.size = A at hD ⊢
  have hA : ∀ q : Nat, s.heap.size ≤ q → A q := fun q h => by rw [← hAe]; exact Or.inr h
  have hS : va_S A s.heap s.heap [] := va_S.rf
  have hw0 := hts (.fieldLink RX2 19 "BitStreams" "form" "LBitStreams$Form;") (by decide +kernel)
  have inX0 : ∀ w ∈ wsX00, w ∈ wsX2_term := by decide +kernel
  have inX2 : ∀ w ∈ wsX20, w ∈ wsX2_term := by decide +kernel
  have hl := lv_entry ([.ref (ad 0), .int a0, .int a1] : List Value) (n := 4) (Nat.le_of_ble_eq_true rfl)
  rw [lg_entry_eq]
  generalize (lg_sl ([.ref (ad 0), .int a0, .int a1] : List Value) ++ List.replicate (4 - (lg_sl ([.ref (ad 0), .int a0, .int a1] : List Value)).length) Slot.unset).toArray = ls at hl ⊢
  have hl : lv_has ls 4 [(0, .ref (ad 0)), (1, .int a0), (2, .int a1)] := hl
  refine lv_iload_n hx hb dX2_term_0 rfl (lv_at hl 1 rfl) ?_
  refine lv_iconst (v := 0) hx hb dX2_term_1 (by decide) ?_
  refine lv_aload_n hx hb dX2_term_2 rfl (lv_at hl 0 rfl) ?_
  refine va_get (D := (dC, dI)) (ci := 2) (C := RX2) (T := TX2) (N := 10) hx hb hts inX2 hown hK hP 0 rfl rfl 1 (by decide) hw0 (fun _ h9 => h9) rfl dX2_term_3 ?_
  refine va_getN (D := (dC, dI)) (ci := 0) (C := RX0) (T := TX0) (N := 3) hx hb hts inX0 hown hK hP 2 rfl rfl 1 (by decide) (hnw.use 4 rfl) (fun _ h9 => h9) rfl dX2_term_6 ?_
  refine ro_i (va_runS ⟨hx, hb, hml, hown, hts⟩ (c_X2_isWithin l ) (va_cwS 3 hts gX2_term_X2_isWithin rfl rfl rfl kd_X2_isWithin ⟨Nat.le_of_ble_eq_true rfl, Nat.le_of_ble_eq_true rfl⟩) preS0 rfl rfl hl.1 rfl (lv_room (Nat.le_of_ble_eq_true rfl)) dX2_term_9 ⟨Nat.zero_le _, Nat.zero_le _⟩) ?_
  refine lv_if_ne (tgt := 18) hx hb dX2_term_12 (by decide) (fun c_12 => ?_) (fun c_12 => ?_)
  · skip
    have c_12 := bI_ne.mp c_12
    refine lv_iload_n hx hb dX2_term_18 rfl (lv_at hl 2 rfl) ?_
    refine lv_sipush (v := (-1000)) hx hb dX2_term_19 (by decide) ?_
    refine lv_sipush (v := 1000) hx hb dX2_term_22 (by decide) ?_
    refine ro_i (va_runS ⟨hx, hb, hml, hown, hts⟩ (c_X2_isWithin l ) (va_cwS 3 hts gX2_term_X2_isWithin rfl rfl rfl kd_X2_isWithin ⟨Nat.le_of_ble_eq_true rfl, Nat.le_of_ble_eq_true rfl⟩) preS0 rfl rfl hl.1 rfl (lv_room (Nat.le_of_ble_eq_true rfl)) dX2_term_25 ⟨Nat.zero_le _, Nat.zero_le _⟩) ?_
    refine lv_if_ne (tgt := 34) hx hb dX2_term_28 (by decide) (fun c_28 => ?_) (fun c_28 => ?_)
    · skip
      have c_28 := bI_ne.mp c_28
      refine lv_aload_n hx hb dX2_term_34 rfl (lv_at hl 0 rfl) ?_
      refine va_get (D := (dC, dI)) (ci := 2) (C := RX2) (T := TX2) (N := 10) hx hb hts inX2 hown hK hP 0 rfl rfl 1 (by decide) hw0 (fun _ h9 => h9) rfl dX2_term_35 ?_
      refine va_getN (D := (dC, dI)) (ci := 0) (C := RX0) (T := TX0) (N := 3) hx hb hts inX0 hown hK hP 2 rfl rfl 0 (by decide) (hnw.use 3 rfl) (fun _ h9 => h9) rfl dX2_term_38 ?_
      refine lv_iload_n hx hb dX2_term_41 rfl (lv_at hl 1 rfl) ?_
      refine va_iald hx hb hK hP 7 0 rfl rfl (term_in hd c_12) dX2_term_42 ?_
      refine lv_istore_n (lv' := [(3, .int _), (0, .ref _), (1, .int _), (2, .int _)]) hx hb dX2_term_43 rfl hl (by decide) rfl (fun ls hl => ?_)
      refine lv_aload_n hx hb dX2_term_44 rfl (lv_at hl 1 rfl) ?_
      refine va_get (D := (dC, dI)) (ci := 2) (C := RX2) (T := TX2) (N := 10) hx hb hts inX2 hown hK hP 0 rfl rfl 1 (by decide) hw0 (fun _ h9 => h9) rfl dX2_term_45 ?_
      refine va_getN (D := (dC, dI)) (ci := 0) (C := RX0) (T := TX0) (N := 3) hx hb hts inX0 hown hK hP 2 rfl rfl 0 (by decide) (hnw.use 3 rfl) (fun _ h9 => h9) rfl dX2_term_48 ?_
      refine lv_iload_n hx hb dX2_term_51 rfl (lv_at hl 2 rfl) ?_
      refine lv_iload_n hx hb dX2_term_52 rfl (lv_at hl 3 rfl) ?_
      refine va_iast hx hb hK hP hD hS 7 0 rfl rfl (term_in hd c_12) dX2_term_53 (fun H locs hP hD hS => ?_)
      have hP : va_P (dC, dI) vwCl (xw ad cI cJ ln fg (nI d) sc ms mi mv mw st fr sr pa _) H := hP
      have hD : va_D A (xw ad cI cJ ln fg (nI d) sc ms mi mv mw st fr sr pa _) := va_D_addr hD rfl
      refine lv_iload_n hx hb dX2_term_54 rfl (lv_at hl 0 rfl) ?_
      simp only [o_term, if_pos c_12, if_pos c_28]
      exact W.iret hx hb hr (fun t ht _ => ⟨⟨_, (), rfl, rfl, wpost ht hP⟩, hS.F ht⟩) hS.2.2 dX2_term_55
    · skip
      have c_28 := bI_eq.mp c_28
      refine lv_bipush (v := (-102)) hx hb dX2_term_31 (by decide) ?_
      simp only [o_term, if_pos c_12, if_neg c_28]
      exact W.iret hx hb hr (fun t ht _ => ⟨⟨_, (), rfl, rfl, wpost ht hP⟩, hS.F ht⟩) hS.2.2 dX2_term_33
  · skip
    have c_12 := bI_eq.mp c_12
    refine lv_bipush (v := (-101)) hx hb dX2_term_15 (by decide) ?_
    simp only [o_term, if_neg c_12]
    exact W.iret hx hb hr (fun t ht _ => ⟨⟨_, (), rfl, rfl, wpost ht hP⟩, hS.F ht⟩) hS.2.2 dX2_term_17
theorem kd_X2_part : yX2_part.cls ≠ "java/lang/invoke/MethodHandle" ∧ yX2_part.cls ≠ "java/lang/invoke/VarHandle" ∧ (parseMethodDescriptor yX2_part.desc).map (fun d => d.parameters.length) = some 3 := by decide +kernel
set_option maxHeartbeats 4000000 in
set_option maxRecDepth 100000 in
theorem c_X2_part (l : Launch) {dC : Nat → ClassId} {dI : Nat → Nat → Nat} {ad : Nat → Nat} {cI cJ : ClassId} {ln : Int32} {fg : Int32} {sc : Int32} {ms : Int32} {mi : Int32} {mv : Int32} {mw : Int32} {st : (Nat → Int64)} {fr : (Nat → Int64)} {sr : (Nat → Int64)} {pa : (Nat → Int64)} {nu : (Nat → Int32)} {a0 a1 a2 : Int32} {d : Nat} (hd : d ≤ 4) : Met l yX2_part wsX2_part ({ frames := 3, cells := 0, slots := 0, locals := 75 }) (va_Pc ([.ref (ad 0), .int a0, .int a1, .int a2] : List Value) (gB (dC, dI) (tyw cI cJ) (xw ad cI cJ ln fg (nI d) sc ms mi mv mw st fr sr pa nu))) (qL (o_part d sc nu a0 a1 a2)) 0 0 (fun _ => False) := by
  refine Met.ofW (cc := cX2_part) (maxL := 4) (ret := (some .long)) (by decide) rfl ?_
  intro p e s m args below meth c s₁ B hml hv
  obtain ⟨rfl, hnw, hK, hP⟩ := hv
  have hx := B.exec
  have hb := B.bytes
  have hr := B.returns
  have hts := atoms_spec (ws := wsX2_part) B.pre
  have hown : s.vm.findClass RX2 = some m.cls := findClass_of_methodNamed B.named
  have hlocks := B.notSynchronized
  have hw0 := hts (.fieldLink RX2 19 "BitStreams" "form" "LBitStreams$Form;") (by decide +kernel)
  have hw1 := hts (.constantLong RX2 129 (-102)) (by decide +kernel)
  have hw2 := hts (.initialized RX0) (by decide +kernel)
  have hw3 := hts (.instanceMethod yX0_partAbove) (by decide +kernel)
  have hw4 := hts (.selects RX0 yX0_partAbove yX0_partAbove) (by decide +kernel)
  have hw5 := hts (.instanceMethod yX0_partBelow) (by decide +kernel)
  have hw6 := hts (.selects RX0 yX0_partBelow yX0_partBelow) (by decide +kernel)
  have hw7 := hts (.constantLong RX2 153 (-101)) (by decide +kernel)
  have inX0 : ∀ w ∈ wsX00, w ∈ wsX2_part := by decide +kernel
  have inX2 : ∀ w ∈ wsX20, w ∈ wsX2_part := by decide +kernel
  have hl := lv_entry ([.ref (ad 0), .int a0, .int a1, .int a2] : List Value) (n := 4) (Nat.le_of_ble_eq_true rfl)
  rw [lg_entry_eq]
  generalize (lg_sl ([.ref (ad 0), .int a0, .int a1, .int a2] : List Value) ++ List.replicate (4 - (lg_sl ([.ref (ad 0), .int a0, .int a1, .int a2] : List Value)).length) Slot.unset).toArray = ls at hl ⊢
  have hl : lv_has ls 4 [(0, .ref (ad 0)), (1, .int a0), (2, .int a1), (3, .int a2)] := hl
  refine lv_iload_n hx hb dX2_part_0 rfl (lv_at hl 1 rfl) ?_
  refine lv_aload_n hx hb dX2_part_1 rfl (lv_at hl 0 rfl) ?_
  refine va_get (D := (dC, dI)) (ci := 2) (C := RX2) (T := TX2) (N := 10) hx hb hts inX2 hown hK hP 0 rfl rfl 1 (by decide) hw0 (fun _ h9 => h9) rfl dX2_part_2 ?_
  refine va_getN (D := (dC, dI)) (ci := 0) (C := RX0) (T := TX0) (N := 3) hx hb hts inX0 hown hK hP 2 rfl rfl 1 (by decide) (hnw.use 4 rfl) (fun _ h9 => h9) rfl dX2_part_5 ?_
  refine lv_bipush (v := 10) hx hb dX2_part_8 (by decide) ?_
  refine ro_i (va_runS ⟨hx, hb, hml, hown, hts⟩ (c_X2_isWithin l ) (va_cwS 3 hts gX2_part_X2_isWithin rfl rfl rfl kd_X2_isWithin ⟨Nat.le_of_ble_eq_true rfl, Nat.le_of_ble_eq_true rfl⟩) preS0 rfl rfl hl.1 rfl (lv_room (Nat.le_of_ble_eq_true rfl)) dX2_part_10 ⟨Nat.zero_le _, Nat.zero_le _⟩) ?_
  refine lv_if_eq (tgt := 25) hx hb dX2_part_13 (by decide) (fun c_13 => ?_) (fun c_13 => ?_)
  · skip
    have c_13 := bI_eq.mp c_13
    have hC : ¬ ((nI d ≤ a0 ∧ a0 ≤ 10) ∧ (0 ≤ a2 ∧ a2 ≤ 1)) := fun h => c_13 h.1
    refine lv_ldc2 (v := (-102)) hx hb hown hw1 dX2_part_25 ?_
    exact W.lret hx hb hr (fun t ht _ => rl (by simp only [o_part, if_neg hC]) ht) no_locs dX2_part_28
  · skip
    have c_13 := bI_ne.mp c_13
    refine lv_iload_n hx hb dX2_part_16 rfl (lv_at hl 3 rfl) ?_
    refine lv_iconst (v := 0) hx hb dX2_part_17 (by decide) ?_
    refine lv_iconst (v := 1) hx hb dX2_part_18 (by decide) ?_
    refine ro_i (va_runS ⟨hx, hb, hml, hown, hts⟩ (c_X2_isWithin l ) (va_cwS 3 hts gX2_part_X2_isWithin rfl rfl rfl kd_X2_isWithin ⟨Nat.le_of_ble_eq_true rfl, Nat.le_of_ble_eq_true rfl⟩) preS0 rfl rfl hl.1 rfl (lv_room (Nat.le_of_ble_eq_true rfl)) dX2_part_19 ⟨Nat.zero_le _, Nat.zero_le _⟩) ?_
    refine lv_if_ne (tgt := 29) hx hb dX2_part_22 (by decide) (fun c_22 => ?_) (fun c_22 => ?_)
    · skip
      have c_22 := bI_ne.mp c_22
      have hC : ((nI d ≤ a0 ∧ a0 ≤ 10) ∧ (0 ≤ a2 ∧ a2 ≤ 1)) := ⟨c_13, c_22⟩
      refine lv_iload_n hx hb dX2_part_29 rfl (lv_at hl 2 rfl) ?_
      refine lv_iconst (v := 0) hx hb dX2_part_30 (by decide) ?_
      refine lv_iload_n hx hb dX2_part_31 rfl (lv_at hl 1 rfl) ?_
      refine ro_i (va_runS ⟨hx, hb, hml, hown, hts⟩ (c_X2_isWithin l ) (va_cwS 3 hts gX2_part_X2_isWithin rfl rfl rfl kd_X2_isWithin ⟨Nat.le_of_ble_eq_true rfl, Nat.le_of_ble_eq_true rfl⟩) preS0 rfl rfl hl.1 rfl (lv_room (Nat.le_of_ble_eq_true rfl)) dX2_part_32 ⟨Nat.zero_le _, Nat.zero_le _⟩) ?_
      refine lv_if_ne (tgt := 42) hx hb dX2_part_35 (by decide) (fun c_35 => ?_) (fun c_35 => ?_)
      · skip
        have c_35 := bI_ne.mp c_35
        obtain ⟨mm, -, hmm, em⟩ := rng_nat (a := d) (b := 10) (by omega) (by omega) c_13
        subst em
        obtain ⟨j, -, hj, ej⟩ := rng_nat (a := 0) (b := mm) (by omega) (by omega) c_35
        subst ej
        refine lv_aload_n hx hb dX2_part_42 rfl (lv_at hl 0 rfl) ?_
        refine va_get (D := (dC, dI)) (ci := 2) (C := RX2) (T := TX2) (N := 10) hx hb hts inX2 hown hK hP 0 rfl rfl 1 (by decide) hw0 (fun _ h9 => h9) rfl dX2_part_43 ?_
        refine lv_iload_n hx hb dX2_part_46 rfl (lv_at hl 1 rfl) ?_
        refine lv_iload_n hx hb dX2_part_47 rfl (lv_at hl 2 rfl) ?_
        refine ro_l (va_runVN ⟨hx, hb, hml, hown, hts⟩ (c_X0_partAbove l hd (by omega)) ⟨va_cnB 2 hts gX2_part_X0_partAbove_n155 rfl rfl rfl (hnw.at 11 rfl) hw2 kd_X0_partAbove ⟨Nat.le_of_ble_eq_true rfl, Nat.le_of_ble_eq_true rfl⟩, hw3, hw4⟩ (preV1 hnw hK hP 2 0 rfl rfl) rfl rfl hl.1 rfl (lv_room (Nat.le_of_ble_eq_true rfl)) dX2_part_48 ⟨Nat.zero_le _, Nat.zero_le _⟩) ?_
        refine lv_aload_n hx hb dX2_part_51 rfl (lv_at hl 0 rfl) ?_
        refine va_get (D := (dC, dI)) (ci := 2) (C := RX2) (T := TX2) (N := 10) hx hb hts inX2 hown hK hP 0 rfl rfl 1 (by decide) hw0 (fun _ h9 => h9) rfl dX2_part_52 ?_
        refine lv_iload_n hx hb dX2_part_55 rfl (lv_at hl 1 rfl) ?_
        refine ro_l (va_runVN ⟨hx, hb, hml, hown, hts⟩ (c_X0_partBelow l hd) ⟨va_cnB 1 hts gX2_part_X0_partBelow_n158 rfl rfl rfl (hnw.at 12 rfl) hw2 kd_X0_partBelow ⟨Nat.le_of_ble_eq_true rfl, Nat.le_of_ble_eq_true rfl⟩, hw5, hw6⟩ (preV1 hnw hK hP 2 0 rfl rfl) rfl rfl hl.1 rfl (lv_room (Nat.le_of_ble_eq_true rfl)) dX2_part_56 ⟨Nat.zero_le _, Nat.zero_le _⟩) ?_
        refine lv_iload_n hx hb dX2_part_59 rfl (lv_at hl 3 rfl) ?_
        refine ro_l (va_runS ⟨hx, hb, hml, hown, hts⟩ (c_X2_inLowestTerms l ) (va_cwS 3 hts gX2_part_X2_inLowestTerms rfl rfl rfl kd_X2_inLowestTerms ⟨Nat.le_of_ble_eq_true rfl, Nat.le_of_ble_eq_true rfl⟩) preS0 rfl rfl hl.1 rfl (lv_room (Nat.le_of_ble_eq_true rfl)) dX2_part_60 ⟨Nat.zero_le _, Nat.zero_le _⟩) ?_
        exact W.lret hx hb hr (fun t ht _ => rl (by simp only [o_part, if_pos hC, if_pos c_35]; rw [nI_cl (by omega)]) ht) no_locs dX2_part_63
      · skip
        have c_35 := bI_eq.mp c_35
        refine lv_ldc2 (v := (-101)) hx hb hown hw7 dX2_part_38 ?_
        exact W.lret hx hb hr (fun t ht _ => rl (by simp only [o_part, if_pos hC, if_neg c_35]) ht) no_locs dX2_part_41
    · skip
      have c_22 := bI_eq.mp c_22
      have hC : ¬ ((nI d ≤ a0 ∧ a0 ≤ 10) ∧ (0 ≤ a2 ∧ a2 ≤ 1)) := fun h => c_22 h.2
      refine lv_ldc2 (v := (-102)) hx hb hown hw1 dX2_part_25 ?_
      exact W.lret hx hb hr (fun t ht _ => rl (by simp only [o_part, if_neg hC]) ht) no_locs dX2_part_28
theorem kd_X2_least : yX2_least.cls ≠ "java/lang/invoke/MethodHandle" ∧ yX2_least.cls ≠ "java/lang/invoke/VarHandle" ∧ (parseMethodDescriptor yX2_least.desc).map (fun d => d.parameters.length) = some 0 := by decide +kernel
set_option maxHeartbeats 4000000 in
set_option maxRecDepth 100000 in
theorem c_X2_least (l : Launch) {dC : Nat → ClassId} {dI : Nat → Nat → Nat} {ad : Nat → Nat} {cI cJ : ClassId} {ln : Int32} {fg : Int32} {sc : Int32} {ms : Int32} {mi : Int32} {mv : Int32} {mw : Int32} {st : (Nat → Int64)} {fr : (Nat → Int64)} {sr : (Nat → Int64)} {pa : (Nat → Int64)} {nu : (Nat → Int32)} {d : Nat} (hd : d ≤ 4) : Met l yX2_least wsX2_least ({ frames := 4, cells := 0, slots := 0, locals := 100 }) (va_Pc ([.ref (ad 0)] : List Value) (gB (dC, dI) (tyw cI cJ) (xw ad cI cJ ln fg (nI d) sc ms mi mv mw st fr sr pa nu))) (QcRead (o_least d nu sc (11 - d) d)) 0 0 (fun _ => False) := by
  refine Met.ofW (cc := cX2_least) (maxL := 2) (ret := (some .int)) (by decide) rfl ?_
  intro p e s m args below meth c s₁ B hml hv
  obtain ⟨rfl, hnw, hK, hP⟩ := hv
  have hx := B.exec
  have hb := B.bytes
  have hr := B.returns
  have hts := atoms_spec (ws := wsX2_least) B.pre
  have hown : s.vm.findClass RX2 = some m.cls := findClass_of_methodNamed B.named
  have hlocks := B.notSynchronized
  have hw0 := hts (.fieldLink RX2 19 "BitStreams" "form" "LBitStreams$Form;") (by decide +kernel)
  have hw1 := hts (.initialized RX0) (by decide +kernel)
  have hw2 := hts (.instanceMethod yX0_mayBeMade) (by decide +kernel)
  have hw3 := hts (.selects RX0 yX0_mayBeMade yX0_mayBeMade) (by decide +kernel)
  have inX0 : ∀ w ∈ wsX00, w ∈ wsX2_least := by decide +kernel
  have inX2 : ∀ w ∈ wsX20, w ∈ wsX2_least := by decide +kernel
  have hl := lv_entry ([.ref (ad 0)] : List Value) (n := 2) (Nat.le_of_ble_eq_true rfl)
  rw [lg_entry_eq]
  generalize (lg_sl ([.ref (ad 0)] : List Value) ++ List.replicate (2 - (lg_sl ([.ref (ad 0)] : List Value)).length) Slot.unset).toArray = ls at hl ⊢
  have hl : lv_has ls 2 [(0, .ref (ad 0))] := hl
  refine lv_aload_n hx hb dX2_least_0 rfl (lv_at hl 0 rfl) ?_
  refine va_get (D := (dC, dI)) (ci := 2) (C := RX2) (T := TX2) (N := 10) hx hb hts inX2 hown hK hP 0 rfl rfl 1 (by decide) hw0 (fun _ h9 => h9) rfl dX2_least_1 ?_
  refine va_getN (D := (dC, dI)) (ci := 0) (C := RX0) (T := TX0) (N := 3) hx hb hts inX0 hown hK hP 2 rfl rfl 1 (by decide) (hnw.use 4 rfl) (fun _ h9 => h9) rfl dX2_least_4 ?_
  refine lv_istore_n (lv' := [(1, .int _), (0, .ref _)]) hx hb dX2_least_7 rfl hl (by decide) rfl (fun ls hl => ?_)
  have L8 : ∀ (n8 : Nat) (k : Nat), 12 ≤ k + n8 → (k ≤ 11) → (d ≤ k) → (o_least d nu sc (11 - k) k = o_least d nu sc (11 - d) d) → ∀ (ls : Array Slot), lv_has ls 2 [(0, .ref (ad 0)), (1, .int (nI k))] → W p l e { frames := 4, cells := 0, slots := 0, locals := 100 } s m ([.ref (ad 0)] : List Value).toArray below meth c s.heap [] 0 0 (MQ below (QcRead (o_least d nu sc (11 - d) d)) ([.ref (ad 0)] : List Value).toArray s 0 0 (fun _ => False)) (F0 m 8 ls []) := by
    intro n8
    induction n8 with
    | zero =>
      intro k hf8 hk hk0 he
      exact absurd hf8 (by omega)
    | succ n8 ih8 =>
      intro k hf8 hk hk0 he ls hl
      refine lv_iload_n hx hb dX2_least_8 rfl (lv_at hl 1 rfl) ?_
      refine lv_bipush (v := 10) hx hb dX2_least_9 (by decide) ?_
      refine lv_icmp_gt (tgt := 33) hx hb dX2_least_11 (by decide) (fun c_11 => ?_) (fun c_11 => ?_)
      · skip
        have hz : k = 11 := nI_nlt_end (k := k) (n := 10) (by omega) (by omega) c_11
        refine lv_iconst (v := (-1)) hx hb dX2_least_33 (by decide) ?_
        exact W.iret hx hb hr (fun t ht _ => ri (by rw [← he, hz]; rfl) ht) no_locs dX2_least_34
      · skip
        have hz : k ≤ 10 := nI_nlt_go (k := k) (n := 10) (by omega) (by omega) c_11
        refine lv_aload_n hx hb dX2_least_14 rfl (lv_at hl 0 rfl) ?_
        refine va_get (D := (dC, dI)) (ci := 2) (C := RX2) (T := TX2) (N := 10) hx hb hts inX2 hown hK hP 0 rfl rfl 1 (by decide) hw0 (fun _ h9 => h9) rfl dX2_least_15 ?_
        refine lv_iload_n hx hb dX2_least_18 rfl (lv_at hl 1 rfl) ?_
        refine ro_i (va_runVN ⟨hx, hb, hml, hown, hts⟩ (c_X0_mayBeMade l hd hz) ⟨va_cnB 1 hts gX2_least_X0_mayBeMade_n161 rfl rfl rfl (hnw.at 13 rfl) hw1 kd_X0_mayBeMade ⟨Nat.le_of_ble_eq_true rfl, Nat.le_of_ble_eq_true rfl⟩, hw2, hw3⟩ (preV1 hnw hK hP 2 0 rfl rfl) rfl rfl hl.1 rfl (lv_room (Nat.le_of_ble_eq_true rfl)) dX2_least_19 ⟨Nat.zero_le _, Nat.zero_le _⟩) ?_
        refine lv_if_eq (tgt := 27) hx hb dX2_least_22 (by decide) (fun c_22 => ?_) (fun c_22 => ?_)
        · skip
          have c_22 := bI_eq.mp c_22
          refine lv_iinc (lv' := [(1, .int (nI (k + 1))), (0, .ref _)]) hx hb dX2_least_27 hl (k := 1) rfl (nI_1 _) (by decide) rfl (fun ls hl => ?_)
          refine lv_goto (tgt := 8) hx hb dX2_least_30 (by decide) ?_
          exact ih8 (k + 1) (by omega) (by omega) (by omega) (by rw [← he, show 11 - k = (11 - (k + 1)) + 1 by omega, o_least, if_neg c_22]) ls (lv_sub hl [1, 0] rfl)
        · skip
          have c_22 := bI_ne.mp c_22
          refine lv_iload_n hx hb dX2_least_25 rfl (lv_at hl 1 rfl) ?_
          exact W.iret hx hb hr (fun t ht _ => ri (by rw [← he, show 11 - k = (10 - k) + 1 by omega, o_least, if_pos c_22]) ht) no_locs dX2_least_26
  exact L8 12 d (by omega) (by omega) (by omega) rfl ls (lv_sub hl [1, 0] rfl)
theorem kd_X2_at : yX2_at.cls ≠ "java/lang/invoke/MethodHandle" ∧ yX2_at.cls ≠ "java/lang/invoke/VarHandle" ∧ (parseMethodDescriptor yX2_at.desc).map (fun d => d.parameters.length) = some 1 := by decide +kernel
set_option maxHeartbeats 4000000 in
set_option maxRecDepth 100000 in
theorem c_X2_at (l : Launch) {dC : Nat → ClassId} {dI : Nat → Nat → Nat} {ad : Nat → Nat} {cI cJ : ClassId} {ln : Int32} {fg : Int32} {sc : Int32} {ms : Int32} {mi : Int32} {mv : Int32} {mw : Int32} {st : (Nat → Int64)} {fr : (Nat → Int64)} {sr : (Nat → Int64)} {pa : (Nat → Int64)} {nu : (Nat → Int32)} {a0 : Int32} {d : Nat} (hd : d ≤ 4) : Met l yX2_at wsX2_at ({ frames := 2, cells := 0, slots := 0, locals := 51 }) (va_Pc ([.ref (ad 0), .int a0] : List Value) (gB (dC, dI) (tyw cI cJ) (xw ad cI cJ ln fg (nI d) sc ms mi mv mw st fr sr pa nu))) (QcRead (o_at d nu sc ln a0)) 0 0 (fun _ => False) := by
  refine Met.ofW (cc := cX2_at) (maxL := 2) (ret := (some .int)) (by decide) rfl ?_
  intro p e s m args below meth c s₁ B hml hv
  obtain ⟨rfl, hnw, hK, hP⟩ := hv
  have hx := B.exec
  have hb := B.bytes
  have hr := B.returns
  have hts := atoms_spec (ws := wsX2_at) B.pre
  have hown : s.vm.findClass RX2 = some m.cls := findClass_of_methodNamed B.named
  have hlocks := B.notSynchronized
  have hw0 := hts (.fieldLink RX2 19 "BitStreams" "form" "LBitStreams$Form;") (by decide +kernel)
  have hw1 := hts (.fieldLink RX2 10 "BitStreams" "rows" "LBitStreams$Rows;") (by decide +kernel)
  have hw2 := hts (.initialized RX0) (by decide +kernel)
  have hw3 := hts (.instanceMethod yX0_thousandthsAt) (by decide +kernel)
  have hw4 := hts (.selects RX0 yX0_thousandthsAt yX0_thousandthsAt) (by decide +kernel)
  have hw5 := hts (.constant RX2 164 (-1000000000)) (by decide +kernel)
  have inX1 : ∀ w ∈ wsX10, w ∈ wsX2_at := by decide +kernel
  have inX2 : ∀ w ∈ wsX20, w ∈ wsX2_at := by decide +kernel
  have hl := lv_entry ([.ref (ad 0), .int a0] : List Value) (n := 2) (Nat.le_of_ble_eq_true rfl)
  rw [lg_entry_eq]
  generalize (lg_sl ([.ref (ad 0), .int a0] : List Value) ++ List.replicate (2 - (lg_sl ([.ref (ad 0), .int a0] : List Value)).length) Slot.unset).toArray = ls at hl ⊢
  have hl : lv_has ls 2 [(0, .ref (ad 0)), (1, .int a0)] := hl
  refine lv_aload_n hx hb dX2_at_0 rfl (lv_at hl 0 rfl) ?_
  refine lv_iload_n hx hb dX2_at_1 rfl (lv_at hl 1 rfl) ?_
  refine ro_i (va_runV ⟨hx, hb, hml, hown, hts⟩ (c_X2_isValue l ) (cwV 1 hts gX2_at_X2_isValue rfl rfl rfl ⟨rfl, kd_X2_isValue⟩ ⟨Nat.le_of_ble_eq_true rfl, Nat.le_of_ble_eq_true rfl⟩) (preV1 hnw hK hP 0 2 rfl rfl) rfl rfl hl.1 rfl (lv_room (Nat.le_of_ble_eq_true rfl)) dX2_at_2 ⟨Nat.zero_le _, Nat.zero_le _⟩) ?_
  refine lv_if_ne (tgt := 11) hx hb dX2_at_5 (by decide) (fun c_5 => ?_) (fun c_5 => ?_)
  · skip
    have c_5 := bI_ne.mp c_5
    refine lv_aload_n hx hb dX2_at_11 rfl (lv_at hl 0 rfl) ?_
    refine va_get (D := (dC, dI)) (ci := 2) (C := RX2) (T := TX2) (N := 10) hx hb hts inX2 hown hK hP 0 rfl rfl 1 (by decide) hw0 (fun _ h9 => h9) rfl dX2_at_12 ?_
    refine lv_iload_n hx hb dX2_at_15 rfl (lv_at hl 1 rfl) ?_
    refine lv_aload_n hx hb dX2_at_16 rfl (lv_at hl 0 rfl) ?_
    refine va_get (D := (dC, dI)) (ci := 2) (C := RX2) (T := TX2) (N := 10) hx hb hts inX2 hown hK hP 0 rfl rfl 0 (by decide) hw1 (fun _ h9 => h9) rfl dX2_at_17 ?_
    refine va_getN (D := (dC, dI)) (ci := 1) (C := RX1) (T := TX1) (N := 2) hx hb hts inX1 hown hK hP 1 rfl rfl 0 (by decide) (hnw.use 1 rfl) (fun _ h9 => h9) rfl dX2_at_20 ?_
    refine ro_i (va_runVN ⟨hx, hb, hml, hown, hts⟩ (c_X0_thousandthsAt l hd) ⟨va_cnB 2 hts gX2_at_X0_thousandthsAt_n165 rfl rfl rfl (hnw.at 14 rfl) hw2 kd_X0_thousandthsAt ⟨Nat.le_of_ble_eq_true rfl, Nat.le_of_ble_eq_true rfl⟩, hw3, hw4⟩ (preV1 hnw hK hP 2 0 rfl rfl) rfl rfl hl.1 rfl (lv_room (Nat.le_of_ble_eq_true rfl)) dX2_at_23 ⟨Nat.zero_le _, Nat.zero_le _⟩) ?_
    exact W.iret hx hb hr (fun t ht _ => ri (by simp only [o_at, if_pos c_5]) ht) no_locs dX2_at_26
  · skip
    have c_5 := bI_eq.mp c_5
    refine lv_ldc (v := (-1000000000)) hx hb hown hw5 dX2_at_8 ?_
    exact W.iret hx hb hr (fun t ht _ => ri (by simp only [o_at, if_neg c_5]) ht) no_locs dX2_at_10
theorem kd_X2_make : yX2_make.cls ≠ "java/lang/invoke/MethodHandle" ∧ yX2_make.cls ≠ "java/lang/invoke/VarHandle" ∧ (parseMethodDescriptor yX2_make.desc).map (fun d => d.parameters.length) = some 4 := by decide +kernel
set_option maxHeartbeats 4000000 in
set_option maxRecDepth 100000 in
theorem c_X2_make (l : Launch) {dC : Nat → ClassId} {dI : Nat → Nat → Nat} {ad : Nat → Nat} {cI cJ : ClassId} {ln : Int32} {fg : Int32} {sc : Int32} {ms : Int32} {mi : Int32} {mv : Int32} {mw : Int32} {st : (Nat → Int64)} {fr : (Nat → Int64)} {sr : (Nat → Int64)} {pa : (Nat → Int64)} {nu : (Nat → Int32)} {sz : Nat} {a0 a1 a2 a3 : Int32} {d : Nat} (hd : d ≤ 4) : Met l yX2_make wsX2_make ({ frames := 4, cells := 0, slots := 0, locals := 100 }) (va_Pc ([.ref (ad 0), .int a0, .int a1, .int a2, .int a3] : List Value) (gW sz (dC, dI) (tyw cI cJ) (xw ad cI cJ ln fg (nI d) sc ms mi mv mw st fr sr pa nu))) (va_Qi (fun r (u : (Nat → Int64)) => r = (o_make d ln fg sc nu st a0 a1 a2 a3).1) (fun u t => va_P (dC, dI) vwCl (xw ad cI cJ ln fg (nI d) sc ms mi mv mw (o_make d ln fg sc nu st a0 a1 a2 a3).2 fr sr u nu) t.heap) (va_A (xw ad cI cJ ln fg (nI d) sc ms mi mv mw st fr sr pa nu) sz)) 0 0 (va_A (xw ad cI cJ ln fg (nI d) sc ms mi mv mw st fr sr pa nu) sz) := by
  refine Met.ofW (cc := cX2_make) (maxL := 6) (ret := (some .int)) (by decide) rfl ?_
  intro p e s m args below meth c s₁ B hml hv
  obtain ⟨rfl, hsz, ⟨hnw, hK, hP⟩, hD0⟩ := hv
  have hx := B.exec
  have hb := B.bytes
  have hr := B.returns
  have hts := atoms_spec (ws := wsX2_make) B.pre
  have hown : s.vm.findClass RX2 = some m.cls := findClass_of_methodNamed B.named
  have hlocks := B.notSynchronized
  subst hsz
  have hD := hD0.self (sz := s.heap.size)
  generalize hAe : va_A (xw ad cI cJ ln fg (nI d) sc ms mi mv mw st fr sr pa nu) s.heap.size = A at hD ⊢
  have hA : ∀ q : Nat, s.heap.size ≤ q → A q := fun q h => by rw [← hAe]; exact Or.inr h
  have hS : va_S A s.heap s.heap [] := va_S.rf
  have hw0 := hts (.fieldLink RX2 19 "BitStreams" "form" "LBitStreams$Form;") (by decide +kernel)
  have hw1 := hts (.initialized RX0) (by decide +kernel)
  have hw2 := hts (.instanceMethod yX0_mayBeMade) (by decide +kernel)
  have hw3 := hts (.selects RX0 yX0_mayBeMade yX0_mayBeMade) (by decide +kernel)
  have hw4 := hts (.fieldLink RX2 10 "BitStreams" "rows" "LBitStreams$Rows;") (by decide +kernel)
  have hw5 := hts (.initialized RX1) (by decide +kernel)
  have hw6 := hts (.instanceMethod yX1_ofSource) (by decide +kernel)
  have hw7 := hts (.selects RX1 yX1_ofSource yX1_ofSource) (by decide +kernel)
  have hw8 := hts (.fieldLink RX2 33 "BitStreams" "parts" "[J") (by decide +kernel)
  have hw9 := hts (.instanceMethod yX0_partAbove) (by decide +kernel)
  have hw10 := hts (.selects RX0 yX0_partAbove yX0_partAbove) (by decide +kernel)
  have inX0 : ∀ w ∈ wsX00, w ∈ wsX2_make := by decide +kernel
  have inX2 : ∀ w ∈ wsX20, w ∈ wsX2_make := by decide +kernel
  have hl := lv_entry ([.ref (ad 0), .int a0, .int a1, .int a2, .int a3] : List Value) (n := 6) (Nat.le_of_ble_eq_true rfl)
  rw [lg_entry_eq]
  generalize (lg_sl ([.ref (ad 0), .int a0, .int a1, .int a2, .int a3] : List Value) ++ List.replicate (6 - (lg_sl ([.ref (ad 0), .int a0, .int a1, .int a2, .int a3] : List Value)).length) Slot.unset).toArray = ls at hl ⊢
  have hl : lv_has ls 6 [(0, .ref (ad 0)), (1, .int a0), (2, .int a1), (3, .int a2), (4, .int a3)] := hl
  refine lv_iload_n hx hb dX2_make_0 rfl (lv_at hl 1 rfl) ?_
  refine ro_i (va_runS ⟨hx, hb, hml, hown, hts⟩ (c_X2_isStream l ) (va_cwS 1 hts gX2_make_X2_isStream rfl rfl rfl kd_X2_isStream ⟨Nat.le_of_ble_eq_true rfl, Nat.le_of_ble_eq_true rfl⟩) preS0 rfl rfl hl.1 rfl (lv_room (Nat.le_of_ble_eq_true rfl)) dX2_make_1 ⟨Nat.zero_le _, Nat.zero_le _⟩) ?_
  refine lv_if_ne (tgt := 10) hx hb dX2_make_4 (by decide) (fun c_4 => ?_) (fun c_4 => ?_)
  · skip
    have c_4 := bI_ne.mp c_4
    refine lv_iload_n hx hb dX2_make_10 rfl (lv_at hl 2 rfl) ?_
    refine ro_i (va_runS ⟨hx, hb, hml, hown, hts⟩ (c_X2_isSource l ) (va_cwS 1 hts gX2_make_X2_isSource rfl rfl rfl kd_X2_isSource ⟨Nat.le_of_ble_eq_true rfl, Nat.le_of_ble_eq_true rfl⟩) preS0 rfl rfl hl.1 rfl (lv_room (Nat.le_of_ble_eq_true rfl)) dX2_make_11 ⟨Nat.zero_le _, Nat.zero_le _⟩) ?_
    refine lv_if_eq (tgt := 42) hx hb dX2_make_14 (by decide) (fun c_14 => ?_) (fun c_14 => ?_)
    · skip
      have c_14 := bI_eq.mp c_14
      have hC : ¬ (srcs a1 ∧ (0 ≤ a2 ∧ a2 ≤ ln) ∧ (nI d ≤ a3 ∧ a3 ≤ 10)) := fun h => c_14 h.1
      refine lv_bipush (v := (-102)) hx hb dX2_make_42 (by decide) ?_
      simp only [o_make, if_pos c_4, if_neg hC]
      exact W.iret hx hb hr (fun t ht _ => ⟨⟨_, pa, rfl, rfl, wpost ht hP⟩, hS.F ht⟩) hS.2.2 dX2_make_44
    · skip
      have c_14 := bI_ne.mp c_14
      refine lv_aload_n hx hb dX2_make_17 rfl (lv_at hl 0 rfl) ?_
      refine lv_iload_n hx hb dX2_make_18 rfl (lv_at hl 3 rfl) ?_
      refine ro_i (va_runV ⟨hx, hb, hml, hown, hts⟩ (c_X2_isValue l ) (cwV 1 hts gX2_make_X2_isValue rfl rfl rfl ⟨rfl, kd_X2_isValue⟩ ⟨Nat.le_of_ble_eq_true rfl, Nat.le_of_ble_eq_true rfl⟩) (preV1 hnw hK hP 0 2 rfl rfl) rfl rfl hl.1 rfl (lv_room (Nat.le_of_ble_eq_true rfl)) dX2_make_19 ⟨Nat.zero_le _, Nat.zero_le _⟩) ?_
      refine lv_if_eq (tgt := 42) hx hb dX2_make_22 (by decide) (fun c_22 => ?_) (fun c_22 => ?_)
      · skip
        have c_22 := bI_eq.mp c_22
        have hC : ¬ (srcs a1 ∧ (0 ≤ a2 ∧ a2 ≤ ln) ∧ (nI d ≤ a3 ∧ a3 ≤ 10)) := fun h => c_22 h.2.1
        refine lv_bipush (v := (-102)) hx hb dX2_make_42 (by decide) ?_
        simp only [o_make, if_pos c_4, if_neg hC]
        exact W.iret hx hb hr (fun t ht _ => ⟨⟨_, pa, rfl, rfl, wpost ht hP⟩, hS.F ht⟩) hS.2.2 dX2_make_44
      · skip
        have c_22 := bI_ne.mp c_22
        refine lv_iload hx hb dX2_make_25 (lv_at hl 4 rfl) ?_
        refine lv_aload_n hx hb dX2_make_27 rfl (lv_at hl 0 rfl) ?_
        refine va_get (D := (dC, dI)) (ci := 2) (C := RX2) (T := TX2) (N := 10) hx hb hts inX2 hown hK hP 0 rfl rfl 1 (by decide) hw0 (fun _ h9 => h9) rfl dX2_make_28 ?_
        refine va_getN (D := (dC, dI)) (ci := 0) (C := RX0) (T := TX0) (N := 3) hx hb hts inX0 hown hK hP 2 rfl rfl 1 (by decide) (hnw.use 4 rfl) (fun _ h9 => h9) rfl dX2_make_31 ?_
        refine lv_bipush (v := 10) hx hb dX2_make_34 (by decide) ?_
        refine ro_i (va_runS ⟨hx, hb, hml, hown, hts⟩ (c_X2_isWithin l ) (va_cwS 3 hts gX2_make_X2_isWithin rfl rfl rfl kd_X2_isWithin ⟨Nat.le_of_ble_eq_true rfl, Nat.le_of_ble_eq_true rfl⟩) preS0 rfl rfl hl.1 rfl (lv_room (Nat.le_of_ble_eq_true rfl)) dX2_make_36 ⟨Nat.zero_le _, Nat.zero_le _⟩) ?_
        refine lv_if_ne (tgt := 45) hx hb dX2_make_39 (by decide) (fun c_39 => ?_) (fun c_39 => ?_)
        · skip
          have c_39 := bI_ne.mp c_39
          have hC : (srcs a1 ∧ (0 ≤ a2 ∧ a2 ≤ ln) ∧ (nI d ≤ a3 ∧ a3 ≤ 10)) := ⟨c_14, c_22, c_39⟩
          obtain ⟨mm, -, hmm, em⟩ := rng_nat (a := d) (b := 10) (by omega) (by omega) c_39
          subst em
          refine lv_aload_n hx hb dX2_make_45 rfl (lv_at hl 0 rfl) ?_
          refine va_get (D := (dC, dI)) (ci := 2) (C := RX2) (T := TX2) (N := 10) hx hb hts inX2 hown hK hP 0 rfl rfl 1 (by decide) hw0 (fun _ h9 => h9) rfl dX2_make_46 ?_
          refine lv_iload hx hb dX2_make_49 (lv_at hl 4 rfl) ?_
          refine ro_i (va_runVN ⟨hx, hb, hml, hown, hts⟩ (c_X0_mayBeMade l hd hmm) ⟨va_cnB 1 hts gX2_make_X0_mayBeMade_n161 rfl rfl rfl (hnw.at 13 rfl) hw1 kd_X0_mayBeMade ⟨Nat.le_of_ble_eq_true rfl, Nat.le_of_ble_eq_true rfl⟩, hw2, hw3⟩ (preV1 hnw hK hP 2 0 rfl rfl) rfl rfl hl.1 rfl (lv_room (Nat.le_of_ble_eq_true rfl)) dX2_make_51 ⟨Nat.zero_le _, Nat.zero_le _⟩) ?_
          refine lv_if_ne (tgt := 60) hx hb dX2_make_54 (by decide) (fun c_54 => ?_) (fun c_54 => ?_)
          · skip
            have c_54 := bI_ne.mp c_54
            refine lv_iconst (v := 0) hx hb dX2_make_60 (by decide) ?_
            refine lv_istore (lv' := [(5, .int _), (0, .ref _), (1, .int _), (2, .int _), (3, .int _), (4, .int _)]) hx hb dX2_make_61 hl (by decide) rfl (fun ls hl => ?_)
            have L63 : ∀ (n63 : Nat) (j : Nat) (x : Nat → Int64), mm + 2 ≤ j + n63 → (j ≤ mm + 1) → (∀ i, i < j → x i = f_up d nu (nI mm) i) → ∀ (H : Heap) (locs : List Loc), va_P (dC, dI) vwCl (xw ad cI cJ ln fg (nI d) sc ms mi mv mw st fr sr x nu) H → va_S A s.heap H locs → ∀ (ls : Array Slot), lv_has ls 6 [(0, .ref (ad 0)), (1, .int a0), (2, .int a1), (3, .int a2), (4, .int (nI mm)), (5, .int (nI j))] → W p l e { frames := 4, cells := 0, slots := 0, locals := 100 } s m ([.ref (ad 0), .int a0, .int a1, .int a2, .int (nI mm)] : List Value).toArray below meth c H locs 0 0 (MQ below (va_Qi (fun r (u : (Nat → Int64)) => r = (o_make d ln fg sc nu st a0 a1 a2 (nI mm)).1) (fun u t => va_P (dC, dI) vwCl (xw ad cI cJ ln fg (nI d) sc ms mi mv mw (o_make d ln fg sc nu st a0 a1 a2 (nI mm)).2 fr sr u nu) t.heap) A) ([.ref (ad 0), .int a0, .int a1, .int a2, .int (nI mm)] : List Value).toArray s 0 0 (A)) (F0 m 63 ls []) := by
              intro n63
              induction n63 with
              | zero =>
                intro j x hf63 hj hx1
                exact absurd hf63 (by omega)
              | succ n63 ih63 =>
                intro j x hf63 hj hx1 H locs hP hS ls hl
                have hD : va_D A (xw ad cI cJ ln fg (nI d) sc ms mi mv mw st fr sr x nu) := va_D_addr hD rfl
                refine lv_iload hx hb dX2_make_63 (lv_at hl 5 rfl) ?_
                refine lv_iload hx hb dX2_make_65 (lv_at hl 4 rfl) ?_
                refine lv_icmp_gt (tgt := 94) hx hb dX2_make_67 (by decide) (fun c_67 => ?_) (fun c_67 => ?_)
                · skip
                  have hz := nI_nlt_end hj (by omega) c_67
                  refine lv_aload_n hx hb dX2_make_94 rfl (lv_at hl 0 rfl) ?_
                  refine lv_iload_n hx hb dX2_make_95 rfl (lv_at hl 1 rfl) ?_
                  refine lv_aload_n hx hb dX2_make_96 rfl (lv_at hl 0 rfl) ?_
                  refine lv_aload_n hx hb dX2_make_97 rfl (lv_at hl 0 rfl) ?_
                  refine va_get (D := (dC, dI)) (ci := 2) (C := RX2) (T := TX2) (N := 10) hx hb hts inX2 hown hK hP 0 rfl rfl 0 (by decide) hw4 (fun _ h9 => h9) rfl dX2_make_98 ?_
                  refine lv_iload_n hx hb dX2_make_101 rfl (lv_at hl 2 rfl) ?_
                  refine lv_iload_n hx hb dX2_make_102 rfl (lv_at hl 3 rfl) ?_
                  refine ro_l (va_runVN ⟨hx, hb, hml, hown, hts⟩ (c_X1_ofSource l ) ⟨va_cnB 2 hts gX2_make_X1_ofSource_n66 rfl rfl rfl (hnw.at 7 rfl) hw5 kd_X1_ofSource ⟨Nat.le_of_ble_eq_true rfl, Nat.le_of_ble_eq_true rfl⟩, hw6, hw7⟩ (preV1 hnw hK hP 1 1 rfl rfl) rfl rfl hl.1 rfl (lv_room (Nat.le_of_ble_eq_true rfl)) dX2_make_103 ⟨Nat.zero_le _, Nat.zero_le _⟩) ?_
                  refine lv_iload hx hb dX2_make_106 (lv_at hl 4 rfl) ?_
                  refine ro_l (va_runV ⟨hx, hb, hml, hown, hts⟩ (c_X2_formed l hd hmm) (cwV 2 hts gX2_make_X2_formed rfl rfl rfl ⟨rfl, kd_X2_formed⟩ ⟨Nat.le_of_ble_eq_true rfl, Nat.le_of_ble_eq_true rfl⟩) (preV1 hnw hK hP 0 2 rfl rfl) rfl rfl hl.1 rfl (lv_room (Nat.le_of_ble_eq_true rfl)) dX2_make_108 ⟨Nat.zero_le _, Nat.zero_le _⟩) ?_
                  refine st_l (v := f_form ln fg (fun j => f_up d nu (nI mm) j) (f_pb d sc (nI mm)) (f_src ln fg a1 a2) mm ln.toNatClampNeg) (f_form_cong (by omega) (fun i h => hx1 i (by omega)) _) ?_
                  refine wr_i (va_runV ⟨hx, hb, hml, hown, hts⟩ (c_X2_setStream l (strm_in c_4)) (cwV 2 hts gX2_make_X2_setStream rfl rfl rfl ⟨rfl, kd_X2_setStream⟩ ⟨Nat.le_of_ble_eq_true rfl, Nat.le_of_ble_eq_true rfl⟩) (preV2 hnw hK hP hD 0 2 rfl rfl) rfl rfl hl.1 rfl (lv_room (Nat.le_of_ble_eq_true rfl)) dX2_make_111 ⟨Nat.zero_le _, Nat.zero_le _⟩) hD hS hA (fun _ => rfl) (fun r_111 u_111 H locs h_111 hP hD hS => ?_)
                  have hP : va_P (dC, dI) vwCl (xw ad cI cJ ln fg (nI d) sc ms mi mv mw _ fr sr x nu) H := hP
                  have hD : va_D A (xw ad cI cJ ln fg (nI d) sc ms mi mv mw _ fr sr x nu) := va_D_addr hD rfl
                  subst h_111
                  have c_54 : f_may d nu sc (nI mm).toNatClampNeg := by rw [nI_cl (by omega)]; exact c_54
                  simp only [o_make, if_pos c_4, if_pos hC, if_pos c_54, o_set]
                  rw [show (nI mm).toNatClampNeg = mm from nI_cl (by omega)]
                  exact W.iret hx hb hr (fun t ht _ => ⟨⟨_, x, rfl, rfl, wpost ht hP⟩, hS.F ht⟩) hS.2.2 dX2_make_114
                · skip
                  have hz := nI_nlt_go hj (by omega) c_67
                  refine lv_aload_n hx hb dX2_make_70 rfl (lv_at hl 0 rfl) ?_
                  refine va_get (D := (dC, dI)) (ci := 2) (C := RX2) (T := TX2) (N := 10) hx hb hts inX2 hown hK hP 0 rfl rfl 5 (by decide) hw8 (fun _ h9 => h9) rfl dX2_make_71 ?_
                  refine lv_iload hx hb dX2_make_74 (lv_at hl 5 rfl) ?_
                  refine lv_aload_n hx hb dX2_make_76 rfl (lv_at hl 0 rfl) ?_
                  refine va_get (D := (dC, dI)) (ci := 2) (C := RX2) (T := TX2) (N := 10) hx hb hts inX2 hown hK hP 0 rfl rfl 1 (by decide) hw0 (fun _ h9 => h9) rfl dX2_make_77 ?_
                  refine lv_iload hx hb dX2_make_80 (lv_at hl 4 rfl) ?_
                  refine lv_iload hx hb dX2_make_82 (lv_at hl 5 rfl) ?_
                  refine ro_l (va_runVN ⟨hx, hb, hml, hown, hts⟩ (c_X0_partAbove l hd (by omega)) ⟨va_cnB 2 hts gX2_make_X0_partAbove_n155 rfl rfl rfl (hnw.at 11 rfl) hw1 kd_X0_partAbove ⟨Nat.le_of_ble_eq_true rfl, Nat.le_of_ble_eq_true rfl⟩, hw9, hw10⟩ (preV1 hnw hK hP 2 0 rfl rfl) rfl rfl hl.1 rfl (lv_room (Nat.le_of_ble_eq_true rfl)) dX2_make_84 ⟨Nat.zero_le _, Nat.zero_le _⟩) ?_
                  refine va_last hx hb hK hP hD hS 6 1 rfl rfl (vp_in_nI (by omega) (by omega)) dX2_make_87 (fun H locs hP hD hS => ?_)
                  have hP : va_P (dC, dI) vwCl (xw ad cI cJ ln fg (nI d) sc ms mi mv mw st fr sr _ nu) H := hP
                  have hD : va_D A (xw ad cI cJ ln fg (nI d) sc ms mi mv mw st fr sr _ nu) := va_D_addr hD rfl
                  refine lv_iinc (lv' := [(5, .int (nI (j + 1))), (0, .ref _), (1, .int _), (2, .int _), (3, .int _), (4, .int _)]) hx hb dX2_make_88 hl (k := 5) rfl (nI_1 _) (by decide) rfl (fun ls hl => ?_)
                  refine lv_goto (tgt := 63) hx hb dX2_make_91 (by decide) ?_
                  exact ih63 (j + 1) _ (by omega) (by omega) (fun i h => by rw [nI_cl (by omega)]; exact fill_step hx1 i h) _ _ hP hS ls (lv_sub hl [1, 2, 3, 4, 5, 0] rfl)
            exact L63 (mm + 2) 0 pa (by omega) (Nat.zero_le _) (fun i h => absurd h (Nat.not_lt_zero i)) _ _ hP hS ls (lv_sub hl [1, 2, 3, 4, 5, 0] rfl)
          · skip
            have c_54 := bI_eq.mp c_54
            refine lv_bipush (v := (-103)) hx hb dX2_make_57 (by decide) ?_
            have c_54 : ¬ f_may d nu sc (nI mm).toNatClampNeg := by rw [nI_cl (by omega)]; exact c_54
            simp only [o_make, if_pos c_4, if_pos hC, if_neg c_54]
            exact W.iret hx hb hr (fun t ht _ => ⟨⟨_, pa, rfl, rfl, wpost ht hP⟩, hS.F ht⟩) hS.2.2 dX2_make_59
        · skip
          have c_39 := bI_eq.mp c_39
          have hC : ¬ (srcs a1 ∧ (0 ≤ a2 ∧ a2 ≤ ln) ∧ (nI d ≤ a3 ∧ a3 ≤ 10)) := fun h => c_39 h.2.2
          refine lv_bipush (v := (-102)) hx hb dX2_make_42 (by decide) ?_
          simp only [o_make, if_pos c_4, if_neg hC]
          exact W.iret hx hb hr (fun t ht _ => ⟨⟨_, pa, rfl, rfl, wpost ht hP⟩, hS.F ht⟩) hS.2.2 dX2_make_44
  · skip
    have c_4 := bI_eq.mp c_4
    refine lv_bipush (v := (-101)) hx hb dX2_make_7 (by decide) ?_
    simp only [o_make, if_neg c_4]
    exact W.iret hx hb hr (fun t ht _ => ⟨⟨_, pa, rfl, rfl, wpost ht hP⟩, hS.F ht⟩) hS.2.2 dX2_make_9
theorem kd_X2_count : yX2_count.cls ≠ "java/lang/invoke/MethodHandle" ∧ yX2_count.cls ≠ "java/lang/invoke/VarHandle" ∧ (parseMethodDescriptor yX2_count.desc).map (fun d => d.parameters.length) = some 1 := by decide +kernel
set_option maxHeartbeats 4000000 in
set_option maxRecDepth 100000 in
theorem c_X2_count (l : Launch) {dC : Nat → ClassId} {dI : Nat → Nat → Nat} {ad : Nat → Nat} {cI cJ : ClassId} {ln : Int32} {fg : Int32} {dg : Int32} {sc : Int32} {ms : Int32} {mi : Int32} {mv : Int32} {mw : Int32} {st : (Nat → Int64)} {fr : (Nat → Int64)} {sr : (Nat → Int64)} {pa : (Nat → Int64)} {nu : (Nat → Int32)} {a0 : Int32} : Met l yX2_count wsX2_count ({ frames := 0, cells := 0, slots := 0, locals := 0 }) (va_Pc ([.ref (ad 0), .int a0] : List Value) (gB (dC, dI) (tyw cI cJ) (xw ad cI cJ ln fg dg sc ms mi mv mw st fr sr pa nu))) (QcRead (o_count ln dg sc mi a0)) 0 0 (fun _ => False) := by
  refine Met.ofW (cc := cX2_count) (maxL := 2) (ret := (some .int)) (by decide) rfl ?_
  intro p e s m args below meth c s₁ B hml hv
  obtain ⟨rfl, hnw, hK, hP⟩ := hv
  have hx := B.exec
  have hb := B.bytes
  have hr := B.returns
  have hts := atoms_spec (ws := wsX2_count) B.pre
  have hown : s.vm.findClass RX2 = some m.cls := findClass_of_methodNamed B.named
  have hlocks := B.notSynchronized
  have hw0 := hts (.fieldLink RX2 10 "BitStreams" "rows" "LBitStreams$Rows;") (by decide +kernel)
  have hw1 := hts (.fieldLink RX2 19 "BitStreams" "form" "LBitStreams$Form;") (by decide +kernel)
  have hw2 := hts (.fieldLink RX2 40 "BitStreams" "misses" "I") (by decide +kernel)
  have inX0 : ∀ w ∈ wsX00, w ∈ wsX2_count := by decide +kernel
  have inX1 : ∀ w ∈ wsX10, w ∈ wsX2_count := by decide +kernel
  have inX2 : ∀ w ∈ wsX20, w ∈ wsX2_count := by decide +kernel
  have hl := lv_entry ([.ref (ad 0), .int a0] : List Value) (n := 2) (Nat.le_of_ble_eq_true rfl)
  rw [lg_entry_eq]
  generalize (lg_sl ([.ref (ad 0), .int a0] : List Value) ++ List.replicate (2 - (lg_sl ([.ref (ad 0), .int a0] : List Value)).length) Slot.unset).toArray = ls at hl ⊢
  have hl : lv_has ls 2 [(0, .ref (ad 0)), (1, .int a0)] := hl
  refine lv_iload_n hx hb dX2_count_0 rfl (lv_at hl 1 rfl) ?_
  refine lv_topi (fun z_1 e_1 => ?_)
  by_cases n_1_0 : z_1 = 0
  · subst n_1_0
    refine lv_tableIn (off := 31) (tgt := 32) hx hb dX2_count_1 (by decide) (by decide) (by decide) (by decide) ?_
    refine lv_aload_n hx hb dX2_count_32 rfl (lv_at hl 0 rfl) ?_
    refine va_get (D := (dC, dI)) (ci := 2) (C := RX2) (T := TX2) (N := 10) hx hb hts inX2 hown hK hP 0 rfl rfl 0 (by decide) hw0 (fun _ h9 => h9) rfl dX2_count_33 ?_
    refine va_getN (D := (dC, dI)) (ci := 1) (C := RX1) (T := TX1) (N := 2) hx hb hts inX1 hown hK hP 1 rfl rfl 0 (by decide) (hnw.use 1 rfl) (fun _ h9 => h9) rfl dX2_count_36 ?_
    exact W.iret hx hb hr (fun t ht _ => ri (by rw [← e_1]; first | rfl | (unfold o_count; rw [if_neg n_1_0, if_neg n_1_1, if_neg n_1_2, if_neg n_1_3])) ht) no_locs dX2_count_39
  by_cases n_1_1 : z_1 = 1
  · subst n_1_1
    refine lv_tableIn (off := 39) (tgt := 40) hx hb dX2_count_1 (by decide) (by decide) (by decide) (by decide) ?_
    refine lv_aload_n hx hb dX2_count_40 rfl (lv_at hl 0 rfl) ?_
    refine va_get (D := (dC, dI)) (ci := 2) (C := RX2) (T := TX2) (N := 10) hx hb hts inX2 hown hK hP 0 rfl rfl 1 (by decide) hw1 (fun _ h9 => h9) rfl dX2_count_41 ?_
    refine va_getN (D := (dC, dI)) (ci := 0) (C := RX0) (T := TX0) (N := 3) hx hb hts inX0 hown hK hP 2 rfl rfl 1 (by decide) (hnw.use 4 rfl) (fun _ h9 => h9) rfl dX2_count_44 ?_
    exact W.iret hx hb hr (fun t ht _ => ri (by rw [← e_1]; first | rfl | (unfold o_count; rw [if_neg n_1_0, if_neg n_1_1, if_neg n_1_2, if_neg n_1_3])) ht) no_locs dX2_count_47
  by_cases n_1_2 : z_1 = 2
  · subst n_1_2
    refine lv_tableIn (off := 47) (tgt := 48) hx hb dX2_count_1 (by decide) (by decide) (by decide) (by decide) ?_
    refine lv_aload_n hx hb dX2_count_48 rfl (lv_at hl 0 rfl) ?_
    refine va_get (D := (dC, dI)) (ci := 2) (C := RX2) (T := TX2) (N := 10) hx hb hts inX2 hown hK hP 0 rfl rfl 1 (by decide) hw1 (fun _ h9 => h9) rfl dX2_count_49 ?_
    refine va_getN (D := (dC, dI)) (ci := 0) (C := RX0) (T := TX0) (N := 3) hx hb hts inX0 hown hK hP 2 rfl rfl 2 (by decide) (hnw.use 5 rfl) (fun _ h9 => h9) rfl dX2_count_52 ?_
    exact W.iret hx hb hr (fun t ht _ => ri (by rw [← e_1]; first | rfl | (unfold o_count; rw [if_neg n_1_0, if_neg n_1_1, if_neg n_1_2, if_neg n_1_3])) ht) no_locs dX2_count_55
  by_cases n_1_3 : z_1 = 3
  · subst n_1_3
    refine lv_tableIn (off := 55) (tgt := 56) hx hb dX2_count_1 (by decide) (by decide) (by decide) (by decide) ?_
    refine lv_aload_n hx hb dX2_count_56 rfl (lv_at hl 0 rfl) ?_
    refine va_get (D := (dC, dI)) (ci := 2) (C := RX2) (T := TX2) (N := 10) hx hb hts inX2 hown hK hP 0 rfl rfl 7 (by decide) hw2 (fun _ h9 => h9) rfl dX2_count_57 ?_
    exact W.iret hx hb hr (fun t ht _ => ri (by rw [← e_1]; first | rfl | (unfold o_count; rw [if_neg n_1_0, if_neg n_1_1, if_neg n_1_2, if_neg n_1_3])) ht) no_locs dX2_count_60
  have nb_1 : z_1.toInt < 0 ∨ 3 < z_1.toInt := by
    have q0 := lv_neT (a := 0) n_1_0 (by decide)
    have q1 := lv_neT (a := 1) n_1_1 (by decide)
    have q2 := lv_neT (a := 2) n_1_2 (by decide)
    have q3 := lv_neT (a := 3) n_1_3 (by decide)
    omega
  refine lv_tableOut (tgt := 61) hx hb dX2_count_1 nb_1 (by decide) ?_
  refine lv_bipush (v := (-102)) hx hb dX2_count_61 (by decide) ?_
  exact W.iret hx hb hr (fun t ht _ => ri (by rw [← e_1]; first | rfl | (unfold o_count; rw [if_neg n_1_0, if_neg n_1_1, if_neg n_1_2, if_neg n_1_3])) ht) no_locs dX2_count_63
theorem kd_X2_digest : yX2_digest.cls ≠ "java/lang/invoke/MethodHandle" ∧ yX2_digest.cls ≠ "java/lang/invoke/VarHandle" ∧ (parseMethodDescriptor yX2_digest.desc).map (fun d => d.parameters.length) = some 0 := by decide +kernel
set_option maxHeartbeats 4000000 in
set_option maxRecDepth 100000 in
theorem c_X2_digest (l : Launch) {dC : Nat → ClassId} {dI : Nat → Nat → Nat} {ad : Nat → Nat} {cI cJ : ClassId} {ln : Int32} {fg : Int32} {dg : Int32} {sc : Int32} {ms : Int32} {mi : Int32} {mv : Int32} {mw : Int32} {st : (Nat → Int64)} {fr : (Nat → Int64)} {sr : (Nat → Int64)} {pa : (Nat → Int64)} {nu : (Nat → Int32)}  : Met l yX2_digest wsX2_digest ({ frames := 1, cells := 0, slots := 0, locals := 21 }) (va_Pc ([.ref (ad 0)] : List Value) (gB (dC, dI) (tyw cI cJ) (xw ad cI cJ ln fg dg sc ms mi mv mw st fr sr pa nu))) (qL (o_digest ln dg sc ms mi st nu)) 0 0 (fun _ => False) := by
  refine Met.ofW (cc := cX2_digest) (maxL := 4) (ret := (some .long)) (by decide) rfl ?_
  intro p e s m args below meth c s₁ B hml hv
  obtain ⟨rfl, hnw, hK, hP⟩ := hv
  have hx := B.exec
  have hb := B.bytes
  have hr := B.returns
  have hts := atoms_spec (ws := wsX2_digest) B.pre
  have hown : s.vm.findClass RX2 = some m.cls := findClass_of_methodNamed B.named
  have hlocks := B.notSynchronized
  have hw0 := hts (.constantLong RX2 174 (4867)) (by decide +kernel)
  have hw1 := hts (.fieldLink RX2 10 "BitStreams" "rows" "LBitStreams$Rows;") (by decide +kernel)
  have hw2 := hts (.constantLong RX2 176 (31)) (by decide +kernel)
  have hw3 := hts (.fieldLink RX2 36 "BitStreams" "machineState" "I") (by decide +kernel)
  have hw4 := hts (.fieldLink RX2 19 "BitStreams" "form" "LBitStreams$Form;") (by decide +kernel)
  have hw5 := hts (.fieldLink RX2 40 "BitStreams" "misses" "I") (by decide +kernel)
  have hw6 := hts (.fieldLink RX2 23 "BitStreams" "streams" "[J") (by decide +kernel)
  have inX0 : ∀ w ∈ wsX00, w ∈ wsX2_digest := by decide +kernel
  have inX1 : ∀ w ∈ wsX10, w ∈ wsX2_digest := by decide +kernel
  have inX2 : ∀ w ∈ wsX20, w ∈ wsX2_digest := by decide +kernel
  have hl := lv_entry ([.ref (ad 0)] : List Value) (n := 4) (Nat.le_of_ble_eq_true rfl)
  rw [lg_entry_eq]
  generalize (lg_sl ([.ref (ad 0)] : List Value) ++ List.replicate (4 - (lg_sl ([.ref (ad 0)] : List Value)).length) Slot.unset).toArray = ls at hl ⊢
  have hl : lv_has ls 4 [(0, .ref (ad 0))] := hl
  refine lv_ldc2 (v := 4867) hx hb hown hw0 dX2_digest_0 ?_
  refine lv_aload_n hx hb dX2_digest_3 rfl (lv_at hl 0 rfl) ?_
  refine va_get (D := (dC, dI)) (ci := 2) (C := RX2) (T := TX2) (N := 10) hx hb hts inX2 hown hK hP 0 rfl rfl 0 (by decide) hw1 (fun _ h9 => h9) rfl dX2_digest_4 ?_
  refine va_getN (D := (dC, dI)) (ci := 1) (C := RX1) (T := TX1) (N := 2) hx hb hts inX1 hown hK hP 1 rfl rfl 0 (by decide) (hnw.use 1 rfl) (fun _ h9 => h9) rfl dX2_digest_7 ?_
  refine lv_i2l hx hb dX2_digest_10 rfl ?_
  refine lv_ladd hx hb dX2_digest_11 ?_
  refine lv_lstore_n (lv' := [(1, .long _), (0, .ref _)]) hx hb dX2_digest_12 rfl hl (by decide) rfl (fun ls hl => ?_)
  refine lv_iconst (v := 0) hx hb dX2_digest_13 (by decide) ?_
  refine lv_istore_n (lv' := [(3, .int _), (1, .long _), (0, .ref _)]) hx hb dX2_digest_14 rfl hl (by decide) rfl (fun ls hl => ?_)
  have L15 : ∀ (n15 : Nat) (k : Nat), 13 ≤ k + n15 → (k ≤ 12) → ∀ (ls : Array Slot), lv_has ls 4 [(0, .ref (ad 0)), (1, .long (f_dg1 (4867 + ln.toInt64) st k)), (3, .int (nI k))] → W p l e { frames := 1, cells := 0, slots := 0, locals := 21 } s m ([.ref (ad 0)] : List Value).toArray below meth c s.heap [] 0 0 (MQ below (qL (o_digest ln dg sc ms mi st nu)) ([.ref (ad 0)] : List Value).toArray s 0 0 (fun _ => False)) (F0 m 15 ls []) := by
    intro n15
    induction n15 with
    | zero =>
      intro k hf15 hk
      exact absurd hf15 (by omega)
    | succ n15 ih15 =>
      intro k hf15 hk ls hl
      refine lv_iload_n hx hb dX2_digest_15 rfl (lv_at hl 2 rfl) ?_
      refine lv_bipush (v := 12) hx hb dX2_digest_16 (by decide) ?_
      refine lv_icmp_ge (tgt := 57) hx hb dX2_digest_18 (by decide) (fun c_18 => ?_) (fun c_18 => ?_)
      · skip
        have hz : k = 12 := by have := (nI_leI (a := 12) (b := k) (by omega) (by omega)).mp c_18; omega
        subst hz
        refine lv_ldc2 (v := 31) hx hb hown hw2 dX2_digest_57 ?_
        refine lv_lload_n hx hb dX2_digest_60 rfl (lv_at hl 1 rfl) ?_
        refine lv_lmul hx hb dX2_digest_61 ?_
        refine lv_aload_n hx hb dX2_digest_62 rfl (lv_at hl 0 rfl) ?_
        refine va_get (D := (dC, dI)) (ci := 2) (C := RX2) (T := TX2) (N := 10) hx hb hts inX2 hown hK hP 0 rfl rfl 6 (by decide) hw3 (fun _ h9 => h9) rfl dX2_digest_63 ?_
        refine lv_i2l hx hb dX2_digest_66 rfl ?_
        refine lv_ladd hx hb dX2_digest_67 ?_
        refine lv_lstore_n (lv' := [(1, .long _), (0, .ref _), (3, .int _)]) hx hb dX2_digest_68 rfl hl (by decide) rfl (fun ls hl => ?_)
        refine lv_ldc2 (v := 31) hx hb hown hw2 dX2_digest_69 ?_
        refine lv_lload_n hx hb dX2_digest_72 rfl (lv_at hl 0 rfl) ?_
        refine lv_lmul hx hb dX2_digest_73 ?_
        refine lv_aload_n hx hb dX2_digest_74 rfl (lv_at hl 1 rfl) ?_
        refine va_get (D := (dC, dI)) (ci := 2) (C := RX2) (T := TX2) (N := 10) hx hb hts inX2 hown hK hP 0 rfl rfl 1 (by decide) hw4 (fun _ h9 => h9) rfl dX2_digest_75 ?_
        refine va_getN (D := (dC, dI)) (ci := 0) (C := RX0) (T := TX0) (N := 3) hx hb hts inX0 hown hK hP 2 rfl rfl 1 (by decide) (hnw.use 4 rfl) (fun _ h9 => h9) rfl dX2_digest_78 ?_
        refine lv_i2l hx hb dX2_digest_81 rfl ?_
        refine lv_ladd hx hb dX2_digest_82 ?_
        refine lv_lstore_n (lv' := [(1, .long _), (0, .ref _), (3, .int _)]) hx hb dX2_digest_83 rfl hl (by decide) rfl (fun ls hl => ?_)
        refine lv_ldc2 (v := 31) hx hb hown hw2 dX2_digest_84 ?_
        refine lv_lload_n hx hb dX2_digest_87 rfl (lv_at hl 0 rfl) ?_
        refine lv_lmul hx hb dX2_digest_88 ?_
        refine lv_aload_n hx hb dX2_digest_89 rfl (lv_at hl 1 rfl) ?_
        refine va_get (D := (dC, dI)) (ci := 2) (C := RX2) (T := TX2) (N := 10) hx hb hts inX2 hown hK hP 0 rfl rfl 1 (by decide) hw4 (fun _ h9 => h9) rfl dX2_digest_90 ?_
        refine va_getN (D := (dC, dI)) (ci := 0) (C := RX0) (T := TX0) (N := 3) hx hb hts inX0 hown hK hP 2 rfl rfl 2 (by decide) (hnw.use 5 rfl) (fun _ h9 => h9) rfl dX2_digest_93 ?_
        refine lv_i2l hx hb dX2_digest_96 rfl ?_
        refine lv_ladd hx hb dX2_digest_97 ?_
        refine lv_lstore_n (lv' := [(1, .long _), (0, .ref _), (3, .int _)]) hx hb dX2_digest_98 rfl hl (by decide) rfl (fun ls hl => ?_)
        refine lv_iconst (v := 0) hx hb dX2_digest_99 (by decide) ?_
        refine lv_istore_n (lv' := [(3, .int _), (1, .long _), (0, .ref _)]) hx hb dX2_digest_100 rfl hl (by decide) rfl (fun ls hl => ?_)
        have L101 : ∀ (n101 : Nat) (i : Nat), 6 ≤ i + n101 → (i ≤ 5) → ∀ (ls : Array Slot), lv_has ls 4 [(0, .ref (ad 0)), (1, .long (f_dg2 (31 * (31 * (31 * f_dg1 (4867 + ln.toInt64) st 12 + ms.toInt64) + dg.toInt64) + sc.toInt64) nu i)), (3, .int (nI i))] → W p l e { frames := 1, cells := 0, slots := 0, locals := 21 } s m ([.ref (ad 0)] : List Value).toArray below meth c s.heap [] 0 0 (MQ below (qL (o_digest ln dg sc ms mi st nu)) ([.ref (ad 0)] : List Value).toArray s 0 0 (fun _ => False)) (F0 m 101 ls []) := by
          intro n101
          induction n101 with
          | zero =>
            intro i hf101 hi
            exact absurd hf101 (by omega)
          | succ n101 ih101 =>
            intro i hf101 hi ls hl
            refine lv_iload_n hx hb dX2_digest_101 rfl (lv_at hl 2 rfl) ?_
            refine lv_iconst (v := 4) hx hb dX2_digest_102 (by decide) ?_
            refine lv_icmp_gt (tgt := 129) hx hb dX2_digest_103 (by decide) (fun c_103 => ?_) (fun c_103 => ?_)
            · skip
              have hz2 : i = 5 := nI_nlt_end (k := i) (n := 4) (by omega) (by omega) c_103
              subst hz2
              refine lv_ldc2 (v := 31) hx hb hown hw2 dX2_digest_129 ?_
              refine lv_lload_n hx hb dX2_digest_132 rfl (lv_at hl 1 rfl) ?_
              refine lv_lmul hx hb dX2_digest_133 ?_
              refine lv_aload_n hx hb dX2_digest_134 rfl (lv_at hl 0 rfl) ?_
              refine va_get (D := (dC, dI)) (ci := 2) (C := RX2) (T := TX2) (N := 10) hx hb hts inX2 hown hK hP 0 rfl rfl 7 (by decide) hw5 (fun _ h9 => h9) rfl dX2_digest_135 ?_
              refine lv_i2l hx hb dX2_digest_138 rfl ?_
              refine lv_ladd hx hb dX2_digest_139 ?_
              exact W.lret hx hb hr (fun t ht _ => rl rfl ht) no_locs dX2_digest_140
            · skip
              have hz2 : i ≤ 4 := nI_nlt_go (k := i) (n := 4) (by omega) (by omega) c_103
              refine lv_ldc2 (v := 31) hx hb hown hw2 dX2_digest_106 ?_
              refine lv_lload_n hx hb dX2_digest_109 rfl (lv_at hl 1 rfl) ?_
              refine lv_lmul hx hb dX2_digest_110 ?_
              refine lv_aload_n hx hb dX2_digest_111 rfl (lv_at hl 0 rfl) ?_
              refine va_get (D := (dC, dI)) (ci := 2) (C := RX2) (T := TX2) (N := 10) hx hb hts inX2 hown hK hP 0 rfl rfl 1 (by decide) hw4 (fun _ h9 => h9) rfl dX2_digest_112 ?_
              refine va_getN (D := (dC, dI)) (ci := 0) (C := RX0) (T := TX0) (N := 3) hx hb hts inX0 hown hK hP 2 rfl rfl 0 (by decide) (hnw.use 3 rfl) (fun _ h9 => h9) rfl dX2_digest_115 ?_
              refine lv_iload_n hx hb dX2_digest_118 rfl (lv_at hl 2 rfl) ?_
              refine va_iald hx hb hK hP 7 0 rfl rfl (vp_in_nI (by omega) (by omega)) dX2_digest_119 ?_
              refine st_i (v := nu i) (by rw [nI_cl (by omega)]) ?_
              refine lv_i2l hx hb dX2_digest_120 rfl ?_
              refine lv_ladd hx hb dX2_digest_121 ?_
              refine lv_lstore_n (lv' := [(1, .long _), (0, .ref _), (3, .int _)]) hx hb dX2_digest_122 rfl hl (by decide) rfl (fun ls hl => ?_)
              refine lv_iinc (lv' := [(3, .int (nI (i + 1))), (1, .long _), (0, .ref _)]) hx hb dX2_digest_123 hl (k := 2) rfl (nI_1 _) (by decide) rfl (fun ls hl => ?_)
              refine lv_goto (tgt := 101) hx hb dX2_digest_126 (by decide) ?_
              exact ih101 (i + 1) (by omega) (by omega) ls (lv_sub hl [2, 1, 0] rfl)
        exact L101 6 0 (by omega) (by omega) ls (lv_sub hl [2, 1, 0] rfl)
      · skip
        have hz : k < 12 := by have := mt (nI_leI (a := 12) (b := k) (by omega) (by omega)).mpr c_18; omega
        refine lv_ldc2 (v := 31) hx hb hown hw2 dX2_digest_21 ?_
        refine lv_lload_n hx hb dX2_digest_24 rfl (lv_at hl 1 rfl) ?_
        refine lv_lmul hx hb dX2_digest_25 ?_
        refine lv_aload_n hx hb dX2_digest_26 rfl (lv_at hl 0 rfl) ?_
        refine va_get (D := (dC, dI)) (ci := 2) (C := RX2) (T := TX2) (N := 10) hx hb hts inX2 hown hK hP 0 rfl rfl 2 (by decide) hw6 (fun _ h9 => h9) rfl dX2_digest_27 ?_
        refine lv_iload_n hx hb dX2_digest_30 rfl (lv_at hl 2 rfl) ?_
        refine va_lald hx hb hK hP 3 1 rfl rfl (vp_in_nI hz (by omega)) dX2_digest_31 ?_
        refine st_l (v := st k) (by rw [nI_cl (by omega)]) ?_
        refine ro_i (va_runS ⟨hx, hb, hml, hown, hts⟩ (c_J13_bitCount_95d88 l ) (va_cwS 1 hts gX2_digest_J13_bitCount_95d88 rfl rfl rfl kd_J13_bitCount_95d88 ⟨Nat.le_of_ble_eq_true rfl, Nat.le_of_ble_eq_true rfl⟩) preS0 rfl rfl hl.1 rfl (lv_room (Nat.le_of_ble_eq_true rfl)) dX2_digest_32 ⟨Nat.zero_le _, Nat.zero_le _⟩) ?_
        refine lv_i2l hx hb dX2_digest_35 rfl ?_
        refine lv_ladd hx hb dX2_digest_36 ?_
        refine lv_lstore_n (lv' := [(1, .long _), (0, .ref _), (3, .int _)]) hx hb dX2_digest_37 rfl hl (by decide) rfl (fun ls hl => ?_)
        refine lv_ldc2 (v := 31) hx hb hown hw2 dX2_digest_38 ?_
        refine lv_lload_n hx hb dX2_digest_41 rfl (lv_at hl 0 rfl) ?_
        refine lv_lmul hx hb dX2_digest_42 ?_
        refine lv_aload_n hx hb dX2_digest_43 rfl (lv_at hl 1 rfl) ?_
        refine va_get (D := (dC, dI)) (ci := 2) (C := RX2) (T := TX2) (N := 10) hx hb hts inX2 hown hK hP 0 rfl rfl 2 (by decide) hw6 (fun _ h9 => h9) rfl dX2_digest_44 ?_
        refine lv_iload_n hx hb dX2_digest_47 rfl (lv_at hl 2 rfl) ?_
        refine va_lald hx hb hK hP 3 1 rfl rfl (vp_in_nI hz (by omega)) dX2_digest_48 ?_
        refine st_l (v := st k) (by rw [nI_cl (by omega)]) ?_
        refine lv_ladd hx hb dX2_digest_49 ?_
        refine lv_lstore_n (lv' := [(1, .long _), (0, .ref _), (3, .int _)]) hx hb dX2_digest_50 rfl hl (by decide) rfl (fun ls hl => ?_)
        refine lv_iinc (lv' := [(3, .int (nI (k + 1))), (1, .long _), (0, .ref _)]) hx hb dX2_digest_51 hl (k := 2) rfl (nI_1 _) (by decide) rfl (fun ls hl => ?_)
        refine lv_goto (tgt := 15) hx hb dX2_digest_54 (by decide) ?_
        exact ih15 (k + 1) (by omega) (by omega) ls (lv_sub hl [2, 1, 0] rfl)
  exact L15 13 0 (by omega) (by omega) ls (lv_sub hl [2, 1, 0] rfl)
