theorem kd_X3_miss : yX3_miss.cls ≠ "java/lang/invoke/MethodHandle" ∧ yX3_miss.cls ≠ "java/lang/invoke/VarHandle" ∧ (parseMethodDescriptor yX3_miss.desc).map (fun d => d.parameters.length) = some 4 := by decide +kernel
set_option maxHeartbeats 4000000 in
set_option maxRecDepth 100000 in
theorem c_X3_miss (l : Launch) {dC : Nat → ClassId} {dI : Nat → Nat → Nat} {ad : Nat → Nat} {cI cJ : ClassId} {dg : Int32} {sc : Int32} {ms : Int32} {mi : Int32} {mv : Int32} {mw : Int32} {pu : Int64} {pl : Int64} {st : (Nat → Int64)} {fr : (Nat → Int64)} {sr : (Nat → Int64)} {nu : (Nat → Int32)} {sz : Nat} {a0 a1 a2 a3 : Int32} {q : Nat} (hq : q ≤ 6) : Met l yX3_miss wsX3_miss ({ frames := 2, cells := 0, slots := 0, locals := 53 }) (va_Pc ([.ref (ad 0), .int a0, .int a1, .int a2, .int a3] : List Value) (gW sz (dC, dI) (tyw cI cJ) (yw ad cI cJ (nI (2 ^ q)) dg sc ms mi mv mw pu pl st fr sr nu))) (va_Qi (fun r (u : ((Nat → Int64) × (Nat → Int64))) => r = (p_miss q mi mv mw a0 a1 a2 a3).1) (fun u t => va_P (dC, dI) vwCl (yw ad cI cJ (nI (2 ^ q)) dg sc ms (p_miss q mi mv mw a0 a1 a2 a3).2.1 (p_miss q mi mv mw a0 a1 a2 a3).2.2.1 (p_miss q mi mv mw a0 a1 a2 a3).2.2.2 pu pl st u.1 u.2 nu) t.heap) (va_A (yw ad cI cJ (nI (2 ^ q)) dg sc ms mi mv mw pu pl st fr sr nu) sz)) 0 0 (va_A (yw ad cI cJ (nI (2 ^ q)) dg sc ms mi mv mw pu pl st fr sr nu) sz) := by
  refine Met.ofW (cc := cX3_miss) (maxL := 9) (ret := (some .int)) (by decide) rfl ?_
  intro p e s m args below meth c s₁ B hml hv
  obtain ⟨rfl, hsz, ⟨hnw, hK, hP⟩, hD0⟩ := hv
  have hx := B.exec
  have hb := B.bytes
  have hr := B.returns
  have hts := atoms_spec (ws := wsX3_miss) B.pre
  have hown : s.vm.findClass RX3 = some m.cls := findClass_of_methodNamed B.named
  have hlocks := B.notSynchronized
  subst hsz
  have hD := hD0.self (sz := s.heap.size)
  generalize hAe : va_A (yw ad cI cJ (nI (2 ^ q)) dg sc ms mi mv mw pu pl st fr sr nu) s.heap.size = A at hD ⊢
  have hA : ∀ q : Nat, s.heap.size ≤ q → A q := fun q h => by rw [← hAe]; exact Or.inr h
  have hS : va_S A s.heap s.heap [] := va_S.rf
  have hw0 := hts (.constantLong RX3 47 (3)) (by decide +kernel)
  have hw1 := hts (.constantLong RX3 90 (63)) (by decide +kernel)
  have hw2 := hts (.fieldLink RX3 92 "BitStreamsModel" "misses" "I") (by decide +kernel)
  have hw3 := hts (.fieldLink RX3 23 "BitStreamsModel" "size" "I") (by decide +kernel)
  have hw4 := hts (.fieldLink RX3 13 "BitStreamsModel" "firsts" "[J") (by decide +kernel)
  have hw5 := hts (.fieldLink RX3 16 "BitStreamsModel" "others" "[J") (by decide +kernel)
  have hw6 := hts (.fieldLink RX3 98 "BitStreamsModel" "missV" "I") (by decide +kernel)
  have hw7 := hts (.fieldLink RX3 101 "BitStreamsModel" "missW" "I") (by decide +kernel)
  have inX3 : ∀ w ∈ wsX30, w ∈ wsX3_miss := by decide +kernel
  have hl := lv_entry ([.ref (ad 0), .int a0, .int a1, .int a2, .int a3] : List Value) (n := 9) (Nat.le_of_ble_eq_true rfl)
  rw [lg_entry_eq]
  generalize (lg_sl ([.ref (ad 0), .int a0, .int a1, .int a2, .int a3] : List Value) ++ List.replicate (9 - (lg_sl ([.ref (ad 0), .int a0, .int a1, .int a2, .int a3] : List Value)).length) Slot.unset).toArray = ls at hl ⊢
  have hl : lv_has ls 9 [(0, .ref (ad 0)), (1, .int a0), (2, .int a1), (3, .int a2), (4, .int a3)] := hl
  have hn64 := pw_le hq
  refine lv_iload_n hx hb dX3_miss_0 rfl (lv_at hl 1 rfl) ?_
  refine lv_i2l hx hb dX3_miss_1 rfl ?_
  refine lv_lconst (v := 0) hx hb dX3_miss_2 (by decide) ?_
  refine lv_ldc2 (v := 3) hx hb hown hw0 dX3_miss_3 ?_
  refine ro_i (va_runS ⟨hx, hb, hml, hown, hts⟩ (c_X3_in l ) (va_cwS 3 hts gX3_miss_X3_in rfl rfl rfl kd_X3_in ⟨Nat.le_of_ble_eq_true rfl, Nat.le_of_ble_eq_true rfl⟩) preS0 rfl rfl hl.1 rfl (lv_room (Nat.le_of_ble_eq_true rfl)) dX3_miss_6 ⟨Nat.zero_le _, Nat.zero_le _⟩) ?_
  refine lv_if_eq (tgt := 49) hx hb dX3_miss_9 (by decide) (fun c_9 => ?_) (fun c_9 => ?_)
  · skip
    have c_9 := bI_eq.mp c_9
    have c_9 : ¬ (0 ≤ a0 ∧ a0 ≤ 3) := fun h => c_9 ((in32 rfl rfl).mpr h)
    have hC : ¬ ((0 ≤ a0 ∧ a0 ≤ 3) ∧ srcs a1 ∧ srcs a2 ∧ (0 ≤ a3 ∧ a3 ≤ 63)) := fun h => c_9 h.1
    refine lv_bipush (v := (-102)) hx hb dX3_miss_49 (by decide) ?_
    simp only [p_miss, if_neg hC]
    exact W.iret hx hb hr (fun t ht _ => ⟨⟨_, (fr, sr), rfl, rfl, wpost ht hP⟩, hS.F ht⟩) hS.2.2 dX3_miss_51
  · skip
    have c_9 := bI_ne.mp c_9
    have c_9 : 0 ≤ a0 ∧ a0 ≤ 3 := (in32 rfl rfl).mp c_9
    refine lv_iload_n hx hb dX3_miss_12 rfl (lv_at hl 2 rfl) ?_
    refine lv_i2l hx hb dX3_miss_13 rfl ?_
    refine lv_lconst (v := 0) hx hb dX3_miss_14 (by decide) ?_
    refine lv_ldc2 (v := 3) hx hb hown hw0 dX3_miss_15 ?_
    refine ro_i (va_runS ⟨hx, hb, hml, hown, hts⟩ (c_X3_in l ) (va_cwS 3 hts gX3_miss_X3_in rfl rfl rfl kd_X3_in ⟨Nat.le_of_ble_eq_true rfl, Nat.le_of_ble_eq_true rfl⟩) preS0 rfl rfl hl.1 rfl (lv_room (Nat.le_of_ble_eq_true rfl)) dX3_miss_18 ⟨Nat.zero_le _, Nat.zero_le _⟩) ?_
    refine lv_if_eq (tgt := 49) hx hb dX3_miss_21 (by decide) (fun c_21 => ?_) (fun c_21 => ?_)
    · skip
      have c_21 := bI_eq.mp c_21
      have c_21 : ¬ (0 ≤ a1 ∧ a1 ≤ 3) := fun h => c_21 ((in32 rfl rfl).mpr h)
      have hC : ¬ ((0 ≤ a0 ∧ a0 ≤ 3) ∧ srcs a1 ∧ srcs a2 ∧ (0 ≤ a3 ∧ a3 ≤ 63)) := fun h => c_21 h.2.1
      refine lv_bipush (v := (-102)) hx hb dX3_miss_49 (by decide) ?_
      simp only [p_miss, if_neg hC]
      exact W.iret hx hb hr (fun t ht _ => ⟨⟨_, (fr, sr), rfl, rfl, wpost ht hP⟩, hS.F ht⟩) hS.2.2 dX3_miss_51
    · skip
      have c_21 := bI_ne.mp c_21
      have c_21 : 0 ≤ a1 ∧ a1 ≤ 3 := (in32 rfl rfl).mp c_21
      refine lv_iload_n hx hb dX3_miss_24 rfl (lv_at hl 3 rfl) ?_
      refine lv_i2l hx hb dX3_miss_25 rfl ?_
      refine lv_lconst (v := 0) hx hb dX3_miss_26 (by decide) ?_
      refine lv_ldc2 (v := 3) hx hb hown hw0 dX3_miss_27 ?_
      refine ro_i (va_runS ⟨hx, hb, hml, hown, hts⟩ (c_X3_in l ) (va_cwS 3 hts gX3_miss_X3_in rfl rfl rfl kd_X3_in ⟨Nat.le_of_ble_eq_true rfl, Nat.le_of_ble_eq_true rfl⟩) preS0 rfl rfl hl.1 rfl (lv_room (Nat.le_of_ble_eq_true rfl)) dX3_miss_30 ⟨Nat.zero_le _, Nat.zero_le _⟩) ?_
      refine lv_if_eq (tgt := 49) hx hb dX3_miss_33 (by decide) (fun c_33 => ?_) (fun c_33 => ?_)
      · skip
        have c_33 := bI_eq.mp c_33
        have c_33 : ¬ (0 ≤ a2 ∧ a2 ≤ 3) := fun h => c_33 ((in32 rfl rfl).mpr h)
        have hC : ¬ ((0 ≤ a0 ∧ a0 ≤ 3) ∧ srcs a1 ∧ srcs a2 ∧ (0 ≤ a3 ∧ a3 ≤ 63)) := fun h => c_33 h.2.2.1
        refine lv_bipush (v := (-102)) hx hb dX3_miss_49 (by decide) ?_
        simp only [p_miss, if_neg hC]
        exact W.iret hx hb hr (fun t ht _ => ⟨⟨_, (fr, sr), rfl, rfl, wpost ht hP⟩, hS.F ht⟩) hS.2.2 dX3_miss_51
      · skip
        have c_33 := bI_ne.mp c_33
        have c_33 : 0 ≤ a2 ∧ a2 ≤ 3 := (in32 rfl rfl).mp c_33
        refine lv_iload hx hb dX3_miss_36 (lv_at hl 4 rfl) ?_
        refine lv_i2l hx hb dX3_miss_38 rfl ?_
        refine lv_lconst (v := 0) hx hb dX3_miss_39 (by decide) ?_
        refine lv_ldc2 (v := 63) hx hb hown hw1 dX3_miss_40 ?_
        refine ro_i (va_runS ⟨hx, hb, hml, hown, hts⟩ (c_X3_in l ) (va_cwS 3 hts gX3_miss_X3_in rfl rfl rfl kd_X3_in ⟨Nat.le_of_ble_eq_true rfl, Nat.le_of_ble_eq_true rfl⟩) preS0 rfl rfl hl.1 rfl (lv_room (Nat.le_of_ble_eq_true rfl)) dX3_miss_43 ⟨Nat.zero_le _, Nat.zero_le _⟩) ?_
        refine lv_if_ne (tgt := 52) hx hb dX3_miss_46 (by decide) (fun c_46 => ?_) (fun c_46 => ?_)
        · skip
          have c_46 := bI_ne.mp c_46
          have c_46 : 0 ≤ a3 ∧ a3 ≤ 63 := (in32 rfl rfl).mp c_46
          have hC : ((0 ≤ a0 ∧ a0 ≤ 3) ∧ srcs a1 ∧ srcs a2 ∧ (0 ≤ a3 ∧ a3 ≤ 63)) := ⟨c_9, c_21, c_33, c_46⟩
          refine lv_aload_n hx hb dX3_miss_52 rfl (lv_at hl 0 rfl) ?_
          refine va_get (D := (dC, dI)) (ci := 3) (C := RX3) (T := TX3) (N := 13) hx hb hts inX3 hown hK hP 0 rfl rfl 2 (by decide) hw2 (fun _ h9 => h9) rfl dX3_miss_53 ?_
          refine lv_bipush (v := 60) hx hb dX3_miss_56 (by decide) ?_
          refine lv_icmp_ne (tgt := 64) hx hb dX3_miss_58 (by decide) (fun c_58 => ?_) (fun c_58 => ?_)
          · skip
            refine lv_aload_n hx hb dX3_miss_64 rfl (lv_at hl 0 rfl) ?_
            refine lv_dup hx hb dX3_miss_65 rfl ?_
            refine va_get (D := (dC, dI)) (ci := 3) (C := RX3) (T := TX3) (N := 13) hx hb hts inX3 hown hK hP 0 rfl rfl 2 (by decide) hw2 (fun _ h9 => h9) rfl dX3_miss_66 ?_
            refine lv_iconst (v := 1) hx hb dX3_miss_69 (by decide) ?_
            refine lv_iadd hx hb dX3_miss_70 ?_
            refine va_put (D := (dC, dI)) (ci := 3) (ty := .int) (C := RX3) (T := TX3) (N := 13) hx hb hts inX3 tyX3 tyX3_ok nmX3 hown hK hP hD hS 0 rfl rfl 2 (by decide) hw2 (fun _ h9 => h9) rfl (by decide +kernel) rfl rfl (Nat.le_of_ble_eq_true rfl) dX3_miss_71 (fun H locs hP hD hS => ?_)
            have hP : va_P (dC, dI) vwCl (yw ad cI cJ (nI (2 ^ q)) dg sc ms (mi + 1) mv mw pu pl st fr sr nu) H := hP
            have hD : va_D A (yw ad cI cJ (nI (2 ^ q)) dg sc ms (mi + 1) mv mw pu pl st fr sr nu) := va_D_addr hD rfl
            refine lv_iconst (v := 0) hx hb dX3_miss_74 (by decide) ?_
            refine lv_istore (lv' := [(5, .int _), (0, .ref _), (1, .int _), (2, .int _), (3, .int _), (4, .int _)]) hx hb dX3_miss_75 hl (by decide) rfl (fun ls hl => ?_)
            have L77 : ∀ (n77 : Nat) (v : Nat) (x y : Nat → Int64), 2 ^ q + 2 ≤ v + n77 → (v ≤ 2 ^ q + 1) → (∀ i, i < v → x i = g_srow q a1 (nI i) (2 ^ q)) → (∀ i, i < v → y i = g_sh (nI (2 ^ q)) (g_srow q a2 (nI i) (2 ^ q)) (remI a3 (nI (2 ^ q))) (2 ^ q)) → ∀ (H : Heap) (locs : List Loc), va_P (dC, dI) vwCl (yw ad cI cJ (nI (2 ^ q)) dg sc ms (mi + 1) mv mw pu pl st x y nu) H → va_S A s.heap H locs → ∀ (ls : Array Slot), lv_has ls 9 [(0, .ref (ad 0)), (1, .int a0), (2, .int a1), (3, .int a2), (4, .int a3), (5, .int (nI v))] → W p l e { frames := 2, cells := 0, slots := 0, locals := 53 } s m ([.ref (ad 0), .int a0, .int a1, .int a2, .int a3] : List Value).toArray below meth c H locs 0 0 (MQ below (va_Qi (fun r (u : ((Nat → Int64) × (Nat → Int64))) => r = (p_miss q mi mv mw a0 a1 a2 a3).1) (fun u t => va_P (dC, dI) vwCl (yw ad cI cJ (nI (2 ^ q)) dg sc ms (p_miss q mi mv mw a0 a1 a2 a3).2.1 (p_miss q mi mv mw a0 a1 a2 a3).2.2.1 (p_miss q mi mv mw a0 a1 a2 a3).2.2.2 pu pl st u.1 u.2 nu) t.heap) A) ([.ref (ad 0), .int a0, .int a1, .int a2, .int a3] : List Value).toArray s 0 0 (A)) (F0 m 77 ls []) := by
              intro n77
              induction n77 with
              | zero =>
                intro v x y hf77 hv hx1 hy1
                exact absurd hf77 (by omega)
              | succ n77 ih77 =>
                intro v x y hf77 hv hx1 hy1 H locs hP hS ls hl
                have hD : va_D A (yw ad cI cJ (nI (2 ^ q)) dg sc ms (mi + 1) mv mw pu pl st x y nu) := va_D_addr hD rfl
                refine lv_iload hx hb dX3_miss_77 (lv_at hl 5 rfl) ?_
                refine lv_aload_n hx hb dX3_miss_79 rfl (lv_at hl 0 rfl) ?_
                refine va_get (D := (dC, dI)) (ci := 3) (C := RX3) (T := TX3) (N := 13) hx hb hts inX3 hown hK hP 0 rfl rfl 0 (by decide) hw3 (fun _ h9 => h9) rfl dX3_miss_80 ?_
                refine lv_icmp_gt (tgt := 131) hx hb dX3_miss_83 (by decide) (fun c_83 => ?_) (fun c_83 => ?_)
                · skip
                  have hz := nI_nlt_end hv (by omega) c_83
                  refine lv_iconst (v := (-1)) hx hb dX3_miss_131 (by decide) ?_
                  refine lv_istore (lv' := [(5, .int _), (0, .ref _), (1, .int _), (2, .int _), (3, .int _), (4, .int _)]) hx hb dX3_miss_132 hl (by decide) rfl (fun ls hl => ?_)
                  refine lv_iconst (v := 0) hx hb dX3_miss_134 (by decide) ?_
                  refine lv_istore (lv' := [(6, .int _), (5, .int _), (0, .ref _), (1, .int _), (2, .int _), (3, .int _), (4, .int _)]) hx hb dX3_miss_135 hl (by decide) rfl (fun ls hl => ?_)
                  have L137 : ∀ (n137 : Nat) (vq : Nat) (gr xv xw_ : Int32), 2 ^ q + 2 ≤ vq + n137 → (vq ≤ 2 ^ q + 1) → ((gr, xv, xw_) = g_gm (2 ^ q) a0 x y mv mw vq 0) → ∀ (H : Heap) (locs : List Loc), va_P (dC, dI) vwCl (yw ad cI cJ (nI (2 ^ q)) dg sc ms (mi + 1) xv xw_ pu pl st x y nu) H → va_S A s.heap H locs → ∀ (ls : Array Slot), lv_has ls 9 [(0, .ref (ad 0)), (1, .int a0), (5, .int gr), (6, .int (nI vq))] → W p l e { frames := 2, cells := 0, slots := 0, locals := 53 } s m ([.ref (ad 0), .int a0, .int a1, .int a2, .int a3] : List Value).toArray below meth c H locs 0 0 (MQ below (va_Qi (fun r (u : ((Nat → Int64) × (Nat → Int64))) => r = (p_miss q mi mv mw a0 a1 a2 a3).1) (fun u t => va_P (dC, dI) vwCl (yw ad cI cJ (nI (2 ^ q)) dg sc ms (p_miss q mi mv mw a0 a1 a2 a3).2.1 (p_miss q mi mv mw a0 a1 a2 a3).2.2.1 (p_miss q mi mv mw a0 a1 a2 a3).2.2.2 pu pl st u.1 u.2 nu) t.heap) A) ([.ref (ad 0), .int a0, .int a1, .int a2, .int a3] : List Value).toArray s 0 0 (A)) (F0 m 137 ls []) := by
                    intro n137
                    induction n137 with
                    | zero =>
                      intro vq gr xv xw_ hf137 hv2 hg
                      exact absurd hf137 (by omega)
                    | succ n137 ih137 =>
                      intro vq gr xv xw_ hf137 hv2 hg H locs hP hS ls hl
                      have hD : va_D A (yw ad cI cJ (nI (2 ^ q)) dg sc ms (mi + 1) xv xw_ pu pl st x y nu) := va_D_addr hD rfl
                      refine lv_iload hx hb dX3_miss_137 (lv_at hl 3 rfl) ?_
                      refine lv_aload_n hx hb dX3_miss_139 rfl (lv_at hl 0 rfl) ?_
                      refine va_get (D := (dC, dI)) (ci := 3) (C := RX3) (T := TX3) (N := 13) hx hb hts inX3 hown hK hP 0 rfl rfl 0 (by decide) hw3 (fun _ h9 => h9) rfl dX3_miss_140 ?_
                      refine lv_icmp_gt (tgt := 249) hx hb dX3_miss_143 (by decide) (fun c_143 => ?_) (fun c_143 => ?_)
                      · skip
                        have hz4 := nI_nlt_end hv2 (by omega) c_143
                        refine lv_iload hx hb dX3_miss_249 (lv_at hl 2 rfl) ?_
                        have egm : g_gm (2 ^ q) a0 x y mv mw (2 ^ q + 1) 0 = g_mis q a0 a1 a2 a3 mv mw := g_gm_cong (fun i h => hx1 i (by omega)) (fun i h => hy1 i (by omega))
                        rw [hz4, egm] at hg
                        have e1 : gr = (g_mis q a0 a1 a2 a3 mv mw).1 := by rw [← hg]
                        have e2 : xv = (g_mis q a0 a1 a2 a3 mv mw).2.1 := by rw [← hg]
                        have e3 : xw_ = (g_mis q a0 a1 a2 a3 mv mw).2.2 := by rw [← hg]
                        simp only [p_miss, if_pos hC, if_neg c_58]
                        rw [← e1, ← e2, ← e3]
                        exact W.iret hx hb hr (fun t ht _ => ⟨⟨_, (x, y), rfl, rfl, wpost ht hP⟩, hS.F ht⟩) hS.2.2 dX3_miss_251
                      · skip
                        have hz4 := nI_nlt_go hv2 (by omega) c_143
                        refine lv_iconst (v := 0) hx hb dX3_miss_146 (by decide) ?_
                        refine lv_istore (lv' := [(7, .int _), (0, .ref _), (1, .int _), (5, .int _), (6, .int _)]) hx hb dX3_miss_147 hl (by decide) rfl (fun ls hl => ?_)
                        have L149 : ∀ (n149 : Nat) (wq : Nat) (gr2 xv2 xw2 : Int32), 2 ^ q + 2 ≤ wq + n149 → (wq ≤ 2 ^ q + 1) → ((gr2, xv2, xw2) = g_gm (2 ^ q) a0 x y mv mw vq wq) → ∀ (H : Heap) (locs : List Loc), va_P (dC, dI) vwCl (yw ad cI cJ (nI (2 ^ q)) dg sc ms (mi + 1) xv2 xw2 pu pl st x y nu) H → va_S A s.heap H locs → ∀ (ls : Array Slot), lv_has ls 9 [(0, .ref (ad 0)), (1, .int a0), (5, .int gr2), (6, .int (nI vq)), (7, .int (nI wq))] → W p l e { frames := 2, cells := 0, slots := 0, locals := 53 } s m ([.ref (ad 0), .int a0, .int a1, .int a2, .int a3] : List Value).toArray below meth c H locs 0 0 (MQ below (va_Qi (fun r (u : ((Nat → Int64) × (Nat → Int64))) => r = (p_miss q mi mv mw a0 a1 a2 a3).1) (fun u t => va_P (dC, dI) vwCl (yw ad cI cJ (nI (2 ^ q)) dg sc ms (p_miss q mi mv mw a0 a1 a2 a3).2.1 (p_miss q mi mv mw a0 a1 a2 a3).2.2.1 (p_miss q mi mv mw a0 a1 a2 a3).2.2.2 pu pl st u.1 u.2 nu) t.heap) A) ([.ref (ad 0), .int a0, .int a1, .int a2, .int a3] : List Value).toArray s 0 0 (A)) (F0 m 149 ls []) := by
                          intro n149
                          induction n149 with
                          | zero =>
                            intro wq gr2 xv2 xw2 hf149 hw hg2
                            exact absurd hf149 (by omega)
                          | succ n149 ih149 =>
                            intro wq gr2 xv2 xw2 hf149 hw hg2 H locs hP hS ls hl
                            have hD : va_D A (yw ad cI cJ (nI (2 ^ q)) dg sc ms (mi + 1) xv2 xw2 pu pl st x y nu) := va_D_addr hD rfl
                            refine lv_iload hx hb dX3_miss_149 (lv_at hl 4 rfl) ?_
                            refine lv_aload_n hx hb dX3_miss_151 rfl (lv_at hl 0 rfl) ?_
                            refine va_get (D := (dC, dI)) (ci := 3) (C := RX3) (T := TX3) (N := 13) hx hb hts inX3 hown hK hP 0 rfl rfl 0 (by decide) hw3 (fun _ h9 => h9) rfl dX3_miss_152 ?_
                            refine lv_icmp_gt (tgt := 243) hx hb dX3_miss_155 (by decide) (fun c_155 => ?_) (fun c_155 => ?_)
                            · skip
                              have hz5 := nI_nlt_end hw (by omega) c_155
                              refine lv_iinc (lv' := [(6, .int (nI (vq + 1))), (0, .ref _), (1, .int _), (5, .int _), (7, .int _)]) hx hb dX3_miss_243 hl (k := 3) rfl (nI_1 _) (by decide) rfl (fun ls hl => ?_)
                              refine lv_goto (tgt := 137) hx hb dX3_miss_246 (by decide) ?_
                              exact ih137 (vq + 1) _ _ _ (by omega) (by omega) (by rw [hg2, hz5]; exact (g_gm_row (2 ^ q) a0 x y mv mw vq).symm) _ _ hP hS ls (lv_sub hl [1, 2, 3, 0] rfl)
                            · skip
                              have hz5 := nI_nlt_go hw (by omega) c_155
                              refine lv_aload_n hx hb dX3_miss_158 rfl (lv_at hl 0 rfl) ?_
                              refine lv_aload_n hx hb dX3_miss_159 rfl (lv_at hl 0 rfl) ?_
                              refine lv_iload_n hx hb dX3_miss_160 rfl (lv_at hl 1 rfl) ?_
                              refine lv_aload_n hx hb dX3_miss_161 rfl (lv_at hl 0 rfl) ?_
                              refine va_get (D := (dC, dI)) (ci := 3) (C := RX3) (T := TX3) (N := 13) hx hb hts inX3 hown hK hP 0 rfl rfl 5 (by decide) hw4 (fun _ h9 => h9) rfl dX3_miss_162 ?_
                              refine lv_iload hx hb dX3_miss_165 (lv_at hl 3 rfl) ?_
                              refine va_lald hx hb hK hP 2 1 rfl rfl (vp_in_nI (by omega) (by omega)) dX3_miss_167 ?_
                              refine st_l (v := x vq) (by rw [nI_cl (by omega)]) ?_
                              refine lv_aload_n hx hb dX3_miss_168 rfl (lv_at hl 0 rfl) ?_
                              refine va_get (D := (dC, dI)) (ci := 3) (C := RX3) (T := TX3) (N := 13) hx hb hts inX3 hown hK hP 0 rfl rfl 6 (by decide) hw5 (fun _ h9 => h9) rfl dX3_miss_169 ?_
                              refine lv_iload hx hb dX3_miss_172 (lv_at hl 4 rfl) ?_
                              refine va_lald hx hb hK hP 3 1 rfl rfl (vp_in_nI (by omega) (by omega)) dX3_miss_174 ?_
                              refine st_l (v := y wq) (by rw [nI_cl (by omega)]) ?_
                              refine lv_lconst (v := 0) hx hb dX3_miss_175 (by decide) ?_
                              refine ro_l (va_runV ⟨hx, hb, hml, hown, hts⟩ (c_X3_gateRow l ) (cwV 4 hts gX3_miss_X3_gateRow rfl rfl rfl ⟨rfl, kd_X3_gateRow⟩ ⟨Nat.le_of_ble_eq_true rfl, Nat.le_of_ble_eq_true rfl⟩) (preV1 hnw hK hP 0 3 rfl rfl) rfl rfl hl.1 rfl (lv_room (Nat.le_of_ble_eq_true rfl)) dX3_miss_176 ⟨Nat.zero_le _, Nat.zero_le _⟩) ?_
                              refine ro_i (va_runV ⟨hx, hb, hml, hown, hts⟩ (c_X3_onesOf l ) (cwV 1 hts gX3_miss_X3_onesOf rfl rfl rfl ⟨rfl, kd_X3_onesOf⟩ ⟨Nat.le_of_ble_eq_true rfl, Nat.le_of_ble_eq_true rfl⟩) (preV1 hnw hK hP 0 3 rfl rfl) rfl rfl hl.1 rfl (lv_room (Nat.le_of_ble_eq_true rfl)) dX3_miss_179 ⟨Nat.zero_le _, Nat.zero_le _⟩) ?_
                              refine lv_aload_n hx hb dX3_miss_182 rfl (lv_at hl 0 rfl) ?_
                              refine va_get (D := (dC, dI)) (ci := 3) (C := RX3) (T := TX3) (N := 13) hx hb hts inX3 hown hK hP 0 rfl rfl 0 (by decide) hw3 (fun _ h9 => h9) rfl dX3_miss_183 ?_
                              refine lv_imul hx hb dX3_miss_186 ?_
                              refine lv_aload_n hx hb dX3_miss_187 rfl (lv_at hl 0 rfl) ?_
                              refine lv_iload_n hx hb dX3_miss_188 rfl (lv_at hl 1 rfl) ?_
                              refine lv_iload hx hb dX3_miss_189 (lv_at hl 3 rfl) ?_
                              refine lv_iload hx hb dX3_miss_191 (lv_at hl 4 rfl) ?_
                              refine ro_i (va_runV ⟨hx, hb, hml, hown, hts⟩ (c_X3_due l ) (cwV 3 hts gX3_miss_X3_due rfl rfl rfl ⟨rfl, kd_X3_due⟩ ⟨Nat.le_of_ble_eq_true rfl, Nat.le_of_ble_eq_true rfl⟩) (preV1 hnw hK hP 0 3 rfl rfl) rfl rfl hl.1 rfl (lv_room (Nat.le_of_ble_eq_true rfl)) dX3_miss_193 ⟨Nat.zero_le _, Nat.zero_le _⟩) ?_
                              refine lv_isub hx hb dX3_miss_196 ?_
                              refine lv_topi (fun d0 ed0 => ?_)
                              have hd0 : d0 = g_ones (g_gr a0 (x vq) (y wq) 0 (2 ^ q)) (2 ^ q) * nI (2 ^ q) - f_due (nI (2 ^ q)) a0 (nI vq) (nI wq) := by rw [ed0, pw_cl hq]
                              refine lv_istore (lv' := [(8, .int _), (0, .ref _), (1, .int _), (5, .int _), (6, .int _), (7, .int _)]) hx hb dX3_miss_197 hl (by decide) rfl (fun ls hl => ?_)
                              refine lv_iload hx hb dX3_miss_199 (lv_at hl 0 rfl) ?_
                              refine lv_if_ge (tgt := 210) hx hb dX3_miss_201 (by decide) (fun c_201 => ?_) (fun c_201 => ?_)
                              · skip
                                have hda : ∀ z : Int32, (if 0 ≤ d0 then d0 else z) = d0 := fun z => if_pos c_201
                                refine lv_iload hx hb dX3_miss_210 (lv_at hl 0 rfl) ?_
                                refine st_i (v := g_diff (2 ^ q) a0 x y vq wq) (by unfold g_diff; rw [← hd0, hda]) ?_
                                refine lv_istore (lv' := [(8, .int _), (0, .ref _), (1, .int _), (5, .int _), (6, .int _), (7, .int _)]) hx hb dX3_miss_212 hl (by decide) rfl (fun ls hl => ?_)
                                refine lv_iload hx hb dX3_miss_214 (lv_at hl 0 rfl) ?_
                                refine lv_iload hx hb dX3_miss_216 (lv_at hl 3 rfl) ?_
                                refine lv_icmp_le (tgt := 237) hx hb dX3_miss_218 (by decide) (fun c_218 => ?_) (fun c_218 => ?_)
                                · skip
                                  refine lv_iinc (lv' := [(7, .int (nI (wq + 1))), (8, .int _), (0, .ref _), (1, .int _), (5, .int _), (6, .int _)]) hx hb dX3_miss_237 hl (k := 5) rfl (nI_1 _) (by decide) rfl (fun ls hl => ?_)
                                  refine lv_goto (tgt := 149) hx hb dX3_miss_240 (by decide) ?_
                                  exact ih149 (wq + 1) _ _ _ (by omega) (by omega) (by rw [g_gm_step (by omega), ← hg2]; unfold f_gms; first | (rw [if_pos c_218]) | (rw [if_neg c_218])) _ _ hP hS ls (lv_sub hl [2, 3, 4, 5, 0] rfl)
                                · skip
                                  refine lv_iload hx hb dX3_miss_221 (lv_at hl 0 rfl) ?_
                                  refine lv_istore (lv' := [(5, .int _), (8, .int _), (0, .ref _), (1, .int _), (6, .int _), (7, .int _)]) hx hb dX3_miss_223 hl (by decide) rfl (fun ls hl => ?_)
                                  refine lv_aload_n hx hb dX3_miss_225 rfl (lv_at hl 2 rfl) ?_
                                  refine lv_iload hx hb dX3_miss_226 (lv_at hl 4 rfl) ?_
                                  refine va_put (D := (dC, dI)) (ci := 3) (ty := .int) (C := RX3) (T := TX3) (N := 13) hx hb hts inX3 tyX3 tyX3_ok nmX3 hown hK hP hD hS 0 rfl rfl 3 (by decide) hw6 (fun _ h9 => h9) rfl (by decide +kernel) rfl rfl (Nat.le_of_ble_eq_true rfl) dX3_miss_228 (fun H locs hP hD hS => ?_)
                                  have hP : va_P (dC, dI) vwCl (yw ad cI cJ (nI (2 ^ q)) dg sc ms (mi + 1) (nI vq) xw2 pu pl st x y nu) H := hP
                                  have hD : va_D A (yw ad cI cJ (nI (2 ^ q)) dg sc ms (mi + 1) (nI vq) xw2 pu pl st x y nu) := va_D_addr hD rfl
                                  refine lv_aload_n hx hb dX3_miss_231 rfl (lv_at hl 2 rfl) ?_
                                  refine lv_iload hx hb dX3_miss_232 (lv_at hl 5 rfl) ?_
                                  refine va_put (D := (dC, dI)) (ci := 3) (ty := .int) (C := RX3) (T := TX3) (N := 13) hx hb hts inX3 tyX3 tyX3_ok nmX3 hown hK hP hD hS 0 rfl rfl 4 (by decide) hw7 (fun _ h9 => h9) rfl (by decide +kernel) rfl rfl (Nat.le_of_ble_eq_true rfl) dX3_miss_234 (fun H locs hP hD hS => ?_)
                                  have hP : va_P (dC, dI) vwCl (yw ad cI cJ (nI (2 ^ q)) dg sc ms (mi + 1) (nI vq) (nI wq) pu pl st x y nu) H := hP
                                  have hD : va_D A (yw ad cI cJ (nI (2 ^ q)) dg sc ms (mi + 1) (nI vq) (nI wq) pu pl st x y nu) := va_D_addr hD rfl
                                  refine lv_iinc (lv' := [(7, .int (nI (wq + 1))), (5, .int _), (8, .int _), (0, .ref _), (1, .int _), (6, .int _)]) hx hb dX3_miss_237 hl (k := 5) rfl (nI_1 _) (by decide) rfl (fun ls hl => ?_)
                                  refine lv_goto (tgt := 149) hx hb dX3_miss_240 (by decide) ?_
                                  exact ih149 (wq + 1) _ _ _ (by omega) (by omega) (by rw [g_gm_step (by omega), ← hg2]; unfold f_gms; first | (rw [if_pos c_218]) | (rw [if_neg c_218])) _ _ hP hS ls (lv_sub hl [3, 4, 1, 5, 0] rfl)
                              · skip
                                have hda : ∀ z : Int32, (if 0 ≤ d0 then d0 else z) = z := fun z => if_neg c_201
                                refine lv_iload hx hb dX3_miss_204 (lv_at hl 0 rfl) ?_
                                refine lv_ineg hx hb dX3_miss_206 ?_
                                refine lv_goto (tgt := 212) hx hb dX3_miss_207 (by decide) ?_
                                refine st_i (v := g_diff (2 ^ q) a0 x y vq wq) (by unfold g_diff; rw [← hd0, hda]) ?_
                                refine lv_istore (lv' := [(8, .int _), (0, .ref _), (1, .int _), (5, .int _), (6, .int _), (7, .int _)]) hx hb dX3_miss_212 hl (by decide) rfl (fun ls hl => ?_)
                                refine lv_iload hx hb dX3_miss_214 (lv_at hl 0 rfl) ?_
                                refine lv_iload hx hb dX3_miss_216 (lv_at hl 3 rfl) ?_
                                refine lv_icmp_le (tgt := 237) hx hb dX3_miss_218 (by decide) (fun c_218 => ?_) (fun c_218 => ?_)
                                · skip
                                  refine lv_iinc (lv' := [(7, .int (nI (wq + 1))), (8, .int _), (0, .ref _), (1, .int _), (5, .int _), (6, .int _)]) hx hb dX3_miss_237 hl (k := 5) rfl (nI_1 _) (by decide) rfl (fun ls hl => ?_)
                                  refine lv_goto (tgt := 149) hx hb dX3_miss_240 (by decide) ?_
                                  exact ih149 (wq + 1) _ _ _ (by omega) (by omega) (by rw [g_gm_step (by omega), ← hg2]; unfold f_gms; first | (rw [if_pos c_218]) | (rw [if_neg c_218])) _ _ hP hS ls (lv_sub hl [2, 3, 4, 5, 0] rfl)
                                · skip
                                  refine lv_iload hx hb dX3_miss_221 (lv_at hl 0 rfl) ?_
                                  refine lv_istore (lv' := [(5, .int _), (8, .int _), (0, .ref _), (1, .int _), (6, .int _), (7, .int _)]) hx hb dX3_miss_223 hl (by decide) rfl (fun ls hl => ?_)
                                  refine lv_aload_n hx hb dX3_miss_225 rfl (lv_at hl 2 rfl) ?_
                                  refine lv_iload hx hb dX3_miss_226 (lv_at hl 4 rfl) ?_
                                  refine va_put (D := (dC, dI)) (ci := 3) (ty := .int) (C := RX3) (T := TX3) (N := 13) hx hb hts inX3 tyX3 tyX3_ok nmX3 hown hK hP hD hS 0 rfl rfl 3 (by decide) hw6 (fun _ h9 => h9) rfl (by decide +kernel) rfl rfl (Nat.le_of_ble_eq_true rfl) dX3_miss_228 (fun H locs hP hD hS => ?_)
                                  have hP : va_P (dC, dI) vwCl (yw ad cI cJ (nI (2 ^ q)) dg sc ms (mi + 1) (nI vq) xw2 pu pl st x y nu) H := hP
                                  have hD : va_D A (yw ad cI cJ (nI (2 ^ q)) dg sc ms (mi + 1) (nI vq) xw2 pu pl st x y nu) := va_D_addr hD rfl
                                  refine lv_aload_n hx hb dX3_miss_231 rfl (lv_at hl 2 rfl) ?_
                                  refine lv_iload hx hb dX3_miss_232 (lv_at hl 5 rfl) ?_
                                  refine va_put (D := (dC, dI)) (ci := 3) (ty := .int) (C := RX3) (T := TX3) (N := 13) hx hb hts inX3 tyX3 tyX3_ok nmX3 hown hK hP hD hS 0 rfl rfl 4 (by decide) hw7 (fun _ h9 => h9) rfl (by decide +kernel) rfl rfl (Nat.le_of_ble_eq_true rfl) dX3_miss_234 (fun H locs hP hD hS => ?_)
                                  have hP : va_P (dC, dI) vwCl (yw ad cI cJ (nI (2 ^ q)) dg sc ms (mi + 1) (nI vq) (nI wq) pu pl st x y nu) H := hP
                                  have hD : va_D A (yw ad cI cJ (nI (2 ^ q)) dg sc ms (mi + 1) (nI vq) (nI wq) pu pl st x y nu) := va_D_addr hD rfl
                                  refine lv_iinc (lv' := [(7, .int (nI (wq + 1))), (5, .int _), (8, .int _), (0, .ref _), (1, .int _), (6, .int _)]) hx hb dX3_miss_237 hl (k := 5) rfl (nI_1 _) (by decide) rfl (fun ls hl => ?_)
                                  refine lv_goto (tgt := 149) hx hb dX3_miss_240 (by decide) ?_
                                  exact ih149 (wq + 1) _ _ _ (by omega) (by omega) (by rw [g_gm_step (by omega), ← hg2]; unfold f_gms; first | (rw [if_pos c_218]) | (rw [if_neg c_218])) _ _ hP hS ls (lv_sub hl [3, 4, 1, 5, 0] rfl)
                        exact L149 (2 ^ q + 2) 0 _ _ _ (by omega) (Nat.zero_le _) hg _ _ hP hS ls (lv_sub hl [1, 2, 3, 4, 0] rfl)
                  exact L137 (2 ^ q + 2) 0 _ _ _ (by omega) (Nat.zero_le _) rfl _ _ hP hS ls (lv_sub hl [2, 3, 1, 0] rfl)
                · skip
                  have hz := nI_nlt_go hv (by omega) c_83
                  refine lv_aload_n hx hb dX3_miss_86 rfl (lv_at hl 0 rfl) ?_
                  refine va_get (D := (dC, dI)) (ci := 3) (C := RX3) (T := TX3) (N := 13) hx hb hts inX3 hown hK hP 0 rfl rfl 5 (by decide) hw4 (fun _ h9 => h9) rfl dX3_miss_87 ?_
                  refine lv_iload hx hb dX3_miss_90 (lv_at hl 5 rfl) ?_
                  refine lv_aload_n hx hb dX3_miss_92 rfl (lv_at hl 0 rfl) ?_
                  refine lv_iload_n hx hb dX3_miss_93 rfl (lv_at hl 2 rfl) ?_
                  refine lv_iload hx hb dX3_miss_94 (lv_at hl 5 rfl) ?_
                  refine ro_l (va_runV ⟨hx, hb, hml, hown, hts⟩ (c_X3_sourceRow l hq) (cwV 2 hts gX3_miss_X3_sourceRow rfl rfl rfl ⟨rfl, kd_X3_sourceRow⟩ ⟨Nat.le_of_ble_eq_true rfl, Nat.le_of_ble_eq_true rfl⟩) (preV1 hnw hK hP 0 3 rfl rfl) rfl rfl hl.1 rfl (lv_room (Nat.le_of_ble_eq_true rfl)) dX3_miss_96 ⟨Nat.zero_le _, Nat.zero_le _⟩) ?_
                  refine va_last hx hb hK hP hD hS 2 1 rfl rfl (vp_in_nI (by omega) (by omega)) dX3_miss_99 (fun H locs hP hD hS => ?_)
                  have hP : va_P (dC, dI) vwCl (yw ad cI cJ (nI (2 ^ q)) dg sc ms (mi + 1) mv mw pu pl st _ y nu) H := hP
                  have hD : va_D A (yw ad cI cJ (nI (2 ^ q)) dg sc ms (mi + 1) mv mw pu pl st _ y nu) := va_D_addr hD rfl
                  refine lv_aload_n hx hb dX3_miss_100 rfl (lv_at hl 0 rfl) ?_
                  refine va_get (D := (dC, dI)) (ci := 3) (C := RX3) (T := TX3) (N := 13) hx hb hts inX3 hown hK hP 0 rfl rfl 6 (by decide) hw5 (fun _ h9 => h9) rfl dX3_miss_101 ?_
                  refine lv_iload hx hb dX3_miss_104 (lv_at hl 5 rfl) ?_
                  refine lv_aload_n hx hb dX3_miss_106 rfl (lv_at hl 0 rfl) ?_
                  refine lv_aload_n hx hb dX3_miss_107 rfl (lv_at hl 0 rfl) ?_
                  refine lv_iload_n hx hb dX3_miss_108 rfl (lv_at hl 3 rfl) ?_
                  refine lv_iload hx hb dX3_miss_109 (lv_at hl 5 rfl) ?_
                  refine ro_l (va_runV ⟨hx, hb, hml, hown, hts⟩ (c_X3_sourceRow l hq) (cwV 2 hts gX3_miss_X3_sourceRow rfl rfl rfl ⟨rfl, kd_X3_sourceRow⟩ ⟨Nat.le_of_ble_eq_true rfl, Nat.le_of_ble_eq_true rfl⟩) (preV1 hnw hK hP 0 3 rfl rfl) rfl rfl hl.1 rfl (lv_room (Nat.le_of_ble_eq_true rfl)) dX3_miss_111 ⟨Nat.zero_le _, Nat.zero_le _⟩) ?_
                  refine lv_iload hx hb dX3_miss_114 (lv_at hl 4 rfl) ?_
                  refine lv_aload_n hx hb dX3_miss_116 rfl (lv_at hl 0 rfl) ?_
                  refine va_get (D := (dC, dI)) (ci := 3) (C := RX3) (T := TX3) (N := 13) hx hb hts inX3 hown hK hP 0 rfl rfl 0 (by decide) hw3 (fun _ h9 => h9) rfl dX3_miss_117 ?_
                  refine lv_irem hx hb dX3_miss_120 (pw_ne hq) ?_
                  refine ro_l (va_runV ⟨hx, hb, hml, hown, hts⟩ (c_X3_shifted l (pw_ne hq)) (cwV 2 hts gX3_miss_X3_shifted rfl rfl rfl ⟨rfl, kd_X3_shifted⟩ ⟨Nat.le_of_ble_eq_true rfl, Nat.le_of_ble_eq_true rfl⟩) (preV1 hnw hK hP 0 3 rfl rfl) rfl rfl hl.1 rfl (lv_room (Nat.le_of_ble_eq_true rfl)) dX3_miss_121 ⟨Nat.zero_le _, Nat.zero_le _⟩) ?_
                  refine st_l (v := g_sh (nI (2 ^ q)) (g_srow q a2 (nI v) (2 ^ q)) (remI a3 (nI (2 ^ q))) (2 ^ q)) (by rw [pw_cl hq]; rfl) ?_
                  refine va_last hx hb hK hP hD hS 3 1 rfl rfl (vp_in_nI (by omega) (by omega)) dX3_miss_124 (fun H locs hP hD hS => ?_)
                  have hP : va_P (dC, dI) vwCl (yw ad cI cJ (nI (2 ^ q)) dg sc ms (mi + 1) mv mw pu pl st _ _ nu) H := hP
                  have hD : va_D A (yw ad cI cJ (nI (2 ^ q)) dg sc ms (mi + 1) mv mw pu pl st _ _ nu) := va_D_addr hD rfl
                  refine lv_iinc (lv' := [(5, .int (nI (v + 1))), (0, .ref _), (1, .int _), (2, .int _), (3, .int _), (4, .int _)]) hx hb dX3_miss_125 hl (k := 5) rfl (nI_1 _) (by decide) rfl (fun ls hl => ?_)
                  refine lv_goto (tgt := 77) hx hb dX3_miss_128 (by decide) ?_
                  exact ih77 (v + 1) _ _ (by omega) (by omega) (fun i h => by rw [nI_cl (by omega)]; exact fill_step hx1 i h) (fun i h => by rw [nI_cl (by omega)]; exact fill_step (F := fun i => g_sh (nI (2 ^ q)) (g_srow q a2 (nI i) (2 ^ q)) (remI a3 (nI (2 ^ q))) (2 ^ q)) hy1 i h) _ _ hP hS ls (lv_sub hl [1, 2, 3, 4, 5, 0] rfl)
            exact L77 (2 ^ q + 2) 0 fr sr (by omega) (Nat.zero_le _) (fun i h => absurd h (Nat.not_lt_zero i)) (fun i h => absurd h (Nat.not_lt_zero i)) _ _ hP hS ls (lv_sub hl [1, 2, 3, 4, 5, 0] rfl)
          · skip
            refine lv_bipush (v := (-103)) hx hb dX3_miss_61 (by decide) ?_
            simp only [p_miss, if_pos hC, if_pos c_58]
            exact W.iret hx hb hr (fun t ht _ => ⟨⟨_, (fr, sr), rfl, rfl, wpost ht hP⟩, hS.F ht⟩) hS.2.2 dX3_miss_63
        · skip
          have c_46 := bI_eq.mp c_46
          have c_46 : ¬ (0 ≤ a3 ∧ a3 ≤ 63) := fun h => c_46 ((in32 rfl rfl).mpr h)
          have hC : ¬ ((0 ≤ a0 ∧ a0 ≤ 3) ∧ srcs a1 ∧ srcs a2 ∧ (0 ≤ a3 ∧ a3 ≤ 63)) := fun h => c_46 h.2.2.2
          refine lv_bipush (v := (-102)) hx hb dX3_miss_49 (by decide) ?_
          simp only [p_miss, if_neg hC]
          exact W.iret hx hb hr (fun t ht _ => ⟨⟨_, (fr, sr), rfl, rfl, wpost ht hP⟩, hS.F ht⟩) hS.2.2 dX3_miss_51
theorem kd_X3_where : yX3_where.cls ≠ "java/lang/invoke/MethodHandle" ∧ yX3_where.cls ≠ "java/lang/invoke/VarHandle" ∧ (parseMethodDescriptor yX3_where.desc).map (fun d => d.parameters.length) = some 1 := by decide +kernel
set_option maxHeartbeats 4000000 in
set_option maxRecDepth 100000 in
theorem c_X3_where (l : Launch) {dC : Nat → ClassId} {dI : Nat → Nat → Nat} {ad : Nat → Nat} {cI cJ : ClassId} {ln : Int32} {dg : Int32} {sc : Int32} {ms : Int32} {mi : Int32} {mv : Int32} {mw : Int32} {pu : Int64} {pl : Int64} {st : (Nat → Int64)} {fr : (Nat → Int64)} {sr : (Nat → Int64)} {nu : (Nat → Int32)} {a0 : Int32} : Met l yX3_where wsX3_where ({ frames := 0, cells := 0, slots := 0, locals := 0 }) (va_Pc ([.ref (ad 0), .int a0] : List Value) (gB (dC, dI) (tyw cI cJ) (yw ad cI cJ ln dg sc ms mi mv mw pu pl st fr sr nu))) (QcRead (p_where mi mv mw a0)) 0 0 (fun _ => False) := by
  refine Met.ofW (cc := cX3_where) (maxL := 2) (ret := (some .int)) (by decide) rfl ?_
  intro p e s m args below meth c s₁ B hml hv
  obtain ⟨rfl, hnw, hK, hP⟩ := hv
  have hx := B.exec
  have hb := B.bytes
  have hr := B.returns
  have hts := atoms_spec (ws := wsX3_where) B.pre
  have hown : s.vm.findClass RX3 = some m.cls := findClass_of_methodNamed B.named
  have hlocks := B.notSynchronized
  have hw0 := hts (.fieldLink RX3 92 "BitStreamsModel" "misses" "I") (by decide +kernel)
  have hw1 := hts (.fieldLink RX3 101 "BitStreamsModel" "missW" "I") (by decide +kernel)
  have hw2 := hts (.fieldLink RX3 98 "BitStreamsModel" "missV" "I") (by decide +kernel)
  have inX3 : ∀ w ∈ wsX30, w ∈ wsX3_where := by decide +kernel
  have hl := lv_entry ([.ref (ad 0), .int a0] : List Value) (n := 2) (Nat.le_of_ble_eq_true rfl)
  rw [lg_entry_eq]
  generalize (lg_sl ([.ref (ad 0), .int a0] : List Value) ++ List.replicate (2 - (lg_sl ([.ref (ad 0), .int a0] : List Value)).length) Slot.unset).toArray = ls at hl ⊢
  have hl : lv_has ls 2 [(0, .ref (ad 0)), (1, .int a0)] := hl
  refine lv_aload_n hx hb dX3_where_0 rfl (lv_at hl 0 rfl) ?_
  refine va_get (D := (dC, dI)) (ci := 3) (C := RX3) (T := TX3) (N := 13) hx hb hts inX3 hown hK hP 0 rfl rfl 2 (by decide) hw0 (fun _ h9 => h9) rfl dX3_where_1 ?_
  refine lv_if_ne (tgt := 10) hx hb dX3_where_4 (by decide) (fun c_4 => ?_) (fun c_4 => ?_)
  · skip
    refine lv_iload_n hx hb dX3_where_10 rfl (lv_at hl 1 rfl) ?_
    refine lv_if_ne (tgt := 21) hx hb dX3_where_11 (by decide) (fun c_11 => ?_) (fun c_11 => ?_)
    · skip
      refine lv_iload_n hx hb dX3_where_21 rfl (lv_at hl 1 rfl) ?_
      refine lv_iconst (v := 1) hx hb dX3_where_22 (by decide) ?_
      refine lv_icmp_ne (tgt := 33) hx hb dX3_where_23 (by decide) (fun c_23 => ?_) (fun c_23 => ?_)
      · skip
        have hv : p_where mi mv mw a0 = -102 := by simp only [p_where, if_neg c_4, if_neg c_11, if_neg c_23]
        refine lv_bipush (v := (-102)) hx hb dX3_where_33 (by decide) ?_
        exact W.iret hx hb hr (fun t ht _ => ri hv.symm ht) no_locs dX3_where_35
      · skip
        have hv : p_where mi mv mw a0 = mw := by simp only [p_where, if_neg c_4, if_neg c_11, if_pos c_23]
        refine lv_aload_n hx hb dX3_where_26 rfl (lv_at hl 0 rfl) ?_
        refine va_get (D := (dC, dI)) (ci := 3) (C := RX3) (T := TX3) (N := 13) hx hb hts inX3 hown hK hP 0 rfl rfl 4 (by decide) hw1 (fun _ h9 => h9) rfl dX3_where_27 ?_
        refine lv_goto (tgt := 35) hx hb dX3_where_30 (by decide) ?_
        exact W.iret hx hb hr (fun t ht _ => ri hv.symm ht) no_locs dX3_where_35
    · skip
      have hv : p_where mi mv mw a0 = mv := by simp only [p_where, if_neg c_4, if_pos c_11]
      refine lv_aload_n hx hb dX3_where_14 rfl (lv_at hl 0 rfl) ?_
      refine va_get (D := (dC, dI)) (ci := 3) (C := RX3) (T := TX3) (N := 13) hx hb hts inX3 hown hK hP 0 rfl rfl 3 (by decide) hw2 (fun _ h9 => h9) rfl dX3_where_15 ?_
      refine lv_goto (tgt := 35) hx hb dX3_where_18 (by decide) ?_
      exact W.iret hx hb hr (fun t ht _ => ri hv.symm ht) no_locs dX3_where_35
  · skip
    have hv : p_where mi mv mw a0 = -103 := by simp only [p_where, if_pos c_4]
    refine lv_bipush (v := (-103)) hx hb dX3_where_7 (by decide) ?_
    exact W.iret hx hb hr (fun t ht _ => ri hv.symm ht) no_locs dX3_where_9
theorem kd_X3_machine : yX3_machine.cls ≠ "java/lang/invoke/MethodHandle" ∧ yX3_machine.cls ≠ "java/lang/invoke/VarHandle" ∧ (parseMethodDescriptor yX3_machine.desc).map (fun d => d.parameters.length) = some 3 := by decide +kernel
set_option maxHeartbeats 4000000 in
set_option maxRecDepth 100000 in
theorem c_X3_machine (l : Launch) {dC : Nat → ClassId} {dI : Nat → Nat → Nat} {ad : Nat → Nat} {cI cJ : ClassId} {ln : Int32} {dg : Int32} {sc : Int32} {ms : Int32} {mi : Int32} {mv : Int32} {mw : Int32} {pu : Int64} {pl : Int64} {st : (Nat → Int64)} {fr : (Nat → Int64)} {sr : (Nat → Int64)} {nu : (Nat → Int32)} {sz : Nat} {a0 a1 a2 : Int32} : Met l yX3_machine wsX3_machine ({ frames := 2, cells := 0, slots := 0, locals := 47 }) (va_Pc ([.ref (ad 0), .int a0, .int a1, .int a2] : List Value) (gW sz (dC, dI) (tyw cI cJ) (yw ad cI cJ ln dg sc ms mi mv mw pu pl st fr sr nu))) (va_Qi (fun r (_u : Unit) => r = (p_machine ln.toNatClampNeg ms st a0 a1 a2).1) (fun _u t => va_P (dC, dI) vwCl (yw ad cI cJ ln dg sc (p_machine ln.toNatClampNeg ms st a0 a1 a2).2.2 mi mv mw pu pl (p_machine ln.toNatClampNeg ms st a0 a1 a2).2.1 fr sr nu) t.heap) (va_A (yw ad cI cJ ln dg sc ms mi mv mw pu pl st fr sr nu) sz)) 0 0 (va_A (yw ad cI cJ ln dg sc ms mi mv mw pu pl st fr sr nu) sz) := by
  refine Met.ofW (cc := cX3_machine) (maxL := 8) (ret := (some .int)) (by decide) rfl ?_
  intro p e s m args below meth c s₁ B hml hv
  obtain ⟨rfl, hsz, ⟨hnw, hK, hP⟩, hD0⟩ := hv
  have hx := B.exec
  have hb := B.bytes
  have hr := B.returns
  have hts := atoms_spec (ws := wsX3_machine) B.pre
  have hown : s.vm.findClass RX3 = some m.cls := findClass_of_methodNamed B.named
  have hlocks := B.notSynchronized
  subst hsz
  have hD := hD0.self (sz := s.heap.size)
  generalize hAe : va_A (yw ad cI cJ ln dg sc ms mi mv mw pu pl st fr sr nu) s.heap.size = A at hD ⊢
  have hA : ∀ q : Nat, s.heap.size ≤ q → A q := fun q h => by rw [← hAe]; exact Or.inr h
  have hS : va_S A s.heap s.heap [] := va_S.rf
  have hw0 := hts (.fieldLink RX3 23 "BitStreamsModel" "size" "I") (by decide +kernel)
  have hw1 := hts (.fieldLink RX3 7 "BitStreamsModel" "rows" "[J") (by decide +kernel)
  have hw2 := hts (.fieldLink RX3 27 "BitStreamsModel" "behind" "I") (by decide +kernel)
  have inX3 : ∀ w ∈ wsX30, w ∈ wsX3_machine := by decide +kernel
  have hl := lv_entry ([.ref (ad 0), .int a0, .int a1, .int a2] : List Value) (n := 8) (Nat.le_of_ble_eq_true rfl)
  rw [lg_entry_eq]
  generalize (lg_sl ([.ref (ad 0), .int a0, .int a1, .int a2] : List Value) ++ List.replicate (8 - (lg_sl ([.ref (ad 0), .int a0, .int a1, .int a2] : List Value)).length) Slot.unset).toArray = ls at hl ⊢
  have hl : lv_has ls 8 [(0, .ref (ad 0)), (1, .int a0), (2, .int a1), (3, .int a2)] := hl
  refine lv_iload_n hx hb dX3_machine_0 rfl (lv_at hl 1 rfl) ?_
  refine ro_i (va_runS ⟨hx, hb, hml, hown, hts⟩ (c_X3_isStream l ) (va_cwS 1 hts gX3_machine_X3_isStream rfl rfl rfl kd_X3_isStream ⟨Nat.le_of_ble_eq_true rfl, Nat.le_of_ble_eq_true rfl⟩) preS0 rfl rfl hl.1 rfl (lv_room (Nat.le_of_ble_eq_true rfl)) dX3_machine_1 ⟨Nat.zero_le _, Nat.zero_le _⟩) ?_
  refine lv_if_eq (tgt := 14) hx hb dX3_machine_4 (by decide) (fun c_4 => ?_) (fun c_4 => ?_)
  · skip
    have c_4 := bI_eq.mp c_4
    have hC : ¬ (strm a0 ∧ strm a2) := fun h => c_4 h.1
    refine lv_bipush (v := (-101)) hx hb dX3_machine_14 (by decide) ?_
    simp only [p_machine, if_neg hC]
    exact W.iret hx hb hr (fun t ht _ => ⟨⟨_, (), rfl, rfl, wpost ht hP⟩, hS.F ht⟩) hS.2.2 dX3_machine_16
  · skip
    have c_4 := bI_ne.mp c_4
    refine lv_iload_n hx hb dX3_machine_7 rfl (lv_at hl 3 rfl) ?_
    refine ro_i (va_runS ⟨hx, hb, hml, hown, hts⟩ (c_X3_isStream l ) (va_cwS 1 hts gX3_machine_X3_isStream rfl rfl rfl kd_X3_isStream ⟨Nat.le_of_ble_eq_true rfl, Nat.le_of_ble_eq_true rfl⟩) preS0 rfl rfl hl.1 rfl (lv_room (Nat.le_of_ble_eq_true rfl)) dX3_machine_8 ⟨Nat.zero_le _, Nat.zero_le _⟩) ?_
    refine lv_if_ne (tgt := 17) hx hb dX3_machine_11 (by decide) (fun c_11 => ?_) (fun c_11 => ?_)
    · skip
      have c_11 := bI_ne.mp c_11
      have hC : strm a0 ∧ strm a2 := ⟨c_4, c_11⟩
      refine lv_iload_n hx hb dX3_machine_17 rfl (lv_at hl 2 rfl) ?_
      refine ro_i (va_runS ⟨hx, hb, hml, hown, hts⟩ (c_X3_isMachine l ) (va_cwS 1 hts gX3_machine_X3_isMachine rfl rfl rfl kd_X3_isMachine ⟨Nat.le_of_ble_eq_true rfl, Nat.le_of_ble_eq_true rfl⟩) preS0 rfl rfl hl.1 rfl (lv_room (Nat.le_of_ble_eq_true rfl)) dX3_machine_18 ⟨Nat.zero_le _, Nat.zero_le _⟩) ?_
      refine lv_if_ne (tgt := 27) hx hb dX3_machine_21 (by decide) (fun c_21 => ?_) (fun c_21 => ?_)
      · skip
        have c_21 := bI_ne.mp c_21
        refine lv_iload_n hx hb dX3_machine_27 rfl (lv_at hl 2 rfl) ?_
        refine lv_iconst (v := 2) hx hb dX3_machine_28 (by decide) ?_
        refine lv_idiv hx hb dX3_machine_29 (by decide) ?_
        refine lv_iconst (v := 1) hx hb dX3_machine_30 (by decide) ?_
        refine lv_isub hx hb dX3_machine_31 ?_
        refine lv_istore (lv' := [(4, .int _), (0, .ref _), (1, .int _), (2, .int _), (3, .int _)]) hx hb dX3_machine_32 hl (by decide) rfl (fun ls hl => ?_)
        refine lv_lconst (v := 0) hx hb dX3_machine_34 (by decide) ?_
        refine lv_lstore (lv' := [(5, .long _), (4, .int _), (0, .ref _), (1, .int _), (2, .int _), (3, .int _)]) hx hb dX3_machine_35 hl (by decide) rfl (fun ls hl => ?_)
        refine lv_iconst (v := 0) hx hb dX3_machine_37 (by decide) ?_
        refine lv_istore (lv' := [(7, .int _), (5, .long _), (4, .int _), (0, .ref _), (1, .int _), (2, .int _), (3, .int _)]) hx hb dX3_machine_38 hl (by decide) rfl (fun ls hl => ?_)
        have L40 : ∀ (n40 : Nat) (kq : Nat) (sq : Int32) (rowq : Int64), ln.toNatClampNeg + 1 ≤ kq + n40 → (kq ≤ ln.toNatClampNeg) → (sq = g_mst (st a0.toNatClampNeg) a1 kq) → (rowq = g_mrow (st a0.toNatClampNeg) a1 kq) → ∀ (H : Heap) (locs : List Loc), va_P (dC, dI) vwCl (yw ad cI cJ ln dg sc ms mi mv mw pu pl st fr sr nu) H → va_S A s.heap H locs → ∀ (ls : Array Slot), lv_has ls 8 [(0, .ref (ad 0)), (1, .int a0), (2, .int a1), (3, .int a2), (4, .int sq), (5, .long rowq), (7, .int (nI kq))] → W p l e { frames := 2, cells := 0, slots := 0, locals := 47 } s m ([.ref (ad 0), .int a0, .int a1, .int a2] : List Value).toArray below meth c H locs 0 0 (MQ below (va_Qi (fun r (_u : Unit) => r = (p_machine ln.toNatClampNeg ms st a0 a1 a2).1) (fun _u t => va_P (dC, dI) vwCl (yw ad cI cJ ln dg sc (p_machine ln.toNatClampNeg ms st a0 a1 a2).2.2 mi mv mw pu pl (p_machine ln.toNatClampNeg ms st a0 a1 a2).2.1 fr sr nu) t.heap) A) ([.ref (ad 0), .int a0, .int a1, .int a2] : List Value).toArray s 0 0 (A)) (F0 m 40 ls []) := by
          intro n40
          induction n40 with
          | zero =>
            intro kq sq rowq hf40 hk hsq hrq
            exact absurd hf40 (by omega)
          | succ n40 ih40 =>
            intro kq sq rowq hf40 hk hsq hrq H locs hP hS ls hl
            have hD : va_D A (yw ad cI cJ ln dg sc ms mi mv mw pu pl st fr sr nu) := va_D_addr hD rfl
            refine lv_iload hx hb dX3_machine_40 (lv_at hl 6 rfl) ?_
            refine lv_aload_n hx hb dX3_machine_42 rfl (lv_at hl 0 rfl) ?_
            refine va_get (D := (dC, dI)) (ci := 3) (C := RX3) (T := TX3) (N := 13) hx hb hts inX3 hown hK hP 0 rfl rfl 0 (by decide) hw0 (fun _ h9 => h9) rfl dX3_machine_43 ?_
            refine lv_icmp_ge (tgt := 128) hx hb dX3_machine_46 (by decide) (fun c_46 => ?_) (fun c_46 => ?_)
            · skip
              have hz := cl_end hk c_46
              refine lv_aload_n hx hb dX3_machine_128 rfl (lv_at hl 0 rfl) ?_
              refine va_get (D := (dC, dI)) (ci := 3) (C := RX3) (T := TX3) (N := 13) hx hb hts inX3 hown hK hP 0 rfl rfl 1 (by decide) hw1 (fun _ h9 => h9) rfl dX3_machine_129 ?_
              refine lv_iload_n hx hb dX3_machine_132 rfl (lv_at hl 3 rfl) ?_
              refine lv_lload hx hb dX3_machine_133 (lv_at hl 5 rfl) ?_
              refine va_last hx hb hK hP hD hS 1 1 rfl rfl (strm_in c_11) dX3_machine_135 (fun H locs hP hD hS => ?_)
              have hP : va_P (dC, dI) vwCl (yw ad cI cJ ln dg sc ms mi mv mw pu pl _ fr sr nu) H := hP
              have hD : va_D A (yw ad cI cJ ln dg sc ms mi mv mw pu pl _ fr sr nu) := va_D_addr hD rfl
              refine lv_aload_n hx hb dX3_machine_136 rfl (lv_at hl 0 rfl) ?_
              refine lv_iload hx hb dX3_machine_137 (lv_at hl 4 rfl) ?_
              refine va_put (D := (dC, dI)) (ci := 3) (ty := .int) (C := RX3) (T := TX3) (N := 13) hx hb hts inX3 tyX3 tyX3_ok nmX3 hown hK hP hD hS 0 rfl rfl 7 (by decide) hw2 (fun _ h9 => h9) rfl (by decide +kernel) rfl rfl (Nat.le_of_ble_eq_true rfl) dX3_machine_139 (fun H locs hP hD hS => ?_)
              have hP : va_P (dC, dI) vwCl (yw ad cI cJ ln dg sc _ mi mv mw pu pl _ fr sr nu) H := hP
              have hD : va_D A (yw ad cI cJ ln dg sc _ mi mv mw pu pl _ fr sr nu) := va_D_addr hD rfl
              refine lv_aload_n hx hb dX3_machine_142 rfl (lv_at hl 0 rfl) ?_
              refine lv_lload hx hb dX3_machine_143 (lv_at hl 5 rfl) ?_
              refine ro_i (va_runV ⟨hx, hb, hml, hown, hts⟩ (c_X3_onesOf l ) (cwV 1 hts gX3_machine_X3_onesOf rfl rfl rfl ⟨rfl, kd_X3_onesOf⟩ ⟨Nat.le_of_ble_eq_true rfl, Nat.le_of_ble_eq_true rfl⟩) (preV1 hnw hK hP 0 3 rfl rfl) rfl rfl hl.1 rfl (lv_room (Nat.le_of_ble_eq_true rfl)) dX3_machine_145 ⟨Nat.zero_le _, Nat.zero_le _⟩) ?_
              simp only [p_machine, if_pos hC, if_pos c_21]
              rw [hz, ← hsq, ← hrq]
              exact W.iret hx hb hr (fun t ht _ => ⟨⟨_, (), rfl, rfl, wpost ht hP⟩, hS.F ht⟩) hS.2.2 dX3_machine_148
            · skip
              refine lv_aload_n hx hb dX3_machine_49 rfl (lv_at hl 0 rfl) ?_
              refine lv_aload_n hx hb dX3_machine_50 rfl (lv_at hl 0 rfl) ?_
              refine va_get (D := (dC, dI)) (ci := 3) (C := RX3) (T := TX3) (N := 13) hx hb hts inX3 hown hK hP 0 rfl rfl 1 (by decide) hw1 (fun _ h9 => h9) rfl dX3_machine_51 ?_
              refine lv_iload_n hx hb dX3_machine_54 rfl (lv_at hl 1 rfl) ?_
              refine va_lald hx hb hK hP 1 1 rfl rfl (strm_in c_4) dX3_machine_55 ?_
              refine lv_iload hx hb dX3_machine_56 (lv_at hl 6 rfl) ?_
              refine ro_i (va_runV ⟨hx, hb, hml, hown, hts⟩ (c_X3_bitOf l ) (cwV 2 hts gX3_machine_X3_bitOf rfl rfl rfl ⟨rfl, kd_X3_bitOf⟩ ⟨Nat.le_of_ble_eq_true rfl, Nat.le_of_ble_eq_true rfl⟩) (preV1 hnw hK hP 0 3 rfl rfl) rfl rfl hl.1 rfl (lv_room (Nat.le_of_ble_eq_true rfl)) dX3_machine_58 ⟨Nat.zero_le _, Nat.zero_le _⟩) ?_
              refine lv_iconst (v := 1) hx hb dX3_machine_61 (by decide) ?_
              refine lv_icmp_ne (tgt := 86) hx hb dX3_machine_62 (by decide) (fun c_62 => ?_) (fun c_62 => ?_)
              · skip
                refine lv_iload hx hb dX3_machine_86 (lv_at hl 4 rfl) ?_
                refine lv_iload hx hb dX3_machine_88 (lv_at hl 4 rfl) ?_
                refine lv_if_le (tgt := 97) hx hb dX3_machine_90 (by decide) (fun c_90 => ?_) (fun c_90 => ?_)
                · skip
                  have hst : ∀ x y : Int32, (if sq ≤ 0 then x else y) = x := fun x y => if_pos c_90
                  refine lv_iconst (v := 0) hx hb dX3_machine_97 (by decide) ?_
                  refine lv_isub hx hb dX3_machine_98 ?_
                  refine lv_topi (fun s1 es1 => ?_)
                  have hs1 : s1 = g_mst (st a0.toNatClampNeg) a1 (kq + 1) := by rw [es1, g_mst, ← hsq, if_neg c_62, hst]
                  refine lv_istore (lv' := [(4, .int _), (0, .ref _), (1, .int _), (2, .int _), (3, .int _), (5, .long _), (7, .int _)]) hx hb dX3_machine_99 hl (by decide) rfl (fun ls hl => ?_)
                  refine lv_lload hx hb dX3_machine_101 (lv_at hl 5 rfl) ?_
                  refine lv_iload hx hb dX3_machine_103 (lv_at hl 0 rfl) ?_
                  refine lv_iload_n hx hb dX3_machine_105 rfl (lv_at hl 3 rfl) ?_
                  refine lv_iconst (v := 2) hx hb dX3_machine_106 (by decide) ?_
                  refine lv_idiv hx hb dX3_machine_107 (by decide) ?_
                  refine lv_icmp_lt (tgt := 118) hx hb dX3_machine_108 (by decide) (fun c_108 => ?_) (fun c_108 => ?_)
                  · skip
                    refine lv_lconst (v := 0) hx hb dX3_machine_118 (by decide) ?_
                    refine lv_lor hx hb dX3_machine_119 ?_
                    refine lv_lstore (lv' := [(5, .long _), (4, .int _), (0, .ref _), (1, .int _), (2, .int _), (3, .int _), (7, .int _)]) hx hb dX3_machine_120 hl (by decide) rfl (fun ls hl => ?_)
                    refine lv_iinc (lv' := [(7, .int (nI (kq + 1))), (5, .long _), (4, .int _), (0, .ref _), (1, .int _), (2, .int _), (3, .int _)]) hx hb dX3_machine_122 hl (k := 6) rfl (nI_1 _) (by decide) rfl (fun ls hl => ?_)
                    refine lv_goto (tgt := 40) hx hb dX3_machine_125 (by decide) ?_
                    exact ih40 (kq + 1) _ _ (by have := cl_go hk c_46; omega) (cl_go hk c_46) hs1 (by rw [g_mrow, ← hs1, hrq]; first | rw [if_pos c_108] | (rw [if_neg c_108]; rfl)) _ _ hP hS ls (lv_sub hl [3, 4, 5, 6, 2, 1, 0] rfl)
                  · skip
                    refine lv_lconst (v := 1) hx hb dX3_machine_111 (by decide) ?_
                    refine lv_iload hx hb dX3_machine_112 (lv_at hl 6 rfl) ?_
                    refine lv_lshl hx hb dX3_machine_114 rfl ?_
                    refine lv_goto (tgt := 119) hx hb dX3_machine_115 (by decide) ?_
                    refine lv_lor hx hb dX3_machine_119 ?_
                    refine lv_lstore (lv' := [(5, .long _), (4, .int _), (0, .ref _), (1, .int _), (2, .int _), (3, .int _), (7, .int _)]) hx hb dX3_machine_120 hl (by decide) rfl (fun ls hl => ?_)
                    refine lv_iinc (lv' := [(7, .int (nI (kq + 1))), (5, .long _), (4, .int _), (0, .ref _), (1, .int _), (2, .int _), (3, .int _)]) hx hb dX3_machine_122 hl (k := 6) rfl (nI_1 _) (by decide) rfl (fun ls hl => ?_)
                    refine lv_goto (tgt := 40) hx hb dX3_machine_125 (by decide) ?_
                    exact ih40 (kq + 1) _ _ (by have := cl_go hk c_46; omega) (cl_go hk c_46) hs1 (by rw [g_mrow, ← hs1, hrq]; first | rw [if_pos c_108] | (rw [if_neg c_108]; rfl)) _ _ hP hS ls (lv_sub hl [3, 4, 5, 6, 2, 1, 0] rfl)
                · skip
                  have hst : ∀ x y : Int32, (if sq ≤ 0 then x else y) = y := fun x y => if_neg c_90
                  refine lv_iconst (v := 1) hx hb dX3_machine_93 (by decide) ?_
                  refine lv_goto (tgt := 98) hx hb dX3_machine_94 (by decide) ?_
                  refine lv_isub hx hb dX3_machine_98 ?_
                  refine lv_topi (fun s1 es1 => ?_)
                  have hs1 : s1 = g_mst (st a0.toNatClampNeg) a1 (kq + 1) := by rw [es1, g_mst, ← hsq, if_neg c_62, hst]
                  refine lv_istore (lv' := [(4, .int _), (0, .ref _), (1, .int _), (2, .int _), (3, .int _), (5, .long _), (7, .int _)]) hx hb dX3_machine_99 hl (by decide) rfl (fun ls hl => ?_)
                  refine lv_lload hx hb dX3_machine_101 (lv_at hl 5 rfl) ?_
                  refine lv_iload hx hb dX3_machine_103 (lv_at hl 0 rfl) ?_
                  refine lv_iload_n hx hb dX3_machine_105 rfl (lv_at hl 3 rfl) ?_
                  refine lv_iconst (v := 2) hx hb dX3_machine_106 (by decide) ?_
                  refine lv_idiv hx hb dX3_machine_107 (by decide) ?_
                  refine lv_icmp_lt (tgt := 118) hx hb dX3_machine_108 (by decide) (fun c_108 => ?_) (fun c_108 => ?_)
                  · skip
                    refine lv_lconst (v := 0) hx hb dX3_machine_118 (by decide) ?_
                    refine lv_lor hx hb dX3_machine_119 ?_
                    refine lv_lstore (lv' := [(5, .long _), (4, .int _), (0, .ref _), (1, .int _), (2, .int _), (3, .int _), (7, .int _)]) hx hb dX3_machine_120 hl (by decide) rfl (fun ls hl => ?_)
                    refine lv_iinc (lv' := [(7, .int (nI (kq + 1))), (5, .long _), (4, .int _), (0, .ref _), (1, .int _), (2, .int _), (3, .int _)]) hx hb dX3_machine_122 hl (k := 6) rfl (nI_1 _) (by decide) rfl (fun ls hl => ?_)
                    refine lv_goto (tgt := 40) hx hb dX3_machine_125 (by decide) ?_
                    exact ih40 (kq + 1) _ _ (by have := cl_go hk c_46; omega) (cl_go hk c_46) hs1 (by rw [g_mrow, ← hs1, hrq]; first | rw [if_pos c_108] | (rw [if_neg c_108]; rfl)) _ _ hP hS ls (lv_sub hl [3, 4, 5, 6, 2, 1, 0] rfl)
                  · skip
                    refine lv_lconst (v := 1) hx hb dX3_machine_111 (by decide) ?_
                    refine lv_iload hx hb dX3_machine_112 (lv_at hl 6 rfl) ?_
                    refine lv_lshl hx hb dX3_machine_114 rfl ?_
                    refine lv_goto (tgt := 119) hx hb dX3_machine_115 (by decide) ?_
                    refine lv_lor hx hb dX3_machine_119 ?_
                    refine lv_lstore (lv' := [(5, .long _), (4, .int _), (0, .ref _), (1, .int _), (2, .int _), (3, .int _), (7, .int _)]) hx hb dX3_machine_120 hl (by decide) rfl (fun ls hl => ?_)
                    refine lv_iinc (lv' := [(7, .int (nI (kq + 1))), (5, .long _), (4, .int _), (0, .ref _), (1, .int _), (2, .int _), (3, .int _)]) hx hb dX3_machine_122 hl (k := 6) rfl (nI_1 _) (by decide) rfl (fun ls hl => ?_)
                    refine lv_goto (tgt := 40) hx hb dX3_machine_125 (by decide) ?_
                    exact ih40 (kq + 1) _ _ (by have := cl_go hk c_46; omega) (cl_go hk c_46) hs1 (by rw [g_mrow, ← hs1, hrq]; first | rw [if_pos c_108] | (rw [if_neg c_108]; rfl)) _ _ hP hS ls (lv_sub hl [3, 4, 5, 6, 2, 1, 0] rfl)
              · skip
                refine lv_iload hx hb dX3_machine_65 (lv_at hl 4 rfl) ?_
                refine lv_iload hx hb dX3_machine_67 (lv_at hl 4 rfl) ?_
                refine lv_iload_n hx hb dX3_machine_69 rfl (lv_at hl 2 rfl) ?_
                refine lv_iconst (v := 1) hx hb dX3_machine_70 (by decide) ?_
                refine lv_isub hx hb dX3_machine_71 ?_
                refine lv_icmp_ge (tgt := 79) hx hb dX3_machine_72 (by decide) (fun c_72 => ?_) (fun c_72 => ?_)
                · skip
                  have hst : ∀ x y : Int32, (if a1 - 1 ≤ sq then x else y) = x := fun x y => if_pos c_72
                  refine lv_iconst (v := 0) hx hb dX3_machine_79 (by decide) ?_
                  refine lv_iadd hx hb dX3_machine_80 ?_
                  refine lv_topi (fun s1 es1 => ?_)
                  have hs1 : s1 = g_mst (st a0.toNatClampNeg) a1 (kq + 1) := by rw [es1, g_mst, ← hsq, if_pos c_62, hst]
                  refine lv_istore (lv' := [(4, .int _), (0, .ref _), (1, .int _), (2, .int _), (3, .int _), (5, .long _), (7, .int _)]) hx hb dX3_machine_81 hl (by decide) rfl (fun ls hl => ?_)
                  refine lv_goto (tgt := 101) hx hb dX3_machine_83 (by decide) ?_
                  refine lv_lload hx hb dX3_machine_101 (lv_at hl 5 rfl) ?_
                  refine lv_iload hx hb dX3_machine_103 (lv_at hl 0 rfl) ?_
                  refine lv_iload_n hx hb dX3_machine_105 rfl (lv_at hl 3 rfl) ?_
                  refine lv_iconst (v := 2) hx hb dX3_machine_106 (by decide) ?_
                  refine lv_idiv hx hb dX3_machine_107 (by decide) ?_
                  refine lv_icmp_lt (tgt := 118) hx hb dX3_machine_108 (by decide) (fun c_108 => ?_) (fun c_108 => ?_)
                  · skip
                    refine lv_lconst (v := 0) hx hb dX3_machine_118 (by decide) ?_
                    refine lv_lor hx hb dX3_machine_119 ?_
                    refine lv_lstore (lv' := [(5, .long _), (4, .int _), (0, .ref _), (1, .int _), (2, .int _), (3, .int _), (7, .int _)]) hx hb dX3_machine_120 hl (by decide) rfl (fun ls hl => ?_)
                    refine lv_iinc (lv' := [(7, .int (nI (kq + 1))), (5, .long _), (4, .int _), (0, .ref _), (1, .int _), (2, .int _), (3, .int _)]) hx hb dX3_machine_122 hl (k := 6) rfl (nI_1 _) (by decide) rfl (fun ls hl => ?_)
                    refine lv_goto (tgt := 40) hx hb dX3_machine_125 (by decide) ?_
                    exact ih40 (kq + 1) _ _ (by have := cl_go hk c_46; omega) (cl_go hk c_46) hs1 (by rw [g_mrow, ← hs1, hrq]; first | rw [if_pos c_108] | (rw [if_neg c_108]; rfl)) _ _ hP hS ls (lv_sub hl [3, 4, 5, 6, 2, 1, 0] rfl)
                  · skip
                    refine lv_lconst (v := 1) hx hb dX3_machine_111 (by decide) ?_
                    refine lv_iload hx hb dX3_machine_112 (lv_at hl 6 rfl) ?_
                    refine lv_lshl hx hb dX3_machine_114 rfl ?_
                    refine lv_goto (tgt := 119) hx hb dX3_machine_115 (by decide) ?_
                    refine lv_lor hx hb dX3_machine_119 ?_
                    refine lv_lstore (lv' := [(5, .long _), (4, .int _), (0, .ref _), (1, .int _), (2, .int _), (3, .int _), (7, .int _)]) hx hb dX3_machine_120 hl (by decide) rfl (fun ls hl => ?_)
                    refine lv_iinc (lv' := [(7, .int (nI (kq + 1))), (5, .long _), (4, .int _), (0, .ref _), (1, .int _), (2, .int _), (3, .int _)]) hx hb dX3_machine_122 hl (k := 6) rfl (nI_1 _) (by decide) rfl (fun ls hl => ?_)
                    refine lv_goto (tgt := 40) hx hb dX3_machine_125 (by decide) ?_
                    exact ih40 (kq + 1) _ _ (by have := cl_go hk c_46; omega) (cl_go hk c_46) hs1 (by rw [g_mrow, ← hs1, hrq]; first | rw [if_pos c_108] | (rw [if_neg c_108]; rfl)) _ _ hP hS ls (lv_sub hl [3, 4, 5, 6, 2, 1, 0] rfl)
                · skip
                  have hst : ∀ x y : Int32, (if a1 - 1 ≤ sq then x else y) = y := fun x y => if_neg c_72
                  refine lv_iconst (v := 1) hx hb dX3_machine_75 (by decide) ?_
                  refine lv_goto (tgt := 80) hx hb dX3_machine_76 (by decide) ?_
                  refine lv_iadd hx hb dX3_machine_80 ?_
                  refine lv_topi (fun s1 es1 => ?_)
                  have hs1 : s1 = g_mst (st a0.toNatClampNeg) a1 (kq + 1) := by rw [es1, g_mst, ← hsq, if_pos c_62, hst]
                  refine lv_istore (lv' := [(4, .int _), (0, .ref _), (1, .int _), (2, .int _), (3, .int _), (5, .long _), (7, .int _)]) hx hb dX3_machine_81 hl (by decide) rfl (fun ls hl => ?_)
                  refine lv_goto (tgt := 101) hx hb dX3_machine_83 (by decide) ?_
                  refine lv_lload hx hb dX3_machine_101 (lv_at hl 5 rfl) ?_
                  refine lv_iload hx hb dX3_machine_103 (lv_at hl 0 rfl) ?_
                  refine lv_iload_n hx hb dX3_machine_105 rfl (lv_at hl 3 rfl) ?_
                  refine lv_iconst (v := 2) hx hb dX3_machine_106 (by decide) ?_
                  refine lv_idiv hx hb dX3_machine_107 (by decide) ?_
                  refine lv_icmp_lt (tgt := 118) hx hb dX3_machine_108 (by decide) (fun c_108 => ?_) (fun c_108 => ?_)
                  · skip
                    refine lv_lconst (v := 0) hx hb dX3_machine_118 (by decide) ?_
                    refine lv_lor hx hb dX3_machine_119 ?_
                    refine lv_lstore (lv' := [(5, .long _), (4, .int _), (0, .ref _), (1, .int _), (2, .int _), (3, .int _), (7, .int _)]) hx hb dX3_machine_120 hl (by decide) rfl (fun ls hl => ?_)
                    refine lv_iinc (lv' := [(7, .int (nI (kq + 1))), (5, .long _), (4, .int _), (0, .ref _), (1, .int _), (2, .int _), (3, .int _)]) hx hb dX3_machine_122 hl (k := 6) rfl (nI_1 _) (by decide) rfl (fun ls hl => ?_)
                    refine lv_goto (tgt := 40) hx hb dX3_machine_125 (by decide) ?_
                    exact ih40 (kq + 1) _ _ (by have := cl_go hk c_46; omega) (cl_go hk c_46) hs1 (by rw [g_mrow, ← hs1, hrq]; first | rw [if_pos c_108] | (rw [if_neg c_108]; rfl)) _ _ hP hS ls (lv_sub hl [3, 4, 5, 6, 2, 1, 0] rfl)
                  · skip
                    refine lv_lconst (v := 1) hx hb dX3_machine_111 (by decide) ?_
                    refine lv_iload hx hb dX3_machine_112 (lv_at hl 6 rfl) ?_
                    refine lv_lshl hx hb dX3_machine_114 rfl ?_
                    refine lv_goto (tgt := 119) hx hb dX3_machine_115 (by decide) ?_
                    refine lv_lor hx hb dX3_machine_119 ?_
                    refine lv_lstore (lv' := [(5, .long _), (4, .int _), (0, .ref _), (1, .int _), (2, .int _), (3, .int _), (7, .int _)]) hx hb dX3_machine_120 hl (by decide) rfl (fun ls hl => ?_)
                    refine lv_iinc (lv' := [(7, .int (nI (kq + 1))), (5, .long _), (4, .int _), (0, .ref _), (1, .int _), (2, .int _), (3, .int _)]) hx hb dX3_machine_122 hl (k := 6) rfl (nI_1 _) (by decide) rfl (fun ls hl => ?_)
                    refine lv_goto (tgt := 40) hx hb dX3_machine_125 (by decide) ?_
                    exact ih40 (kq + 1) _ _ (by have := cl_go hk c_46; omega) (cl_go hk c_46) hs1 (by rw [g_mrow, ← hs1, hrq]; first | rw [if_pos c_108] | (rw [if_neg c_108]; rfl)) _ _ hP hS ls (lv_sub hl [3, 4, 5, 6, 2, 1, 0] rfl)
        exact L40 (ln.toNatClampNeg + 1) 0 _ _ (by omega) (Nat.zero_le _) rfl rfl _ _ hP hS ls (lv_sub hl [3, 4, 5, 6, 2, 1, 0] rfl)
      · skip
        have c_21 := bI_eq.mp c_21
        refine lv_bipush (v := (-102)) hx hb dX3_machine_24 (by decide) ?_
        simp only [p_machine, if_pos hC, if_neg c_21]
        exact W.iret hx hb hr (fun t ht _ => ⟨⟨_, (), rfl, rfl, wpost ht hP⟩, hS.F ht⟩) hS.2.2 dX3_machine_26
    · skip
      have c_11 := bI_eq.mp c_11
      have hC : ¬ (strm a0 ∧ strm a2) := fun h => c_11 h.2
      refine lv_bipush (v := (-101)) hx hb dX3_machine_14 (by decide) ?_
      simp only [p_machine, if_neg hC]
      exact W.iret hx hb hr (fun t ht _ => ⟨⟨_, (), rfl, rfl, wpost ht hP⟩, hS.F ht⟩) hS.2.2 dX3_machine_16
theorem kd_X3_state : yX3_state.cls ≠ "java/lang/invoke/MethodHandle" ∧ yX3_state.cls ≠ "java/lang/invoke/VarHandle" ∧ (parseMethodDescriptor yX3_state.desc).map (fun d => d.parameters.length) = some 0 := by decide +kernel
set_option maxHeartbeats 4000000 in
set_option maxRecDepth 100000 in
theorem c_X3_state (l : Launch) {dC : Nat → ClassId} {dI : Nat → Nat → Nat} {ad : Nat → Nat} {cI cJ : ClassId} {ln : Int32} {dg : Int32} {sc : Int32} {ms : Int32} {mi : Int32} {mv : Int32} {mw : Int32} {pu : Int64} {pl : Int64} {st : (Nat → Int64)} {fr : (Nat → Int64)} {sr : (Nat → Int64)} {nu : (Nat → Int32)}  : Met l yX3_state wsX3_state ({ frames := 0, cells := 0, slots := 0, locals := 0 }) (va_Pc ([.ref (ad 0)] : List Value) (gB (dC, dI) (tyw cI cJ) (yw ad cI cJ ln dg sc ms mi mv mw pu pl st fr sr nu))) (QcRead (ms)) 0 0 (fun _ => False) := by
  refine Met.ofW (cc := cX3_state) (maxL := 1) (ret := (some .int)) (by decide) rfl ?_
  intro p e s m args below meth c s₁ B hml hv
  obtain ⟨rfl, hnw, hK, hP⟩ := hv
  have hx := B.exec
  have hb := B.bytes
  have hr := B.returns
  have hts := atoms_spec (ws := wsX3_state) B.pre
  have hown : s.vm.findClass RX3 = some m.cls := findClass_of_methodNamed B.named
  have hlocks := B.notSynchronized
  have hw0 := hts (.fieldLink RX3 27 "BitStreamsModel" "behind" "I") (by decide +kernel)
  have inX3 : ∀ w ∈ wsX30, w ∈ wsX3_state := by decide +kernel
  have hl := lv_entry ([.ref (ad 0)] : List Value) (n := 1) (Nat.le_of_ble_eq_true rfl)
  rw [lg_entry_eq]
  generalize (lg_sl ([.ref (ad 0)] : List Value) ++ List.replicate (1 - (lg_sl ([.ref (ad 0)] : List Value)).length) Slot.unset).toArray = ls at hl ⊢
  have hl : lv_has ls 1 [(0, .ref (ad 0))] := hl
  refine lv_aload_n hx hb dX3_state_0 rfl (lv_at hl 0 rfl) ?_
  refine va_get (D := (dC, dI)) (ci := 3) (C := RX3) (T := TX3) (N := 13) hx hb hts inX3 hown hK hP 0 rfl rfl 7 (by decide) hw0 (fun _ h9 => h9) rfl dX3_state_1 ?_
  exact W.iret hx hb hr (fun t ht _ => ri rfl ht) no_locs dX3_state_4
theorem kd_X3_ever : yX3_ever.cls ≠ "java/lang/invoke/MethodHandle" ∧ yX3_ever.cls ≠ "java/lang/invoke/VarHandle" ∧ (parseMethodDescriptor yX3_ever.desc).map (fun d => d.parameters.length) = some 3 := by decide +kernel
set_option maxHeartbeats 4000000 in
set_option maxRecDepth 100000 in
theorem c_X3_ever (l : Launch) {dC : Nat → ClassId} {dI : Nat → Nat → Nat} {ad : Nat → Nat} {cI cJ : ClassId} {ln : Int32} {dg : Int32} {sc : Int32} {ms : Int32} {mi : Int32} {mv : Int32} {mw : Int32} {pu : Int64} {pl : Int64} {st : (Nat → Int64)} {fr : (Nat → Int64)} {sr : (Nat → Int64)} {nu : (Nat → Int32)} {a0 a1 a2 : Int32} (hev : (mach a0 ∧ (0 ≤ a1 ∧ a1 ≤ ln) ∧ (0 ≤ a2 ∧ a2 ≤ 1)) → cmOK (g_own ln a0 a1 a0.toNatClampNeg) (f_all ln a0 a1 a0.toNatClampNeg)) : Met l yX3_ever wsX3_ever ({ frames := 2, cells := 0, slots := 0, locals := 45 }) (va_Pc ([.ref (ad 0), .int a0, .int a1, .int a2] : List Value) (gB (dC, dI) (tyw cI cJ) (yw ad cI cJ ln dg sc ms mi mv mw pu pl st fr sr nu))) (qL (p_ever ln a0 a1 a2)) 0 0 (fun _ => False) := by
  refine Met.ofW (cc := cX3_ever) (maxL := 11) (ret := (some .long)) (by decide) rfl ?_
  intro p e s m args below meth c s₁ B hml hv
  obtain ⟨rfl, hnw, hK, hP⟩ := hv
  have hx := B.exec
  have hb := B.bytes
  have hr := B.returns
  have hts := atoms_spec (ws := wsX3_ever) B.pre
  have hown : s.vm.findClass RX3 = some m.cls := findClass_of_methodNamed B.named
  have hlocks := B.notSynchronized
  have hw0 := hts (.constantLong RX3 111 (-102)) (by decide +kernel)
  have hw1 := hts (.fieldLink RX3 23 "BitStreamsModel" "size" "I") (by decide +kernel)
  have inX3 : ∀ w ∈ wsX30, w ∈ wsX3_ever := by decide +kernel
  have hl := lv_entry ([.ref (ad 0), .int a0, .int a1, .int a2] : List Value) (n := 11) (Nat.le_of_ble_eq_true rfl)
  rw [lg_entry_eq]
  generalize (lg_sl ([.ref (ad 0), .int a0, .int a1, .int a2] : List Value) ++ List.replicate (11 - (lg_sl ([.ref (ad 0), .int a0, .int a1, .int a2] : List Value)).length) Slot.unset).toArray = ls at hl ⊢
  have hl : lv_has ls 11 [(0, .ref (ad 0)), (1, .int a0), (2, .int a1), (3, .int a2)] := hl
  refine lv_iload_n hx hb dX3_ever_0 rfl (lv_at hl 1 rfl) ?_
  refine ro_i (va_runS ⟨hx, hb, hml, hown, hts⟩ (c_X3_isMachine l ) (va_cwS 1 hts gX3_ever_X3_isMachine rfl rfl rfl kd_X3_isMachine ⟨Nat.le_of_ble_eq_true rfl, Nat.le_of_ble_eq_true rfl⟩) preS0 rfl rfl hl.1 rfl (lv_room (Nat.le_of_ble_eq_true rfl)) dX3_ever_1 ⟨Nat.zero_le _, Nat.zero_le _⟩) ?_
  refine lv_if_eq (tgt := 31) hx hb dX3_ever_4 (by decide) (fun c_4 => ?_) (fun c_4 => ?_)
  · skip
    have c_4 := bI_eq.mp c_4
    have hC : ¬ (mach a0 ∧ (0 ≤ a1 ∧ a1 ≤ ln) ∧ (0 ≤ a2 ∧ a2 ≤ 1)) := fun h => c_4 h.1
    refine lv_ldc2 (v := (-102)) hx hb hown hw0 dX3_ever_31 ?_
    exact W.lret hx hb hr (fun t ht _ => rl (by simp only [p_ever, if_neg hC]) ht) no_locs dX3_ever_34
  · skip
    have c_4 := bI_ne.mp c_4
    refine lv_iload_n hx hb dX3_ever_7 rfl (lv_at hl 2 rfl) ?_
    refine lv_i2l hx hb dX3_ever_8 rfl ?_
    refine lv_lconst (v := 0) hx hb dX3_ever_9 (by decide) ?_
    refine lv_aload_n hx hb dX3_ever_10 rfl (lv_at hl 0 rfl) ?_
    refine va_get (D := (dC, dI)) (ci := 3) (C := RX3) (T := TX3) (N := 13) hx hb hts inX3 hown hK hP 0 rfl rfl 0 (by decide) hw1 (fun _ h9 => h9) rfl dX3_ever_11 ?_
    refine lv_i2l hx hb dX3_ever_14 rfl ?_
    refine ro_i (va_runS ⟨hx, hb, hml, hown, hts⟩ (c_X3_in l ) (va_cwS 3 hts gX3_ever_X3_in rfl rfl rfl kd_X3_in ⟨Nat.le_of_ble_eq_true rfl, Nat.le_of_ble_eq_true rfl⟩) preS0 rfl rfl hl.1 rfl (lv_room (Nat.le_of_ble_eq_true rfl)) dX3_ever_15 ⟨Nat.zero_le _, Nat.zero_le _⟩) ?_
    refine lv_if_eq (tgt := 31) hx hb dX3_ever_18 (by decide) (fun c_18 => ?_) (fun c_18 => ?_)
    · skip
      have c_18 := bI_eq.mp c_18
      have c_18 : ¬ (0 ≤ a1 ∧ a1 ≤ ln) := fun h => c_18 ((in32 rfl rfl).mpr h)
      have hC : ¬ (mach a0 ∧ (0 ≤ a1 ∧ a1 ≤ ln) ∧ (0 ≤ a2 ∧ a2 ≤ 1)) := fun h => c_18 h.2.1
      refine lv_ldc2 (v := (-102)) hx hb hown hw0 dX3_ever_31 ?_
      exact W.lret hx hb hr (fun t ht _ => rl (by simp only [p_ever, if_neg hC]) ht) no_locs dX3_ever_34
    · skip
      have c_18 := bI_ne.mp c_18
      have c_18 : 0 ≤ a1 ∧ a1 ≤ ln := (in32 rfl rfl).mp c_18
      refine lv_iload_n hx hb dX3_ever_21 rfl (lv_at hl 3 rfl) ?_
      refine lv_i2l hx hb dX3_ever_22 rfl ?_
      refine lv_lconst (v := 0) hx hb dX3_ever_23 (by decide) ?_
      refine lv_lconst (v := 1) hx hb dX3_ever_24 (by decide) ?_
      refine ro_i (va_runS ⟨hx, hb, hml, hown, hts⟩ (c_X3_in l ) (va_cwS 3 hts gX3_ever_X3_in rfl rfl rfl kd_X3_in ⟨Nat.le_of_ble_eq_true rfl, Nat.le_of_ble_eq_true rfl⟩) preS0 rfl rfl hl.1 rfl (lv_room (Nat.le_of_ble_eq_true rfl)) dX3_ever_25 ⟨Nat.zero_le _, Nat.zero_le _⟩) ?_
      refine lv_if_ne (tgt := 35) hx hb dX3_ever_28 (by decide) (fun c_28 => ?_) (fun c_28 => ?_)
      · skip
        have c_28 := bI_ne.mp c_28
        have c_28 : 0 ≤ a2 ∧ a2 ≤ 1 := (in32 rfl rfl).mp c_28
        have hC : (mach a0 ∧ (0 ≤ a1 ∧ a1 ≤ ln) ∧ (0 ≤ a2 ∧ a2 ≤ 1)) := ⟨c_4, c_18, c_28⟩
        have hcm := hev hC
        refine lv_lconst (v := 0) hx hb dX3_ever_35 (by decide) ?_
        refine lv_lstore (lv' := [(4, .long _), (0, .ref _), (1, .int _), (2, .int _), (3, .int _)]) hx hb dX3_ever_36 hl (by decide) rfl (fun ls hl => ?_)
        refine lv_lconst (v := 0) hx hb dX3_ever_38 (by decide) ?_
        refine lv_lstore (lv' := [(6, .long _), (4, .long _), (0, .ref _), (1, .int _), (2, .int _), (3, .int _)]) hx hb dX3_ever_39 hl (by decide) rfl (fun ls hl => ?_)
        refine lv_iconst (v := 0) hx hb dX3_ever_41 (by decide) ?_
        refine lv_istore (lv' := [(8, .int _), (6, .long _), (4, .long _), (0, .ref _), (1, .int _), (2, .int _), (3, .int _)]) hx hb dX3_ever_42 hl (by decide) rfl (fun ls hl => ?_)
        have L44 : ∀ (n44 : Nat) (jq : Nat) (up al : Int64), a0.toNatClampNeg + 1 ≤ jq + n44 → (jq ≤ a0.toNatClampNeg) → (up = g_own ln a0 a1 jq) → (al = f_all ln a0 a1 jq) → ∀ (ls : Array Slot), lv_has ls 11 [(0, .ref (ad 0)), (1, .int a0), (2, .int a1), (3, .int a2), (4, .long up), (6, .long al), (8, .int (nI jq))] → W p l e { frames := 2, cells := 0, slots := 0, locals := 45 } s m ([.ref (ad 0), .int a0, .int a1, .int a2] : List Value).toArray below meth c s.heap [] 0 0 (MQ below (qL (p_ever ln a0 a1 a2)) ([.ref (ad 0), .int a0, .int a1, .int a2] : List Value).toArray s 0 0 (fun _ => False)) (F0 m 44 ls []) := by
          intro n44
          induction n44 with
          | zero =>
            intro jq up al hf44 hj hup hal
            exact absurd hf44 (by omega)
          | succ n44 ih44 =>
            intro jq up al hf44 hj hup hal ls hl
            refine lv_iload hx hb dX3_ever_44 (lv_at hl 6 rfl) ?_
            refine lv_iload_n hx hb dX3_ever_46 rfl (lv_at hl 1 rfl) ?_
            refine lv_icmp_ge (tgt := 108) hx hb dX3_ever_47 (by decide) (fun c_47 => ?_) (fun c_47 => ?_)
            · skip
              have hz := cl_end hj c_47
              rw [← hz] at hup hal
              subst hup
              subst hal
              refine lv_lload hx hb dX3_ever_108 (lv_at hl 4 rfl) ?_
              refine lv_lload hx hb dX3_ever_110 (lv_at hl 5 rfl) ?_
              refine st_l (v := lN (f_all ln a0 a1 a0.toNatClampNeg).toInt.natAbs) hcm.2.2.1 ?_
              refine ro_l (va_runS ⟨hx, hb, hml, hown, hts⟩ (c_X3_common l (a0 := (g_own ln a0 a1 a0.toNatClampNeg)) (X := (g_own ln a0 a1 a0.toNatClampNeg).toInt.natAbs) (Y := (f_all ln a0 a1 a0.toNatClampNeg).toInt.natAbs) hcm.1 hcm.2.1 hcm.2.2.2.1) (va_cwS 2 hts gX3_ever_X3_common rfl rfl rfl kd_X3_common ⟨Nat.le_of_ble_eq_true rfl, Nat.le_of_ble_eq_true rfl⟩) preS0 rfl rfl hl.1 rfl (lv_room (Nat.le_of_ble_eq_true rfl)) dX3_ever_112 ⟨Nat.zero_le _, Nat.zero_le _⟩) ?_
              refine st_l (v := g_G (g_own ln a0 a1 a0.toNatClampNeg) (f_all ln a0 a1 a0.toNatClampNeg)) rfl ?_
              refine lv_lstore (lv' := [(8, .long _), (0, .ref _), (1, .int _), (2, .int _), (3, .int _), (4, .long _), (6, .long _)]) hx hb dX3_ever_115 hl (by decide) rfl (fun ls hl => ?_)
              refine lv_iload_n hx hb dX3_ever_117 rfl (lv_at hl 4 rfl) ?_
              refine lv_if_ne (tgt := 129) hx hb dX3_ever_118 (by decide) (fun c_118 => ?_) (fun c_118 => ?_)
              · skip
                have hv : p_ever ln a0 a1 a2 = (f_all ln a0 a1 a0.toNatClampNeg) / g_G (g_own ln a0 a1 a0.toNatClampNeg) (f_all ln a0 a1 a0.toNatClampNeg) := by simp only [p_ever, if_pos hC, if_neg c_118]
                refine lv_lload hx hb dX3_ever_129 (lv_at hl 6 rfl) ?_
                refine lv_lload hx hb dX3_ever_131 (lv_at hl 0 rfl) ?_
                refine lv_ldiv hx hb dX3_ever_133 (hcm.2.2.2.2) ?_
                exact W.lret hx hb hr (fun t ht _ => rl hv.symm ht) no_locs dX3_ever_134
              · skip
                have hv : p_ever ln a0 a1 a2 = (g_own ln a0 a1 a0.toNatClampNeg) / g_G (g_own ln a0 a1 a0.toNatClampNeg) (f_all ln a0 a1 a0.toNatClampNeg) := by simp only [p_ever, if_pos hC, if_pos c_118]
                refine lv_lload hx hb dX3_ever_121 (lv_at hl 5 rfl) ?_
                refine lv_lload hx hb dX3_ever_123 (lv_at hl 0 rfl) ?_
                refine lv_ldiv hx hb dX3_ever_125 (hcm.2.2.2.2) ?_
                refine lv_goto (tgt := 134) hx hb dX3_ever_126 (by decide) ?_
                exact W.lret hx hb hr (fun t ht _ => rl hv.symm ht) no_locs dX3_ever_134
            · skip
              refine lv_iload_n hx hb dX3_ever_50 rfl (lv_at hl 2 rfl) ?_
              refine lv_i2l hx hb dX3_ever_51 rfl ?_
              refine lv_iload hx hb dX3_ever_52 (lv_at hl 6 rfl) ?_
              refine ro_l (va_runS ⟨hx, hb, hml, hown, hts⟩ (c_X3_power l ) (va_cwS 2 hts gX3_ever_X3_power rfl rfl rfl kd_X3_power ⟨Nat.le_of_ble_eq_true rfl, Nat.le_of_ble_eq_true rfl⟩) preS0 rfl rfl hl.1 rfl (lv_room (Nat.le_of_ble_eq_true rfl)) dX3_ever_54 ⟨Nat.zero_le _, Nat.zero_le _⟩) ?_
              refine lv_aload_n hx hb dX3_ever_57 rfl (lv_at hl 0 rfl) ?_
              refine va_get (D := (dC, dI)) (ci := 3) (C := RX3) (T := TX3) (N := 13) hx hb hts inX3 hown hK hP 0 rfl rfl 0 (by decide) hw1 (fun _ h9 => h9) rfl dX3_ever_58 ?_
              refine lv_iload_n hx hb dX3_ever_61 rfl (lv_at hl 2 rfl) ?_
              refine lv_isub hx hb dX3_ever_62 ?_
              refine lv_i2l hx hb dX3_ever_63 rfl ?_
              refine lv_iload_n hx hb dX3_ever_64 rfl (lv_at hl 1 rfl) ?_
              refine lv_iconst (v := 1) hx hb dX3_ever_65 (by decide) ?_
              refine lv_isub hx hb dX3_ever_66 ?_
              refine lv_iload hx hb dX3_ever_67 (lv_at hl 6 rfl) ?_
              refine lv_isub hx hb dX3_ever_69 ?_
              refine ro_l (va_runS ⟨hx, hb, hml, hown, hts⟩ (c_X3_power l ) (va_cwS 2 hts gX3_ever_X3_power rfl rfl rfl kd_X3_power ⟨Nat.le_of_ble_eq_true rfl, Nat.le_of_ble_eq_true rfl⟩) preS0 rfl rfl hl.1 rfl (lv_room (Nat.le_of_ble_eq_true rfl)) dX3_ever_70 ⟨Nat.zero_le _, Nat.zero_le _⟩) ?_
              refine lv_lmul hx hb dX3_ever_73 ?_
              refine lv_topl (fun wt ewt => ?_)
              have hwt : wt = f_wt ln a0 a1 jq := by rw [ewt, nI_cl (by have := cl_go hj c_47; have := cl_lt (a := a0); omega)]; rfl
              refine lv_lstore (lv' := [(9, .long _), (0, .ref _), (1, .int _), (2, .int _), (3, .int _), (4, .long _), (6, .long _), (8, .int _)]) hx hb dX3_ever_74 hl (by decide) rfl (fun ls hl => ?_)
              refine lv_lload hx hb dX3_ever_76 (lv_at hl 6 rfl) ?_
              refine lv_lload hx hb dX3_ever_78 (lv_at hl 0 rfl) ?_
              refine lv_ladd hx hb dX3_ever_80 ?_
              refine lv_lstore (lv' := [(6, .long _), (9, .long _), (0, .ref _), (1, .int _), (2, .int _), (3, .int _), (4, .long _), (8, .int _)]) hx hb dX3_ever_81 hl (by decide) rfl (fun ls hl => ?_)
              refine lv_lload hx hb dX3_ever_83 (lv_at hl 6 rfl) ?_
              refine lv_iload hx hb dX3_ever_85 (lv_at hl 7 rfl) ?_
              refine lv_iload_n hx hb dX3_ever_87 rfl (lv_at hl 3 rfl) ?_
              refine lv_iconst (v := 2) hx hb dX3_ever_88 (by decide) ?_
              refine lv_idiv hx hb dX3_ever_89 (by decide) ?_
              refine lv_icmp_lt (tgt := 98) hx hb dX3_ever_90 (by decide) (fun c_90 => ?_) (fun c_90 => ?_)
              · skip
                refine lv_lconst (v := 0) hx hb dX3_ever_98 (by decide) ?_
                refine lv_ladd hx hb dX3_ever_99 ?_
                refine lv_lstore (lv' := [(4, .long _), (6, .long _), (9, .long _), (0, .ref _), (1, .int _), (2, .int _), (3, .int _), (8, .int _)]) hx hb dX3_ever_100 hl (by decide) rfl (fun ls hl => ?_)
                refine lv_iinc (lv' := [(8, .int (nI (jq + 1))), (4, .long _), (6, .long _), (9, .long _), (0, .ref _), (1, .int _), (2, .int _), (3, .int _)]) hx hb dX3_ever_102 hl (k := 7) rfl (nI_1 _) (by decide) rfl (fun ls hl => ?_)
                refine lv_goto (tgt := 44) hx hb dX3_ever_105 (by decide) ?_
                exact ih44 (jq + 1) _ _ (by have := cl_go hj c_47; omega) (cl_go hj c_47) (by rw [g_own, hup]; first | rw [if_pos c_90] | rw [if_neg c_90, hwt]) (by rw [f_all, hal, hwt]) ls (lv_sub hl [4, 5, 6, 7, 1, 2, 0] rfl)
              · skip
                refine lv_lload hx hb dX3_ever_93 (lv_at hl 1 rfl) ?_
                refine lv_goto (tgt := 99) hx hb dX3_ever_95 (by decide) ?_
                refine lv_ladd hx hb dX3_ever_99 ?_
                refine lv_lstore (lv' := [(4, .long _), (6, .long _), (9, .long _), (0, .ref _), (1, .int _), (2, .int _), (3, .int _), (8, .int _)]) hx hb dX3_ever_100 hl (by decide) rfl (fun ls hl => ?_)
                refine lv_iinc (lv' := [(8, .int (nI (jq + 1))), (4, .long _), (6, .long _), (9, .long _), (0, .ref _), (1, .int _), (2, .int _), (3, .int _)]) hx hb dX3_ever_102 hl (k := 7) rfl (nI_1 _) (by decide) rfl (fun ls hl => ?_)
                refine lv_goto (tgt := 44) hx hb dX3_ever_105 (by decide) ?_
                exact ih44 (jq + 1) _ _ (by have := cl_go hj c_47; omega) (cl_go hj c_47) (by rw [g_own, hup]; first | rw [if_pos c_90] | rw [if_neg c_90, hwt]) (by rw [f_all, hal, hwt]) ls (lv_sub hl [4, 5, 6, 7, 1, 2, 0] rfl)
        exact L44 (a0.toNatClampNeg + 1) 0 _ _ (by omega) (Nat.zero_le _) rfl rfl ls (lv_sub hl [3, 4, 5, 6, 2, 1, 0] rfl)
      · skip
        have c_28 := bI_eq.mp c_28
        have c_28 : ¬ (0 ≤ a2 ∧ a2 ≤ 1) := fun h => c_28 ((in32 rfl rfl).mpr h)
        have hC : ¬ (mach a0 ∧ (0 ≤ a1 ∧ a1 ≤ ln) ∧ (0 ≤ a2 ∧ a2 ≤ 1)) := fun h => c_28 h.2.2
        refine lv_ldc2 (v := (-102)) hx hb hown hw0 dX3_ever_31 ?_
        exact W.lret hx hb hr (fun t ht _ => rl (by simp only [p_ever, if_neg hC]) ht) no_locs dX3_ever_34
theorem kd_X3_degree : yX3_degree.cls ≠ "java/lang/invoke/MethodHandle" ∧ yX3_degree.cls ≠ "java/lang/invoke/VarHandle" ∧ (parseMethodDescriptor yX3_degree.desc).map (fun d => d.parameters.length) = some 2 := by decide +kernel
set_option maxHeartbeats 4000000 in
set_option maxRecDepth 100000 in
theorem c_X3_degree (l : Launch) {dC : Nat → ClassId} {dI : Nat → Nat → Nat} {ad : Nat → Nat} {cI cJ : ClassId} {ln : Int32} {dg : Int32} {sc : Int32} {ms : Int32} {mi : Int32} {mv : Int32} {mw : Int32} {pu : Int64} {pl : Int64} {st : (Nat → Int64)} {fr : (Nat → Int64)} {sr : (Nat → Int64)} {nu : (Nat → Int32)} {sz : Nat} {a0 a1 : Int32} : Met l yX3_degree wsX3_degree ({ frames := 1, cells := 0, slots := 0, locals := 25 }) (va_Pc ([.ref (ad 0), .int a0, .int a1] : List Value) (gW sz (dC, dI) (tyw cI cJ) (yw ad cI cJ ln dg sc ms mi mv mw pu pl st fr sr nu))) (va_Qi (fun r (_u : Unit) => r = (o_degree dg sc nu a0 a1).1) (fun _u t => va_P (dC, dI) vwCl (yw ad cI cJ ln (o_degree dg sc nu a0 a1).2.1 (o_degree dg sc nu a0 a1).2.2.1 ms mi mv mw pu pl st fr sr (o_degree dg sc nu a0 a1).2.2.2) t.heap) (va_A (yw ad cI cJ ln dg sc ms mi mv mw pu pl st fr sr nu) sz)) 0 0 (va_A (yw ad cI cJ ln dg sc ms mi mv mw pu pl st fr sr nu) sz) := by
  refine Met.ofW (cc := cX3_degree) (maxL := 4) (ret := (some .int)) (by decide) rfl ?_
  intro p e s m args below meth c s₁ B hml hv
  obtain ⟨rfl, hsz, ⟨hnw, hK, hP⟩, hD0⟩ := hv
  have hx := B.exec
  have hb := B.bytes
  have hr := B.returns
  have hts := atoms_spec (ws := wsX3_degree) B.pre
  have hown : s.vm.findClass RX3 = some m.cls := findClass_of_methodNamed B.named
  have hlocks := B.notSynchronized
  subst hsz
  have hD := hD0.self (sz := s.heap.size)
  generalize hAe : va_A (yw ad cI cJ ln dg sc ms mi mv mw pu pl st fr sr nu) s.heap.size = A at hD ⊢
  have hA : ∀ q : Nat, s.heap.size ≤ q → A q := fun q h => by rw [← hAe]; exact Or.inr h
  have hS : va_S A s.heap s.heap [] := va_S.rf
  have hw0 := hts (.constantLong RX3 120 (4)) (by decide +kernel)
  have hw1 := hts (.constantLong RX3 122 (1000)) (by decide +kernel)
  have hw2 := hts (.fieldLink RX3 124 "BitStreamsModel" "degree" "I") (by decide +kernel)
  have hw3 := hts (.fieldLink RX3 30 "BitStreamsModel" "scale" "I") (by decide +kernel)
  have hw4 := hts (.fieldLink RX3 19 "BitStreamsModel" "terms" "[I") (by decide +kernel)
  have inX3 : ∀ w ∈ wsX30, w ∈ wsX3_degree := by decide +kernel
  have hl := lv_entry ([.ref (ad 0), .int a0, .int a1] : List Value) (n := 4) (Nat.le_of_ble_eq_true rfl)
  rw [lg_entry_eq]
  generalize (lg_sl ([.ref (ad 0), .int a0, .int a1] : List Value) ++ List.replicate (4 - (lg_sl ([.ref (ad 0), .int a0, .int a1] : List Value)).length) Slot.unset).toArray = ls at hl ⊢
  have hl : lv_has ls 4 [(0, .ref (ad 0)), (1, .int a0), (2, .int a1)] := hl
  refine lv_iload_n hx hb dX3_degree_0 rfl (lv_at hl 1 rfl) ?_
  refine lv_i2l hx hb dX3_degree_1 rfl ?_
  refine lv_lconst (v := 0) hx hb dX3_degree_2 (by decide) ?_
  refine lv_ldc2 (v := 4) hx hb hown hw0 dX3_degree_3 ?_
  refine ro_i (va_runS ⟨hx, hb, hml, hown, hts⟩ (c_X3_in l ) (va_cwS 3 hts gX3_degree_X3_in rfl rfl rfl kd_X3_in ⟨Nat.le_of_ble_eq_true rfl, Nat.le_of_ble_eq_true rfl⟩) preS0 rfl rfl hl.1 rfl (lv_room (Nat.le_of_ble_eq_true rfl)) dX3_degree_6 ⟨Nat.zero_le _, Nat.zero_le _⟩) ?_
  refine lv_if_eq (tgt := 24) hx hb dX3_degree_9 (by decide) (fun c_9 => ?_) (fun c_9 => ?_)
  · skip
    have c_9 := bI_eq.mp c_9
    have c_9 : ¬ (0 ≤ a0 ∧ a0 ≤ 4) := fun h => c_9 ((in32 rfl rfl).mpr h)
    have hC : ¬ ((0 ≤ a0 ∧ a0 ≤ 4) ∧ (1 ≤ a1 ∧ a1 ≤ 1000)) := fun h => c_9 h.1
    refine lv_bipush (v := (-102)) hx hb dX3_degree_24 (by decide) ?_
    simp only [o_degree, if_neg hC]
    exact W.iret hx hb hr (fun t ht _ => ⟨⟨_, (), rfl, rfl, wpost ht hP⟩, hS.F ht⟩) hS.2.2 dX3_degree_26
  · skip
    have c_9 := bI_ne.mp c_9
    have c_9 : 0 ≤ a0 ∧ a0 ≤ 4 := (in32 rfl rfl).mp c_9
    refine lv_iload_n hx hb dX3_degree_12 rfl (lv_at hl 2 rfl) ?_
    refine lv_i2l hx hb dX3_degree_13 rfl ?_
    refine lv_lconst (v := 1) hx hb dX3_degree_14 (by decide) ?_
    refine lv_ldc2 (v := 1000) hx hb hown hw1 dX3_degree_15 ?_
    refine ro_i (va_runS ⟨hx, hb, hml, hown, hts⟩ (c_X3_in l ) (va_cwS 3 hts gX3_degree_X3_in rfl rfl rfl kd_X3_in ⟨Nat.le_of_ble_eq_true rfl, Nat.le_of_ble_eq_true rfl⟩) preS0 rfl rfl hl.1 rfl (lv_room (Nat.le_of_ble_eq_true rfl)) dX3_degree_18 ⟨Nat.zero_le _, Nat.zero_le _⟩) ?_
    refine lv_if_ne (tgt := 27) hx hb dX3_degree_21 (by decide) (fun c_21 => ?_) (fun c_21 => ?_)
    · skip
      have c_21 := bI_ne.mp c_21
      have c_21 : 1 ≤ a1 ∧ a1 ≤ 1000 := (in32 rfl rfl).mp c_21
      have hC : ((0 ≤ a0 ∧ a0 ≤ 4) ∧ (1 ≤ a1 ∧ a1 ≤ 1000)) := ⟨c_9, c_21⟩
      obtain ⟨d, -, hd, ed⟩ := rng_nat (a := 0) (b := 4) (by omega) (by omega) c_9
      refine lv_aload_n hx hb dX3_degree_27 rfl (lv_at hl 0 rfl) ?_
      refine lv_iload_n hx hb dX3_degree_28 rfl (lv_at hl 1 rfl) ?_
      refine va_put (D := (dC, dI)) (ci := 3) (ty := .int) (C := RX3) (T := TX3) (N := 13) hx hb hts inX3 tyX3 tyX3_ok nmX3 hown hK hP hD hS 0 rfl rfl 8 (by decide) hw2 (fun _ h9 => h9) rfl (by decide +kernel) rfl rfl (Nat.le_of_ble_eq_true rfl) dX3_degree_29 (fun H locs hP hD hS => ?_)
      have hP : va_P (dC, dI) vwCl (yw ad cI cJ ln a0 sc ms mi mv mw pu pl st fr sr nu) H := hP
      have hD : va_D A (yw ad cI cJ ln a0 sc ms mi mv mw pu pl st fr sr nu) := va_D_addr hD rfl
      refine lv_aload_n hx hb dX3_degree_32 rfl (lv_at hl 0 rfl) ?_
      refine lv_iload_n hx hb dX3_degree_33 rfl (lv_at hl 2 rfl) ?_
      refine va_put (D := (dC, dI)) (ci := 3) (ty := .int) (C := RX3) (T := TX3) (N := 13) hx hb hts inX3 tyX3 tyX3_ok nmX3 hown hK hP hD hS 0 rfl rfl 9 (by decide) hw3 (fun _ h9 => h9) rfl (by decide +kernel) rfl rfl (Nat.le_of_ble_eq_true rfl) dX3_degree_34 (fun H locs hP hD hS => ?_)
      have hP : va_P (dC, dI) vwCl (yw ad cI cJ ln a0 a1 ms mi mv mw pu pl st fr sr nu) H := hP
      have hD : va_D A (yw ad cI cJ ln a0 a1 ms mi mv mw pu pl st fr sr nu) := va_D_addr hD rfl
      refine lv_iload_n hx hb dX3_degree_37 rfl (lv_at hl 1 rfl) ?_
      refine lv_iconst (v := 1) hx hb dX3_degree_38 (by decide) ?_
      refine lv_iadd hx hb dX3_degree_39 ?_
      refine st_i (v := nI (d + 1)) (by rw [ed]; exact nI_1 _) ?_
      refine lv_istore_n (lv' := [(3, .int _), (0, .ref _), (1, .int _), (2, .int _)]) hx hb dX3_degree_40 rfl hl (by decide) rfl (fun ls hl => ?_)
      have L41 : ∀ (n41 : Nat) (kq : Nat) (uq : Nat → Int32), 6 ≤ kq + n41 → (kq ≤ 5) → (d + 1 ≤ kq) → (∀ i, uq i = if d < i ∧ i < kq then 0 else nu i) → ∀ (H : Heap) (locs : List Loc), va_P (dC, dI) vwCl (yw ad cI cJ ln a0 a1 ms mi mv mw pu pl st fr sr uq) H → va_S A s.heap H locs → ∀ (ls : Array Slot), lv_has ls 4 [(0, .ref (ad 0)), (1, .int a0), (3, .int (nI kq))] → W p l e { frames := 1, cells := 0, slots := 0, locals := 25 } s m ([.ref (ad 0), .int a0, .int a1] : List Value).toArray below meth c H locs 0 0 (MQ below (va_Qi (fun r (_u : Unit) => r = (o_degree dg sc nu a0 a1).1) (fun _u t => va_P (dC, dI) vwCl (yw ad cI cJ ln (o_degree dg sc nu a0 a1).2.1 (o_degree dg sc nu a0 a1).2.2.1 ms mi mv mw pu pl st fr sr (o_degree dg sc nu a0 a1).2.2.2) t.heap) A) ([.ref (ad 0), .int a0, .int a1] : List Value).toArray s 0 0 (A)) (F0 m 41 ls []) := by
        intro n41
        induction n41 with
        | zero =>
          intro kq uq hf41 hk hk0 hu
          exact absurd hf41 (by omega)
        | succ n41 ih41 =>
          intro kq uq hf41 hk hk0 hu H locs hP hS ls hl
          have hD : va_D A (yw ad cI cJ ln a0 a1 ms mi mv mw pu pl st fr sr uq) := va_D_addr hD rfl
          refine lv_iload_n hx hb dX3_degree_41 rfl (lv_at hl 2 rfl) ?_
          refine lv_iconst (v := 5) hx hb dX3_degree_42 (by decide) ?_
          refine lv_icmp_ge (tgt := 59) hx hb dX3_degree_43 (by decide) (fun c_43 => ?_) (fun c_43 => ?_)
          · skip
            have hz : kq = 5 := by have := (nI_leI (a := 5) (b := kq) (by omega) (by omega)).mp c_43; omega
            refine lv_iload_n hx hb dX3_degree_59 rfl (lv_at hl 1 rfl) ?_
            have eu : uq = fun i => if a0.toNatClampNeg < i ∧ i < 5 then 0 else nu i := funext (fun i => by rw [hu i, hz, ed, nI_cl (by omega)])
            subst eu
            simp only [o_degree, if_pos hC]
            exact W.iret hx hb hr (fun t ht _ => ⟨⟨_, (), rfl, rfl, wpost ht hP⟩, hS.F ht⟩) hS.2.2 dX3_degree_60
          · skip
            have hz : kq < 5 := by have := mt (nI_leI (a := 5) (b := kq) (by omega) (by omega)).mpr c_43; omega
            refine lv_aload_n hx hb dX3_degree_46 rfl (lv_at hl 0 rfl) ?_
            refine va_get (D := (dC, dI)) (ci := 3) (C := RX3) (T := TX3) (N := 13) hx hb hts inX3 hown hK hP 0 rfl rfl 10 (by decide) hw4 (fun _ h9 => h9) rfl dX3_degree_47 ?_
            refine lv_iload_n hx hb dX3_degree_50 rfl (lv_at hl 2 rfl) ?_
            refine lv_iconst (v := 0) hx hb dX3_degree_51 (by decide) ?_
            refine va_iast hx hb hK hP hD hS 4 0 rfl rfl (vp_in_nI (by omega) (by omega)) dX3_degree_52 (fun H locs hP hD hS => ?_)
            have hP : va_P (dC, dI) vwCl (yw ad cI cJ ln a0 a1 ms mi mv mw pu pl st fr sr _) H := hP
            have hD : va_D A (yw ad cI cJ ln a0 a1 ms mi mv mw pu pl st fr sr _) := va_D_addr hD rfl
            refine lv_iinc (lv' := [(3, .int (nI (kq + 1))), (0, .ref _), (1, .int _)]) hx hb dX3_degree_53 hl (k := 2) rfl (nI_1 _) (by decide) rfl (fun ls hl => ?_)
            refine lv_goto (tgt := 41) hx hb dX3_degree_56 (by decide) ?_
            exact ih41 (kq + 1) _ (by omega) (by omega) (by omega) (fun i => by rw [nI_cl (by omega)]; exact sd_step (by omega) hu i) _ _ hP hS ls (lv_sub hl [1, 2, 0] rfl)
      exact L41 6 (d + 1) nu (by omega) (by omega) (by omega) (fun i => by rw [if_neg (by omega)]) _ _ hP hS ls (lv_sub hl [1, 2, 0] rfl)
    · skip
      have c_21 := bI_eq.mp c_21
      have c_21 : ¬ (1 ≤ a1 ∧ a1 ≤ 1000) := fun h => c_21 ((in32 rfl rfl).mpr h)
      have hC : ¬ ((0 ≤ a0 ∧ a0 ≤ 4) ∧ (1 ≤ a1 ∧ a1 ≤ 1000)) := fun h => c_21 h.2
      refine lv_bipush (v := (-102)) hx hb dX3_degree_24 (by decide) ?_
      simp only [o_degree, if_neg hC]
      exact W.iret hx hb hr (fun t ht _ => ⟨⟨_, (), rfl, rfl, wpost ht hP⟩, hS.F ht⟩) hS.2.2 dX3_degree_26
theorem kd_X3_term : yX3_term.cls ≠ "java/lang/invoke/MethodHandle" ∧ yX3_term.cls ≠ "java/lang/invoke/VarHandle" ∧ (parseMethodDescriptor yX3_term.desc).map (fun d => d.parameters.length) = some 2 := by decide +kernel
set_option maxHeartbeats 4000000 in
set_option maxRecDepth 100000 in
theorem c_X3_term (l : Launch) {dC : Nat → ClassId} {dI : Nat → Nat → Nat} {ad : Nat → Nat} {cI cJ : ClassId} {ln : Int32} {sc : Int32} {ms : Int32} {mi : Int32} {mv : Int32} {mw : Int32} {pu : Int64} {pl : Int64} {st : (Nat → Int64)} {fr : (Nat → Int64)} {sr : (Nat → Int64)} {nu : (Nat → Int32)} {sz : Nat} {a0 a1 : Int32} {d : Nat} (hd : d ≤ 4) : Met l yX3_term wsX3_term ({ frames := 1, cells := 0, slots := 0, locals := 25 }) (va_Pc ([.ref (ad 0), .int a0, .int a1] : List Value) (gW sz (dC, dI) (tyw cI cJ) (yw ad cI cJ ln (nI d) sc ms mi mv mw pu pl st fr sr nu))) (va_Qi (fun r (_u : Unit) => r = (o_term (nI d) nu a0 a1).1) (fun _u t => va_P (dC, dI) vwCl (yw ad cI cJ ln (nI d) sc ms mi mv mw pu pl st fr sr (o_term (nI d) nu a0 a1).2) t.heap) (va_A (yw ad cI cJ ln (nI d) sc ms mi mv mw pu pl st fr sr nu) sz)) 0 0 (va_A (yw ad cI cJ ln (nI d) sc ms mi mv mw pu pl st fr sr nu) sz) := by
  refine Met.ofW (cc := cX3_term) (maxL := 4) (ret := (some .int)) (by decide) rfl ?_
  intro p e s m args below meth c s₁ B hml hv
  obtain ⟨rfl, hsz, ⟨hnw, hK, hP⟩, hD0⟩ := hv
  have hx := B.exec
  have hb := B.bytes
  have hr := B.returns
  have hts := atoms_spec (ws := wsX3_term) B.pre
  have hown : s.vm.findClass RX3 = some m.cls := findClass_of_methodNamed B.named
  have hlocks := B.notSynchronized
  subst hsz
  have hD := hD0.self (sz := s.heap.size)
  generalize hAe : va_A (yw ad cI cJ ln (nI d) sc ms mi mv mw pu pl st fr sr nu) s.heap.size = A at hD ⊢
  have hA : ∀ q : Nat, s.heap.size ≤ q → A q := fun q h => by rw [← hAe]; exact Or.inr h
  have hS : va_S A s.heap s.heap [] := va_S.rf
  have hw0 := hts (.fieldLink RX3 124 "BitStreamsModel" "degree" "I") (by decide +kernel)
  have hw1 := hts (.constantLong RX3 127 (-1000)) (by decide +kernel)
  have hw2 := hts (.constantLong RX3 122 (1000)) (by decide +kernel)
  have hw3 := hts (.fieldLink RX3 19 "BitStreamsModel" "terms" "[I") (by decide +kernel)
  have inX3 : ∀ w ∈ wsX30, w ∈ wsX3_term := by decide +kernel
  have hl := lv_entry ([.ref (ad 0), .int a0, .int a1] : List Value) (n := 4) (Nat.le_of_ble_eq_true rfl)
  rw [lg_entry_eq]
  generalize (lg_sl ([.ref (ad 0), .int a0, .int a1] : List Value) ++ List.replicate (4 - (lg_sl ([.ref (ad 0), .int a0, .int a1] : List Value)).length) Slot.unset).toArray = ls at hl ⊢
  have hl : lv_has ls 4 [(0, .ref (ad 0)), (1, .int a0), (2, .int a1)] := hl
  refine lv_iload_n hx hb dX3_term_0 rfl (lv_at hl 1 rfl) ?_
  refine lv_i2l hx hb dX3_term_1 rfl ?_
  refine lv_lconst (v := 0) hx hb dX3_term_2 (by decide) ?_
  refine lv_aload_n hx hb dX3_term_3 rfl (lv_at hl 0 rfl) ?_
  refine va_get (D := (dC, dI)) (ci := 3) (C := RX3) (T := TX3) (N := 13) hx hb hts inX3 hown hK hP 0 rfl rfl 8 (by decide) hw0 (fun _ h9 => h9) rfl dX3_term_4 ?_
  refine lv_i2l hx hb dX3_term_7 rfl ?_
  refine ro_i (va_runS ⟨hx, hb, hml, hown, hts⟩ (c_X3_in l ) (va_cwS 3 hts gX3_term_X3_in rfl rfl rfl kd_X3_in ⟨Nat.le_of_ble_eq_true rfl, Nat.le_of_ble_eq_true rfl⟩) preS0 rfl rfl hl.1 rfl (lv_room (Nat.le_of_ble_eq_true rfl)) dX3_term_8 ⟨Nat.zero_le _, Nat.zero_le _⟩) ?_
  refine lv_if_ne (tgt := 17) hx hb dX3_term_11 (by decide) (fun c_11 => ?_) (fun c_11 => ?_)
  · skip
    have c_11 := bI_ne.mp c_11
    have c_11 : 0 ≤ a0 ∧ a0 ≤ nI d := (in32 rfl rfl).mp c_11
    refine lv_iload_n hx hb dX3_term_17 rfl (lv_at hl 2 rfl) ?_
    refine lv_i2l hx hb dX3_term_18 rfl ?_
    refine lv_ldc2 (v := (-1000)) hx hb hown hw1 dX3_term_19 ?_
    refine lv_ldc2 (v := 1000) hx hb hown hw2 dX3_term_22 ?_
    refine ro_i (va_runS ⟨hx, hb, hml, hown, hts⟩ (c_X3_in l ) (va_cwS 3 hts gX3_term_X3_in rfl rfl rfl kd_X3_in ⟨Nat.le_of_ble_eq_true rfl, Nat.le_of_ble_eq_true rfl⟩) preS0 rfl rfl hl.1 rfl (lv_room (Nat.le_of_ble_eq_true rfl)) dX3_term_25 ⟨Nat.zero_le _, Nat.zero_le _⟩) ?_
    refine lv_if_ne (tgt := 34) hx hb dX3_term_28 (by decide) (fun c_28 => ?_) (fun c_28 => ?_)
    · skip
      have c_28 := bI_ne.mp c_28
      have c_28 : -1000 ≤ a1 ∧ a1 ≤ 1000 := (in32 rfl rfl).mp c_28
      refine lv_aload_n hx hb dX3_term_34 rfl (lv_at hl 0 rfl) ?_
      refine va_get (D := (dC, dI)) (ci := 3) (C := RX3) (T := TX3) (N := 13) hx hb hts inX3 hown hK hP 0 rfl rfl 10 (by decide) hw3 (fun _ h9 => h9) rfl dX3_term_35 ?_
      refine lv_iload_n hx hb dX3_term_38 rfl (lv_at hl 1 rfl) ?_
      refine va_iald hx hb hK hP 4 0 rfl rfl (term_in hd c_11) dX3_term_39 ?_
      refine lv_istore_n (lv' := [(3, .int _), (0, .ref _), (1, .int _), (2, .int _)]) hx hb dX3_term_40 rfl hl (by decide) rfl (fun ls hl => ?_)
      refine lv_aload_n hx hb dX3_term_41 rfl (lv_at hl 1 rfl) ?_
      refine va_get (D := (dC, dI)) (ci := 3) (C := RX3) (T := TX3) (N := 13) hx hb hts inX3 hown hK hP 0 rfl rfl 10 (by decide) hw3 (fun _ h9 => h9) rfl dX3_term_42 ?_
      refine lv_iload_n hx hb dX3_term_45 rfl (lv_at hl 2 rfl) ?_
      refine lv_iload_n hx hb dX3_term_46 rfl (lv_at hl 3 rfl) ?_
      refine va_iast hx hb hK hP hD hS 4 0 rfl rfl (term_in hd c_11) dX3_term_47 (fun H locs hP hD hS => ?_)
      have hP : va_P (dC, dI) vwCl (yw ad cI cJ ln (nI d) sc ms mi mv mw pu pl st fr sr _) H := hP
      have hD : va_D A (yw ad cI cJ ln (nI d) sc ms mi mv mw pu pl st fr sr _) := va_D_addr hD rfl
      refine lv_iload_n hx hb dX3_term_48 rfl (lv_at hl 0 rfl) ?_
      simp only [o_term, if_pos c_11, if_pos c_28]
      exact W.iret hx hb hr (fun t ht _ => ⟨⟨_, (), rfl, rfl, wpost ht hP⟩, hS.F ht⟩) hS.2.2 dX3_term_49
    · skip
      have c_28 := bI_eq.mp c_28
      have c_28 : ¬ (-1000 ≤ a1 ∧ a1 ≤ 1000) := fun h => c_28 ((in32 rfl rfl).mpr h)
      refine lv_bipush (v := (-102)) hx hb dX3_term_31 (by decide) ?_
      simp only [o_term, if_pos c_11, if_neg c_28]
      exact W.iret hx hb hr (fun t ht _ => ⟨⟨_, (), rfl, rfl, wpost ht hP⟩, hS.F ht⟩) hS.2.2 dX3_term_33
  · skip
    have c_11 := bI_eq.mp c_11
    have c_11 : ¬ (0 ≤ a0 ∧ a0 ≤ nI d) := fun h => c_11 ((in32 rfl rfl).mpr h)
    refine lv_bipush (v := (-101)) hx hb dX3_term_14 (by decide) ?_
    simp only [o_term, if_neg c_11]
    exact W.iret hx hb hr (fun t ht _ => ⟨⟨_, (), rfl, rfl, wpost ht hP⟩, hS.F ht⟩) hS.2.2 dX3_term_16
theorem kd_X3_part : yX3_part.cls ≠ "java/lang/invoke/MethodHandle" ∧ yX3_part.cls ≠ "java/lang/invoke/VarHandle" ∧ (parseMethodDescriptor yX3_part.desc).map (fun d => d.parameters.length) = some 3 := by decide +kernel
set_option maxHeartbeats 4000000 in
set_option maxRecDepth 100000 in
theorem c_X3_part (l : Launch) {dC : Nat → ClassId} {dI : Nat → Nat → Nat} {ad : Nat → Nat} {cI cJ : ClassId} {ln : Int32} {sc : Int32} {ms : Int32} {mi : Int32} {mv : Int32} {mw : Int32} {pu : Int64} {pl : Int64} {st : (Nat → Int64)} {fr : (Nat → Int64)} {sr : (Nat → Int64)} {nu : (Nat → Int32)} {sz : Nat} {a0 a1 a2 : Int32} {d : Nat} (hd : d ≤ 4) (hcm : ∀ mm j, d ≤ mm → mm ≤ 10 → j ≤ mm → cmOK (g_U d nu mm j) (g_Y d sc mm)) : Met l yX3_part wsX3_part ({ frames := 2, cells := 0, slots := 0, locals := 57 }) (va_Pc ([.ref (ad 0), .int a0, .int a1, .int a2] : List Value) (gW sz (dC, dI) (tyw cI cJ) (yw ad cI cJ ln (nI d) sc ms mi mv mw pu pl st fr sr nu))) (va_Ql (fun r (u : (Int64 × Int64)) => r = p_part d sc nu a0 a1 a2) (fun u t => va_P (dC, dI) vwCl (yw ad cI cJ ln (nI d) sc ms mi mv mw u.1 u.2 st fr sr nu) t.heap) (va_A (yw ad cI cJ ln (nI d) sc ms mi mv mw pu pl st fr sr nu) sz)) 0 0 (va_A (yw ad cI cJ ln (nI d) sc ms mi mv mw pu pl st fr sr nu) sz) := by
  refine Met.ofW (cc := cX3_part) (maxL := 4) (ret := (some .long)) (by decide) rfl ?_
  intro p e s m args below meth c s₁ B hml hv
  obtain ⟨rfl, hsz, ⟨hnw, hK, hP⟩, hD0⟩ := hv
  have hx := B.exec
  have hb := B.bytes
  have hr := B.returns
  have hts := atoms_spec (ws := wsX3_part) B.pre
  have hown : s.vm.findClass RX3 = some m.cls := findClass_of_methodNamed B.named
  have hlocks := B.notSynchronized
  subst hsz
  have hD := hD0.self (sz := s.heap.size)
  generalize hAe : va_A (yw ad cI cJ ln (nI d) sc ms mi mv mw pu pl st fr sr nu) s.heap.size = A at hD ⊢
  have hA : ∀ q : Nat, s.heap.size ≤ q → A q := fun q h => by rw [← hAe]; exact Or.inr h
  have hS : va_S A s.heap s.heap [] := va_S.rf
  have hw0 := hts (.constantLong RX3 111 (-102)) (by decide +kernel)
  have hw1 := hts (.fieldLink RX3 136 "BitStreamsModel" "partLow" "J") (by decide +kernel)
  have hw2 := hts (.fieldLink RX3 132 "BitStreamsModel" "partUp" "J") (by decide +kernel)
  have hw3 := hts (.constantLong RX3 144 (-101)) (by decide +kernel)
  have inX3 : ∀ w ∈ wsX30, w ∈ wsX3_part := by decide +kernel
  have hl := lv_entry ([.ref (ad 0), .int a0, .int a1, .int a2] : List Value) (n := 4) (Nat.le_of_ble_eq_true rfl)
  rw [lg_entry_eq]
  generalize (lg_sl ([.ref (ad 0), .int a0, .int a1, .int a2] : List Value) ++ List.replicate (4 - (lg_sl ([.ref (ad 0), .int a0, .int a1, .int a2] : List Value)).length) Slot.unset).toArray = ls at hl ⊢
  have hl : lv_has ls 4 [(0, .ref (ad 0)), (1, .int a0), (2, .int a1), (3, .int a2)] := hl
  refine lv_aload_n hx hb dX3_part_0 rfl (lv_at hl 0 rfl) ?_
  refine lv_iload_n hx hb dX3_part_1 rfl (lv_at hl 1 rfl) ?_
  refine ro_i (va_runV ⟨hx, hb, hml, hown, hts⟩ (c_X3_isPartial l ) (cwV 1 hts gX3_part_X3_isPartial rfl rfl rfl ⟨rfl, kd_X3_isPartial⟩ ⟨Nat.le_of_ble_eq_true rfl, Nat.le_of_ble_eq_true rfl⟩) (preV1 hnw hK hP 0 3 rfl rfl) rfl rfl hl.1 rfl (lv_room (Nat.le_of_ble_eq_true rfl)) dX3_part_2 ⟨Nat.zero_le _, Nat.zero_le _⟩) ?_
  refine lv_if_eq (tgt := 18) hx hb dX3_part_5 (by decide) (fun c_5 => ?_) (fun c_5 => ?_)
  · skip
    have c_5 := bI_eq.mp c_5
    have hC : ¬ ((nI d ≤ a0 ∧ a0 ≤ 10) ∧ (0 ≤ a2 ∧ a2 ≤ 1)) := fun h => c_5 h.1
    refine lv_ldc2 (v := (-102)) hx hb hown hw0 dX3_part_18 ?_
    exact W.lret hx hb hr (fun t ht _ => ⟨⟨_, (pu, pl), rfl, (by simp only [p_part, if_neg hC]), wpost ht hP⟩, hS.F ht⟩) hS.2.2 dX3_part_21
  · skip
    have c_5 := bI_ne.mp c_5
    refine lv_iload_n hx hb dX3_part_8 rfl (lv_at hl 3 rfl) ?_
    refine lv_i2l hx hb dX3_part_9 rfl ?_
    refine lv_lconst (v := 0) hx hb dX3_part_10 (by decide) ?_
    refine lv_lconst (v := 1) hx hb dX3_part_11 (by decide) ?_
    refine ro_i (va_runS ⟨hx, hb, hml, hown, hts⟩ (c_X3_in l ) (va_cwS 3 hts gX3_part_X3_in rfl rfl rfl kd_X3_in ⟨Nat.le_of_ble_eq_true rfl, Nat.le_of_ble_eq_true rfl⟩) preS0 rfl rfl hl.1 rfl (lv_room (Nat.le_of_ble_eq_true rfl)) dX3_part_12 ⟨Nat.zero_le _, Nat.zero_le _⟩) ?_
    refine lv_if_ne (tgt := 22) hx hb dX3_part_15 (by decide) (fun c_15 => ?_) (fun c_15 => ?_)
    · skip
      have c_15 := bI_ne.mp c_15
      have c_15 : 0 ≤ a2 ∧ a2 ≤ 1 := (in32 rfl rfl).mp c_15
      have hC : ((nI d ≤ a0 ∧ a0 ≤ 10) ∧ (0 ≤ a2 ∧ a2 ≤ 1)) := ⟨c_5, c_15⟩
      refine lv_iload_n hx hb dX3_part_22 rfl (lv_at hl 2 rfl) ?_
      refine lv_i2l hx hb dX3_part_23 rfl ?_
      refine lv_lconst (v := 0) hx hb dX3_part_24 (by decide) ?_
      refine lv_iload_n hx hb dX3_part_25 rfl (lv_at hl 1 rfl) ?_
      refine lv_i2l hx hb dX3_part_26 rfl ?_
      refine ro_i (va_runS ⟨hx, hb, hml, hown, hts⟩ (c_X3_in l ) (va_cwS 3 hts gX3_part_X3_in rfl rfl rfl kd_X3_in ⟨Nat.le_of_ble_eq_true rfl, Nat.le_of_ble_eq_true rfl⟩) preS0 rfl rfl hl.1 rfl (lv_room (Nat.le_of_ble_eq_true rfl)) dX3_part_27 ⟨Nat.zero_le _, Nat.zero_le _⟩) ?_
      refine lv_if_ne (tgt := 37) hx hb dX3_part_30 (by decide) (fun c_30 => ?_) (fun c_30 => ?_)
      · skip
        have c_30 := bI_ne.mp c_30
        have c_30 : 0 ≤ a1 ∧ a1 ≤ a0 := (in32 rfl rfl).mp c_30
        obtain ⟨mm, hdm, hmm, em⟩ := rng_nat (a := d) (b := 10) (by omega) (by omega) c_5
        subst em
        obtain ⟨jj, -, hj, ej⟩ := rng_nat (a := 0) (b := mm) (by omega) (by omega) c_30
        subst ej
        refine lv_aload_n hx hb dX3_part_37 rfl (lv_at hl 0 rfl) ?_
        refine lv_iload_n hx hb dX3_part_38 rfl (lv_at hl 1 rfl) ?_
        refine lv_iload_n hx hb dX3_part_39 rfl (lv_at hl 2 rfl) ?_
        refine wr_v (va_runV ⟨hx, hb, hml, hown, hts⟩ (c_X3_findPart l hd hdm hmm hj (hcm mm jj hdm hmm hj)) (cwV 2 hts gX3_part_X3_findPart rfl rfl rfl ⟨rfl, kd_X3_findPart⟩ ⟨Nat.le_of_ble_eq_true rfl, Nat.le_of_ble_eq_true rfl⟩) (preV2 hnw hK hP hD 0 3 rfl rfl) rfl rfl hl.1 rfl (lv_room (Nat.le_of_ble_eq_true rfl)) dX3_part_40 ⟨Nat.zero_le _, Nat.zero_le _⟩) hD hS hA (fun _ => rfl) (fun u_40 H locs h_40 hP hD hS => ?_)
        have hP : va_P (dC, dI) vwCl (yw ad cI cJ ln (nI d) sc ms mi mv mw (g_U d nu mm jj / g_G (g_U d nu mm jj) (g_Y d sc mm)) (g_Y d sc mm / g_G (g_U d nu mm jj) (g_Y d sc mm)) st fr sr nu) H := hP
        have hD : va_D A (yw ad cI cJ ln (nI d) sc ms mi mv mw (g_U d nu mm jj / g_G (g_U d nu mm jj) (g_Y d sc mm)) (g_Y d sc mm / g_G (g_U d nu mm jj) (g_Y d sc mm)) st fr sr nu) := va_D_addr hD rfl
        refine lv_iload_n hx hb dX3_part_43 rfl (lv_at hl 3 rfl) ?_
        refine lv_if_ne (tgt := 54) hx hb dX3_part_44 (by decide) (fun c_44 => ?_) (fun c_44 => ?_)
        · skip
          have hv : p_part d sc nu (nI mm) (nI jj) a2 = g_Y d sc mm / g_G (g_U d nu mm jj) (g_Y d sc mm) := by simp only [p_part, if_pos hC, if_pos c_30, if_neg c_44]; rw [nI_cl (by omega), nI_cl (by omega)]
          refine lv_aload_n hx hb dX3_part_54 rfl (lv_at hl 0 rfl) ?_
          refine va_get (D := (dC, dI)) (ci := 3) (C := RX3) (T := TX3) (N := 13) hx hb hts inX3 hown hK hP 0 rfl rfl 12 (by decide) hw1 (fun _ h9 => h9) rfl dX3_part_55 ?_
          exact W.lret hx hb hr (fun t ht _ => ⟨⟨_, (g_U d nu mm jj / g_G (g_U d nu mm jj) (g_Y d sc mm), g_Y d sc mm / g_G (g_U d nu mm jj) (g_Y d sc mm)), rfl, hv.symm, wpost ht hP⟩, hS.F ht⟩) hS.2.2 dX3_part_58
        · skip
          have hv : p_part d sc nu (nI mm) (nI jj) a2 = g_U d nu mm jj / g_G (g_U d nu mm jj) (g_Y d sc mm) := by simp only [p_part, if_pos hC, if_pos c_30, if_pos c_44]; rw [nI_cl (by omega), nI_cl (by omega)]
          refine lv_aload_n hx hb dX3_part_47 rfl (lv_at hl 0 rfl) ?_
          refine va_get (D := (dC, dI)) (ci := 3) (C := RX3) (T := TX3) (N := 13) hx hb hts inX3 hown hK hP 0 rfl rfl 11 (by decide) hw2 (fun _ h9 => h9) rfl dX3_part_48 ?_
          refine lv_goto (tgt := 58) hx hb dX3_part_51 (by decide) ?_
          exact W.lret hx hb hr (fun t ht _ => ⟨⟨_, (g_U d nu mm jj / g_G (g_U d nu mm jj) (g_Y d sc mm), g_Y d sc mm / g_G (g_U d nu mm jj) (g_Y d sc mm)), rfl, hv.symm, wpost ht hP⟩, hS.F ht⟩) hS.2.2 dX3_part_58
      · skip
        have c_30 := bI_eq.mp c_30
        have c_30 : ¬ (0 ≤ a1 ∧ a1 ≤ a0) := fun h => c_30 ((in32 rfl rfl).mpr h)
        refine lv_ldc2 (v := (-101)) hx hb hown hw3 dX3_part_33 ?_
        exact W.lret hx hb hr (fun t ht _ => ⟨⟨_, (pu, pl), rfl, (by simp only [p_part, if_pos hC, if_neg c_30]), wpost ht hP⟩, hS.F ht⟩) hS.2.2 dX3_part_36
    · skip
      have c_15 := bI_eq.mp c_15
      have c_15 : ¬ (0 ≤ a2 ∧ a2 ≤ 1) := fun h => c_15 ((in32 rfl rfl).mpr h)
      have hC : ¬ ((nI d ≤ a0 ∧ a0 ≤ 10) ∧ (0 ≤ a2 ∧ a2 ≤ 1)) := fun h => c_15 h.2
      refine lv_ldc2 (v := (-102)) hx hb hown hw0 dX3_part_18 ?_
      exact W.lret hx hb hr (fun t ht _ => ⟨⟨_, (pu, pl), rfl, (by simp only [p_part, if_neg hC]), wpost ht hP⟩, hS.F ht⟩) hS.2.2 dX3_part_21
theorem kd_X3_least : yX3_least.cls ≠ "java/lang/invoke/MethodHandle" ∧ yX3_least.cls ≠ "java/lang/invoke/VarHandle" ∧ (parseMethodDescriptor yX3_least.desc).map (fun d => d.parameters.length) = some 0 := by decide +kernel
set_option maxHeartbeats 4000000 in
set_option maxRecDepth 100000 in
theorem c_X3_least (l : Launch) {dC : Nat → ClassId} {dI : Nat → Nat → Nat} {ad : Nat → Nat} {cI cJ : ClassId} {ln : Int32} {sc : Int32} {ms : Int32} {mi : Int32} {mv : Int32} {mw : Int32} {pu : Int64} {pl : Int64} {st : (Nat → Int64)} {fr : (Nat → Int64)} {sr : (Nat → Int64)} {nu : (Nat → Int32)} {sz : Nat} {d : Nat} (hd : d ≤ 4) (hcm : ∀ mm j, d ≤ mm → mm ≤ 10 → j ≤ mm → cmOK (g_U d nu mm j) (g_Y d sc mm)) : Met l yX3_least wsX3_least ({ frames := 3, cells := 0, slots := 0, locals := 80 }) (va_Pc ([.ref (ad 0)] : List Value) (gW sz (dC, dI) (tyw cI cJ) (yw ad cI cJ ln (nI d) sc ms mi mv mw pu pl st fr sr nu))) (va_Qi (fun r (u : (Int64 × Int64)) => r = p_least d nu sc (11 - d) d) (fun u t => va_P (dC, dI) vwCl (yw ad cI cJ ln (nI d) sc ms mi mv mw u.1 u.2 st fr sr nu) t.heap) (va_A (yw ad cI cJ ln (nI d) sc ms mi mv mw pu pl st fr sr nu) sz)) 0 0 (va_A (yw ad cI cJ ln (nI d) sc ms mi mv mw pu pl st fr sr nu) sz) := by
  refine Met.ofW (cc := cX3_least) (maxL := 2) (ret := (some .int)) (by decide) rfl ?_
  intro p e s m args below meth c s₁ B hml hv
  obtain ⟨rfl, hsz, ⟨hnw, hK, hP⟩, hD0⟩ := hv
  have hx := B.exec
  have hb := B.bytes
  have hr := B.returns
  have hts := atoms_spec (ws := wsX3_least) B.pre
  have hown : s.vm.findClass RX3 = some m.cls := findClass_of_methodNamed B.named
  have hlocks := B.notSynchronized
  subst hsz
  have hD := hD0.self (sz := s.heap.size)
  generalize hAe : va_A (yw ad cI cJ ln (nI d) sc ms mi mv mw pu pl st fr sr nu) s.heap.size = A at hD ⊢
  have hA : ∀ q : Nat, s.heap.size ≤ q → A q := fun q h => by rw [← hAe]; exact Or.inr h
  have hS : va_S A s.heap s.heap [] := va_S.rf
  have hw0 := hts (.fieldLink RX3 124 "BitStreamsModel" "degree" "I") (by decide +kernel)
  have inX3 : ∀ w ∈ wsX30, w ∈ wsX3_least := by decide +kernel
  have hl := lv_entry ([.ref (ad 0)] : List Value) (n := 2) (Nat.le_of_ble_eq_true rfl)
  rw [lg_entry_eq]
  generalize (lg_sl ([.ref (ad 0)] : List Value) ++ List.replicate (2 - (lg_sl ([.ref (ad 0)] : List Value)).length) Slot.unset).toArray = ls at hl ⊢
  have hl : lv_has ls 2 [(0, .ref (ad 0))] := hl
  refine lv_aload_n hx hb dX3_least_0 rfl (lv_at hl 0 rfl) ?_
  refine va_get (D := (dC, dI)) (ci := 3) (C := RX3) (T := TX3) (N := 13) hx hb hts inX3 hown hK hP 0 rfl rfl 8 (by decide) hw0 (fun _ h9 => h9) rfl dX3_least_1 ?_
  refine lv_istore_n (lv' := [(1, .int _), (0, .ref _)]) hx hb dX3_least_4 rfl hl (by decide) rfl (fun ls hl => ?_)
  have L5 : ∀ (n5 : Nat) (kq : Nat) (x y : Int64), 12 ≤ kq + n5 → (kq ≤ 11) → (d ≤ kq) → (p_least d nu sc (11 - kq) kq = p_least d nu sc (11 - d) d) → ∀ (H : Heap) (locs : List Loc), va_P (dC, dI) vwCl (yw ad cI cJ ln (nI d) sc ms mi mv mw x y st fr sr nu) H → va_S A s.heap H locs → ∀ (ls : Array Slot), lv_has ls 2 [(0, .ref (ad 0)), (1, .int (nI kq))] → W p l e { frames := 3, cells := 0, slots := 0, locals := 80 } s m ([.ref (ad 0)] : List Value).toArray below meth c H locs 0 0 (MQ below (va_Qi (fun r (u : (Int64 × Int64)) => r = p_least d nu sc (11 - d) d) (fun u t => va_P (dC, dI) vwCl (yw ad cI cJ ln (nI d) sc ms mi mv mw u.1 u.2 st fr sr nu) t.heap) A) ([.ref (ad 0)] : List Value).toArray s 0 0 (A)) (F0 m 5 ls []) := by
    intro n5
    induction n5 with
    | zero =>
      intro kq x y hf5 hk hk0 he
      exact absurd hf5 (by omega)
    | succ n5 ih5 =>
      intro kq x y hf5 hk hk0 he H locs hP hS ls hl
      have hD : va_D A (yw ad cI cJ ln (nI d) sc ms mi mv mw x y st fr sr nu) := va_D_addr hD rfl
      refine lv_iload_n hx hb dX3_least_5 rfl (lv_at hl 1 rfl) ?_
      refine lv_bipush (v := 10) hx hb dX3_least_6 (by decide) ?_
      refine lv_icmp_gt (tgt := 27) hx hb dX3_least_8 (by decide) (fun c_8 => ?_) (fun c_8 => ?_)
      · skip
        have hz : kq = 11 := nI_nlt_end (k := kq) (n := 10) (by omega) (by omega) c_8
        refine lv_iconst (v := (-1)) hx hb dX3_least_27 (by decide) ?_
        exact W.iret hx hb hr (fun t ht _ => ⟨⟨_, (x, y), rfl, (by rw [← he, hz]; rfl), wpost ht hP⟩, hS.F ht⟩) hS.2.2 dX3_least_28
      · skip
        have hz : kq ≤ 10 := nI_nlt_go (k := kq) (n := 10) (by omega) (by omega) c_8
        refine lv_aload_n hx hb dX3_least_11 rfl (lv_at hl 0 rfl) ?_
        refine lv_iload_n hx hb dX3_least_12 rfl (lv_at hl 1 rfl) ?_
        refine wr_i (va_runV ⟨hx, hb, hml, hown, hts⟩ (c_X3_mayBeMade l hd hk0 hz (fun j hj => hcm kq j hk0 hz hj)) (cwV 1 hts gX3_least_X3_mayBeMade rfl rfl rfl ⟨rfl, kd_X3_mayBeMade⟩ ⟨Nat.le_of_ble_eq_true rfl, Nat.le_of_ble_eq_true rfl⟩) (preV2 hnw hK hP hD 0 3 rfl rfl) rfl rfl hl.1 rfl (lv_room (Nat.le_of_ble_eq_true rfl)) dX3_least_13 ⟨Nat.zero_le _, Nat.zero_le _⟩) hD hS hA (fun _ => rfl) (fun r_13 u_13 H locs h_13 hP hD hS => ?_)
        have hP : va_P (dC, dI) vwCl (yw ad cI cJ ln (nI d) sc ms mi mv mw u_13.1 u_13.2 st fr sr nu) H := hP
        have hD : va_D A (yw ad cI cJ ln (nI d) sc ms mi mv mw u_13.1 u_13.2 st fr sr nu) := va_D_addr hD rfl
        subst h_13
        refine lv_if_eq (tgt := 21) hx hb dX3_least_16 (by decide) (fun c_16 => ?_) (fun c_16 => ?_)
        · skip
          have c_16 := bI_eq.mp c_16
          refine lv_iinc (lv' := [(1, .int (nI (kq + 1))), (0, .ref _)]) hx hb dX3_least_21 hl (k := 1) rfl (nI_1 _) (by decide) rfl (fun ls hl => ?_)
          refine lv_goto (tgt := 5) hx hb dX3_least_24 (by decide) ?_
          exact ih5 (kq + 1) _ _ (by omega) (by omega) (by omega) (by rw [← he, show 11 - kq = (11 - (kq + 1)) + 1 by omega, p_least, if_pos (bI_eq.mpr c_16)]) _ _ hP hS ls (lv_sub hl [1, 0] rfl)
        · skip
          have c_16 := bI_ne.mp c_16
          refine lv_iload_n hx hb dX3_least_19 rfl (lv_at hl 1 rfl) ?_
          exact W.iret hx hb hr (fun t ht _ => ⟨⟨_, u_13, rfl, (by rw [← he, show 11 - kq = (10 - kq) + 1 by omega, p_least, if_neg (bI_ne.mpr c_16)]), wpost ht hP⟩, hS.F ht⟩) hS.2.2 dX3_least_20
  exact L5 12 d pu pl (by omega) (by omega) (by omega) rfl _ _ hP hS ls (lv_sub hl [1, 0] rfl)
theorem kd_X3_at : yX3_at.cls ≠ "java/lang/invoke/MethodHandle" ∧ yX3_at.cls ≠ "java/lang/invoke/VarHandle" ∧ (parseMethodDescriptor yX3_at.desc).map (fun d => d.parameters.length) = some 1 := by decide +kernel
set_option maxHeartbeats 4000000 in
set_option maxRecDepth 100000 in
theorem c_X3_at (l : Launch) {dC : Nat → ClassId} {dI : Nat → Nat → Nat} {ad : Nat → Nat} {cI cJ : ClassId} {ln : Int32} {sc : Int32} {ms : Int32} {mi : Int32} {mv : Int32} {mw : Int32} {pu : Int64} {pl : Int64} {st : (Nat → Int64)} {fr : (Nat → Int64)} {sr : (Nat → Int64)} {nu : (Nat → Int32)} {a0 : Int32} {d : Nat} (hd : d ≤ 4) (hlo : ¬ sc.toInt64 * f_power ln.toInt64 d = 0) : Met l yX3_at wsX3_at ({ frames := 1, cells := 0, slots := 0, locals := 25 }) (va_Pc ([.ref (ad 0), .int a0] : List Value) (gB (dC, dI) (tyw cI cJ) (yw ad cI cJ ln (nI d) sc ms mi mv mw pu pl st fr sr nu))) (QcRead (p_at d nu sc ln a0)) 0 0 (fun _ => False) := by
  refine Met.ofW (cc := cX3_at) (maxL := 8) (ret := (some .int)) (by decide) rfl ?_
  intro p e s m args below meth c s₁ B hml hv
  obtain ⟨rfl, hnw, hK, hP⟩ := hv
  have hx := B.exec
  have hb := B.bytes
  have hr := B.returns
  have hts := atoms_spec (ws := wsX3_at) B.pre
  have hown : s.vm.findClass RX3 = some m.cls := findClass_of_methodNamed B.named
  have hlocks := B.notSynchronized
  have hw0 := hts (.fieldLink RX3 23 "BitStreamsModel" "size" "I") (by decide +kernel)
  have hw1 := hts (.fieldLink RX3 124 "BitStreamsModel" "degree" "I") (by decide +kernel)
  have hw2 := hts (.fieldLink RX3 30 "BitStreamsModel" "scale" "I") (by decide +kernel)
  have hw3 := hts (.constantLong RX3 122 (1000)) (by decide +kernel)
  have hw4 := hts (.fieldLink RX3 19 "BitStreamsModel" "terms" "[I") (by decide +kernel)
  have hw5 := hts (.constant RX3 153 (-1000000000)) (by decide +kernel)
  have inX3 : ∀ w ∈ wsX30, w ∈ wsX3_at := by decide +kernel
  have hl := lv_entry ([.ref (ad 0), .int a0] : List Value) (n := 8) (Nat.le_of_ble_eq_true rfl)
  rw [lg_entry_eq]
  generalize (lg_sl ([.ref (ad 0), .int a0] : List Value) ++ List.replicate (8 - (lg_sl ([.ref (ad 0), .int a0] : List Value)).length) Slot.unset).toArray = ls at hl ⊢
  have hl : lv_has ls 8 [(0, .ref (ad 0)), (1, .int a0)] := hl
  refine lv_iload_n hx hb dX3_at_0 rfl (lv_at hl 1 rfl) ?_
  refine lv_i2l hx hb dX3_at_1 rfl ?_
  refine lv_lconst (v := 0) hx hb dX3_at_2 (by decide) ?_
  refine lv_aload_n hx hb dX3_at_3 rfl (lv_at hl 0 rfl) ?_
  refine va_get (D := (dC, dI)) (ci := 3) (C := RX3) (T := TX3) (N := 13) hx hb hts inX3 hown hK hP 0 rfl rfl 0 (by decide) hw0 (fun _ h9 => h9) rfl dX3_at_4 ?_
  refine lv_i2l hx hb dX3_at_7 rfl ?_
  refine ro_i (va_runS ⟨hx, hb, hml, hown, hts⟩ (c_X3_in l ) (va_cwS 3 hts gX3_at_X3_in rfl rfl rfl kd_X3_in ⟨Nat.le_of_ble_eq_true rfl, Nat.le_of_ble_eq_true rfl⟩) preS0 rfl rfl hl.1 rfl (lv_room (Nat.le_of_ble_eq_true rfl)) dX3_at_8 ⟨Nat.zero_le _, Nat.zero_le _⟩) ?_
  refine lv_if_ne (tgt := 17) hx hb dX3_at_11 (by decide) (fun c_11 => ?_) (fun c_11 => ?_)
  · skip
    have c_11 := bI_ne.mp c_11
    have c_11 : 0 ≤ a0 ∧ a0 ≤ ln := (in32 rfl rfl).mp c_11
    refine lv_lconst (v := 0) hx hb dX3_at_17 (by decide) ?_
    refine lv_lstore_n (lv' := [(2, .long _), (0, .ref _), (1, .int _)]) hx hb dX3_at_18 rfl hl (by decide) rfl (fun ls hl => ?_)
    refine lv_iconst (v := 0) hx hb dX3_at_19 (by decide) ?_
    refine lv_istore (lv' := [(4, .int _), (2, .long _), (0, .ref _), (1, .int _)]) hx hb dX3_at_20 hl (by decide) rfl (fun ls hl => ?_)
    have L22 : ∀ (n22 : Nat) (kq : Nat) (w : Int64), d + 2 ≤ kq + n22 → (kq ≤ d + 1) → (w = f_th d nu a0 ln kq) → ∀ (ls : Array Slot), lv_has ls 8 [(0, .ref (ad 0)), (1, .int a0), (2, .long w), (4, .int (nI kq))] → W p l e { frames := 1, cells := 0, slots := 0, locals := 25 } s m ([.ref (ad 0), .int a0] : List Value).toArray below meth c s.heap [] 0 0 (MQ below (QcRead (p_at d nu sc ln a0)) ([.ref (ad 0), .int a0] : List Value).toArray s 0 0 (fun _ => False)) (F0 m 22 ls []) := by
      intro n22
      induction n22 with
      | zero =>
        intro kq w hf22 hk hw
        exact absurd hf22 (by omega)
      | succ n22 ih22 =>
        intro kq w hf22 hk hw ls hl
        refine lv_iload hx hb dX3_at_22 (lv_at hl 3 rfl) ?_
        refine lv_aload_n hx hb dX3_at_24 rfl (lv_at hl 0 rfl) ?_
        refine va_get (D := (dC, dI)) (ci := 3) (C := RX3) (T := TX3) (N := 13) hx hb hts inX3 hown hK hP 0 rfl rfl 8 (by decide) hw1 (fun _ h9 => h9) rfl dX3_at_25 ?_
        refine lv_icmp_gt (tgt := 72) hx hb dX3_at_28 (by decide) (fun c_28 => ?_) (fun c_28 => ?_)
        · skip
          have hz := nI_nlt_end hk (by omega) c_28
          rw [hz] at hw
          refine lv_aload_n hx hb dX3_at_72 rfl (lv_at hl 0 rfl) ?_
          refine va_get (D := (dC, dI)) (ci := 3) (C := RX3) (T := TX3) (N := 13) hx hb hts inX3 hown hK hP 0 rfl rfl 9 (by decide) hw2 (fun _ h9 => h9) rfl dX3_at_73 ?_
          refine lv_i2l hx hb dX3_at_76 rfl ?_
          refine lv_aload_n hx hb dX3_at_77 rfl (lv_at hl 0 rfl) ?_
          refine va_get (D := (dC, dI)) (ci := 3) (C := RX3) (T := TX3) (N := 13) hx hb hts inX3 hown hK hP 0 rfl rfl 0 (by decide) hw0 (fun _ h9 => h9) rfl dX3_at_78 ?_
          refine lv_i2l hx hb dX3_at_81 rfl ?_
          refine lv_aload_n hx hb dX3_at_82 rfl (lv_at hl 0 rfl) ?_
          refine va_get (D := (dC, dI)) (ci := 3) (C := RX3) (T := TX3) (N := 13) hx hb hts inX3 hown hK hP 0 rfl rfl 8 (by decide) hw1 (fun _ h9 => h9) rfl dX3_at_83 ?_
          refine ro_l (va_runS ⟨hx, hb, hml, hown, hts⟩ (c_X3_power l ) (va_cwS 2 hts gX3_at_X3_power rfl rfl rfl kd_X3_power ⟨Nat.le_of_ble_eq_true rfl, Nat.le_of_ble_eq_true rfl⟩) preS0 rfl rfl hl.1 rfl (lv_room (Nat.le_of_ble_eq_true rfl)) dX3_at_86 ⟨Nat.zero_le _, Nat.zero_le _⟩) ?_
          refine lv_lmul hx hb dX3_at_89 ?_
          refine lv_topl (fun low elow => ?_)
          have elow : low = sc.toInt64 * f_power ln.toInt64 d := by rw [elow, nI_cl (by omega)]
          refine lv_lstore (lv' := [(4, .long _), (0, .ref _), (1, .int _), (2, .long _)]) hx hb dX3_at_90 hl (by decide) rfl (fun ls hl => ?_)
          refine lv_ldc2 (v := 1000) hx hb hown hw3 dX3_at_92 ?_
          refine lv_lload_n hx hb dX3_at_95 rfl (lv_at hl 3 rfl) ?_
          refine lv_lmul hx hb dX3_at_96 ?_
          refine lv_lload hx hb dX3_at_97 (lv_at hl 0 rfl) ?_
          refine lv_ldiv hx hb dX3_at_99 (by rw [elow]; exact hlo) ?_
          refine lv_lstore (lv' := [(6, .long _), (4, .long _), (0, .ref _), (1, .int _), (2, .long _)]) hx hb dX3_at_100 hl (by decide) rfl (fun ls hl => ?_)
          refine lv_ldc2 (v := 1000) hx hb hown hw3 dX3_at_102 ?_
          refine lv_lload_n hx hb dX3_at_105 rfl (lv_at hl 4 rfl) ?_
          refine lv_lmul hx hb dX3_at_106 ?_
          refine lv_lload hx hb dX3_at_107 (lv_at hl 1 rfl) ?_
          refine lv_lrem hx hb dX3_at_109 (by rw [elow]; exact hlo) ?_
          refine lv_lconst (v := 0) hx hb dX3_at_110 (by decide) ?_
          refine W.lcmp hx hb dX3_at_111 ?_
          refine lv_if_ge (tgt := 122) hx hb dX3_at_112 (by decide) (fun c_112 => ?_) (fun c_112 => ?_)
          · skip
            have c_112 := (lg_cmp_ge _ _).mp c_112
            have hq : ∀ x y : Int64, (if 0 ≤ remL (1000 * w) low then x else y) = x := fun x y => if_pos c_112
            refine lv_lload hx hb dX3_at_122 (lv_at hl 0 rfl) ?_
            refine lv_l2i hx hb dX3_at_124 rfl ?_
            exact W.iret hx hb hr (fun t ht _ => ri (by simp only [p_at, if_pos c_11]; unfold g_at; rw [← hw, ← elow, hq]) ht) no_locs dX3_at_125
          · skip
            have c_112 := fun h => c_112 ((lg_cmp_ge _ _).mpr h)
            have hq : ∀ x y : Int64, (if 0 ≤ remL (1000 * w) low then x else y) = y := fun x y => if_neg c_112
            refine lv_lload hx hb dX3_at_115 (lv_at hl 0 rfl) ?_
            refine lv_lconst (v := 1) hx hb dX3_at_117 (by decide) ?_
            refine lv_lsub hx hb dX3_at_118 ?_
            refine lv_goto (tgt := 124) hx hb dX3_at_119 (by decide) ?_
            refine lv_l2i hx hb dX3_at_124 rfl ?_
            exact W.iret hx hb hr (fun t ht _ => ri (by simp only [p_at, if_pos c_11]; unfold g_at; rw [← hw, ← elow, hq]) ht) no_locs dX3_at_125
        · skip
          have hz := nI_nlt_go hk (by omega) c_28
          refine lv_lload_n hx hb dX3_at_31 rfl (lv_at hl 2 rfl) ?_
          refine lv_aload_n hx hb dX3_at_32 rfl (lv_at hl 0 rfl) ?_
          refine va_get (D := (dC, dI)) (ci := 3) (C := RX3) (T := TX3) (N := 13) hx hb hts inX3 hown hK hP 0 rfl rfl 10 (by decide) hw4 (fun _ h9 => h9) rfl dX3_at_33 ?_
          refine lv_iload hx hb dX3_at_36 (lv_at hl 3 rfl) ?_
          refine va_iald hx hb hK hP 4 0 rfl rfl (vp_in_nI (by omega) (by omega)) dX3_at_38 ?_
          refine st_i (v := nu kq) (by rw [nI_cl (by omega)]) ?_
          refine lv_i2l hx hb dX3_at_39 rfl ?_
          refine lv_iload_n hx hb dX3_at_40 rfl (lv_at hl 1 rfl) ?_
          refine lv_i2l hx hb dX3_at_41 rfl ?_
          refine lv_iload hx hb dX3_at_42 (lv_at hl 3 rfl) ?_
          refine ro_l (va_runS ⟨hx, hb, hml, hown, hts⟩ (c_X3_power l ) (va_cwS 2 hts gX3_at_X3_power rfl rfl rfl kd_X3_power ⟨Nat.le_of_ble_eq_true rfl, Nat.le_of_ble_eq_true rfl⟩) preS0 rfl rfl hl.1 rfl (lv_room (Nat.le_of_ble_eq_true rfl)) dX3_at_44 ⟨Nat.zero_le _, Nat.zero_le _⟩) ?_
          refine lv_lmul hx hb dX3_at_47 ?_
          refine lv_aload_n hx hb dX3_at_48 rfl (lv_at hl 0 rfl) ?_
          refine va_get (D := (dC, dI)) (ci := 3) (C := RX3) (T := TX3) (N := 13) hx hb hts inX3 hown hK hP 0 rfl rfl 0 (by decide) hw0 (fun _ h9 => h9) rfl dX3_at_49 ?_
          refine lv_i2l hx hb dX3_at_52 rfl ?_
          refine lv_aload_n hx hb dX3_at_53 rfl (lv_at hl 0 rfl) ?_
          refine va_get (D := (dC, dI)) (ci := 3) (C := RX3) (T := TX3) (N := 13) hx hb hts inX3 hown hK hP 0 rfl rfl 8 (by decide) hw1 (fun _ h9 => h9) rfl dX3_at_54 ?_
          refine lv_iload hx hb dX3_at_57 (lv_at hl 3 rfl) ?_
          refine lv_isub hx hb dX3_at_59 ?_
          refine ro_l (va_runS ⟨hx, hb, hml, hown, hts⟩ (c_X3_power l ) (va_cwS 2 hts gX3_at_X3_power rfl rfl rfl kd_X3_power ⟨Nat.le_of_ble_eq_true rfl, Nat.le_of_ble_eq_true rfl⟩) preS0 rfl rfl hl.1 rfl (lv_room (Nat.le_of_ble_eq_true rfl)) dX3_at_60 ⟨Nat.zero_le _, Nat.zero_le _⟩) ?_
          refine lv_lmul hx hb dX3_at_63 ?_
          refine lv_ladd hx hb dX3_at_64 ?_
          refine lv_lstore_n (lv' := [(2, .long _), (0, .ref _), (1, .int _), (4, .int _)]) hx hb dX3_at_65 rfl hl (by decide) rfl (fun ls hl => ?_)
          refine lv_iinc (lv' := [(4, .int (nI (kq + 1))), (2, .long _), (0, .ref _), (1, .int _)]) hx hb dX3_at_66 hl (k := 3) rfl (nI_1 _) (by decide) rfl (fun ls hl => ?_)
          refine lv_goto (tgt := 22) hx hb dX3_at_69 (by decide) ?_
          exact ih22 (kq + 1) _ (by omega) (by omega) (by rw [f_th, hw, nI_cl (by omega)]) ls (lv_sub hl [2, 3, 1, 0] rfl)
    exact L22 (d + 2) 0 _ (by omega) (Nat.zero_le _) rfl ls (lv_sub hl [2, 3, 1, 0] rfl)
  · skip
    have c_11 := bI_eq.mp c_11
    have c_11 : ¬ (0 ≤ a0 ∧ a0 ≤ ln) := fun h => c_11 ((in32 rfl rfl).mpr h)
    refine lv_ldc (v := (-1000000000)) hx hb hown hw5 dX3_at_14 ?_
    exact W.iret hx hb hr (fun t ht _ => ri (by simp only [p_at, if_neg c_11]) ht) no_locs dX3_at_16
theorem kd_X3_make : yX3_make.cls ≠ "java/lang/invoke/MethodHandle" ∧ yX3_make.cls ≠ "java/lang/invoke/VarHandle" ∧ (parseMethodDescriptor yX3_make.desc).map (fun d => d.parameters.length) = some 4 := by decide +kernel
set_option maxHeartbeats 4000000 in
set_option maxRecDepth 100000 in
theorem c_X3_make (l : Launch) {dC : Nat → ClassId} {dI : Nat → Nat → Nat} {ad : Nat → Nat} {cI cJ : ClassId} {sc : Int32} {ms : Int32} {mi : Int32} {mv : Int32} {mw : Int32} {pu : Int64} {pl : Int64} {st : (Nat → Int64)} {fr : (Nat → Int64)} {sr : (Nat → Int64)} {nu : (Nat → Int32)} {sz : Nat} {a0 a1 a2 a3 : Int32} {q d : Nat} (hq : q ≤ 6) (hd : d ≤ 4) (hcm : ∀ mm j, d ≤ mm → mm ≤ 10 → j ≤ mm → cmOK (g_U d nu mm j) (g_Y d sc mm)) : Met l yX3_make wsX3_make ({ frames := 3, cells := 0, slots := 0, locals := 80 }) (va_Pc ([.ref (ad 0), .int a0, .int a1, .int a2, .int a3] : List Value) (gW sz (dC, dI) (tyw cI cJ) (yw ad cI cJ (nI (2 ^ q)) (nI d) sc ms mi mv mw pu pl st fr sr nu))) (va_Qi (fun r (u : (Int64 × Int64)) => r = (p_make q d sc nu st a0 a1 a2 a3).1) (fun u t => va_P (dC, dI) vwCl (yw ad cI cJ (nI (2 ^ q)) (nI d) sc ms mi mv mw u.1 u.2 (p_make q d sc nu st a0 a1 a2 a3).2 fr sr nu) t.heap) (va_A (yw ad cI cJ (nI (2 ^ q)) (nI d) sc ms mi mv mw pu pl st fr sr nu) sz)) 0 0 (va_A (yw ad cI cJ (nI (2 ^ q)) (nI d) sc ms mi mv mw pu pl st fr sr nu) sz) := by
  refine Met.ofW (cc := cX3_make) (maxL := 12) (ret := (some .int)) (by decide) rfl ?_
  intro p e s m args below meth c s₁ B hml hv
  obtain ⟨rfl, hsz, ⟨hnw, hK, hP⟩, hD0⟩ := hv
  have hx := B.exec
  have hb := B.bytes
  have hr := B.returns
  have hts := atoms_spec (ws := wsX3_make) B.pre
  have hown : s.vm.findClass RX3 = some m.cls := findClass_of_methodNamed B.named
  have hlocks := B.notSynchronized
  subst hsz
  have hD := hD0.self (sz := s.heap.size)
  generalize hAe : va_A (yw ad cI cJ (nI (2 ^ q)) (nI d) sc ms mi mv mw pu pl st fr sr nu) s.heap.size = A at hD ⊢
  have hA : ∀ q : Nat, s.heap.size ≤ q → A q := fun q h => by rw [← hAe]; exact Or.inr h
  have hS : va_S A s.heap s.heap [] := va_S.rf
  have hw0 := hts (.fieldLink RX3 23 "BitStreamsModel" "size" "I") (by decide +kernel)
  have hw1 := hts (.fieldLink RX3 7 "BitStreamsModel" "rows" "[J") (by decide +kernel)
  have hw2 := hts (.fieldLink RX3 132 "BitStreamsModel" "partUp" "J") (by decide +kernel)
  have hw3 := hts (.fieldLink RX3 136 "BitStreamsModel" "partLow" "J") (by decide +kernel)
  have inX3 : ∀ w ∈ wsX30, w ∈ wsX3_make := by decide +kernel
  have hl := lv_entry ([.ref (ad 0), .int a0, .int a1, .int a2, .int a3] : List Value) (n := 12) (Nat.le_of_ble_eq_true rfl)
  rw [lg_entry_eq]
  generalize (lg_sl ([.ref (ad 0), .int a0, .int a1, .int a2, .int a3] : List Value) ++ List.replicate (12 - (lg_sl ([.ref (ad 0), .int a0, .int a1, .int a2, .int a3] : List Value)).length) Slot.unset).toArray = ls at hl ⊢
  have hl : lv_has ls 12 [(0, .ref (ad 0)), (1, .int a0), (2, .int a1), (3, .int a2), (4, .int a3)] := hl
  have hn64 := pw_le hq
  refine lv_iload_n hx hb dX3_make_0 rfl (lv_at hl 1 rfl) ?_
  refine ro_i (va_runS ⟨hx, hb, hml, hown, hts⟩ (c_X3_isStream l ) (va_cwS 1 hts gX3_make_X3_isStream rfl rfl rfl kd_X3_isStream ⟨Nat.le_of_ble_eq_true rfl, Nat.le_of_ble_eq_true rfl⟩) preS0 rfl rfl hl.1 rfl (lv_room (Nat.le_of_ble_eq_true rfl)) dX3_make_1 ⟨Nat.zero_le _, Nat.zero_le _⟩) ?_
  refine lv_if_ne (tgt := 10) hx hb dX3_make_4 (by decide) (fun c_4 => ?_) (fun c_4 => ?_)
  · skip
    have c_4 := bI_ne.mp c_4
    refine lv_aload_n hx hb dX3_make_10 rfl (lv_at hl 0 rfl) ?_
    refine lv_iload_n hx hb dX3_make_11 rfl (lv_at hl 2 rfl) ?_
    refine lv_iload_n hx hb dX3_make_12 rfl (lv_at hl 3 rfl) ?_
    refine ro_i (va_runV ⟨hx, hb, hml, hown, hts⟩ (c_X3_isSource l ) (cwV 2 hts gX3_make_X3_isSource rfl rfl rfl ⟨rfl, kd_X3_isSource⟩ ⟨Nat.le_of_ble_eq_true rfl, Nat.le_of_ble_eq_true rfl⟩) (preV1 hnw hK hP 0 3 rfl rfl) rfl rfl hl.1 rfl (lv_room (Nat.le_of_ble_eq_true rfl)) dX3_make_13 ⟨Nat.zero_le _, Nat.zero_le _⟩) ?_
    refine lv_if_eq (tgt := 28) hx hb dX3_make_16 (by decide) (fun c_16 => ?_) (fun c_16 => ?_)
    · skip
      have c_16 := bI_eq.mp c_16
      have hC : ¬ (srcs a1 ∧ (0 ≤ a2 ∧ a2 ≤ nI (2 ^ q)) ∧ (nI d ≤ a3 ∧ a3 ≤ 10)) := fun h => c_16 ⟨h.1, h.2.1⟩
      refine lv_bipush (v := (-102)) hx hb dX3_make_28 (by decide) ?_
      simp only [p_make, if_pos c_4, if_neg hC]
      exact W.iret hx hb hr (fun t ht _ => ⟨⟨_, (pu, pl), rfl, rfl, wpost ht hP⟩, hS.F ht⟩) hS.2.2 dX3_make_30
    · skip
      have c_16 := bI_ne.mp c_16
      refine lv_aload_n hx hb dX3_make_19 rfl (lv_at hl 0 rfl) ?_
      refine lv_iload hx hb dX3_make_20 (lv_at hl 4 rfl) ?_
      refine ro_i (va_runV ⟨hx, hb, hml, hown, hts⟩ (c_X3_isPartial l ) (cwV 1 hts gX3_make_X3_isPartial rfl rfl rfl ⟨rfl, kd_X3_isPartial⟩ ⟨Nat.le_of_ble_eq_true rfl, Nat.le_of_ble_eq_true rfl⟩) (preV1 hnw hK hP 0 3 rfl rfl) rfl rfl hl.1 rfl (lv_room (Nat.le_of_ble_eq_true rfl)) dX3_make_22 ⟨Nat.zero_le _, Nat.zero_le _⟩) ?_
      refine lv_if_ne (tgt := 31) hx hb dX3_make_25 (by decide) (fun c_25 => ?_) (fun c_25 => ?_)
      · skip
        have c_25 := bI_ne.mp c_25
        have hC : (srcs a1 ∧ (0 ≤ a2 ∧ a2 ≤ nI (2 ^ q)) ∧ (nI d ≤ a3 ∧ a3 ≤ 10)) := ⟨c_16.1, c_16.2, c_25⟩
        obtain ⟨mm, hdm, hmm, em⟩ := rng_nat (a := d) (b := 10) (by omega) (by omega) c_25
        subst em
        refine lv_aload_n hx hb dX3_make_31 rfl (lv_at hl 0 rfl) ?_
        refine lv_iload hx hb dX3_make_32 (lv_at hl 4 rfl) ?_
        refine wr_i (va_runV ⟨hx, hb, hml, hown, hts⟩ (c_X3_mayBeMade l hd hdm hmm (fun j hj => hcm mm j hdm hmm hj)) (cwV 1 hts gX3_make_X3_mayBeMade rfl rfl rfl ⟨rfl, kd_X3_mayBeMade⟩ ⟨Nat.le_of_ble_eq_true rfl, Nat.le_of_ble_eq_true rfl⟩) (preV2 hnw hK hP hD 0 3 rfl rfl) rfl rfl hl.1 rfl (lv_room (Nat.le_of_ble_eq_true rfl)) dX3_make_34 ⟨Nat.zero_le _, Nat.zero_le _⟩) hD hS hA (fun _ => rfl) (fun r_34 u_34 H locs h_34 hP hD hS => ?_)
        have hP : va_P (dC, dI) vwCl (yw ad cI cJ (nI (2 ^ q)) (nI d) sc ms mi mv mw u_34.1 u_34.2 st fr sr nu) H := hP
        have hD : va_D A (yw ad cI cJ (nI (2 ^ q)) (nI d) sc ms mi mv mw u_34.1 u_34.2 st fr sr nu) := va_D_addr hD rfl
        subst h_34
        refine lv_if_ne (tgt := 43) hx hb dX3_make_37 (by decide) (fun c_37 => ?_) (fun c_37 => ?_)
        · skip
          have c_37 := bI_ne.mp c_37
          refine lv_aload_n hx hb dX3_make_43 rfl (lv_at hl 0 rfl) ?_
          refine lv_iload_n hx hb dX3_make_44 rfl (lv_at hl 2 rfl) ?_
          refine lv_iload_n hx hb dX3_make_45 rfl (lv_at hl 3 rfl) ?_
          refine ro_l (va_runV ⟨hx, hb, hml, hown, hts⟩ (c_X3_sourceRow l hq) (cwV 2 hts gX3_make_X3_sourceRow rfl rfl rfl ⟨rfl, kd_X3_sourceRow⟩ ⟨Nat.le_of_ble_eq_true rfl, Nat.le_of_ble_eq_true rfl⟩) (preV1 hnw hK hP 0 3 rfl rfl) rfl rfl hl.1 rfl (lv_room (Nat.le_of_ble_eq_true rfl)) dX3_make_46 ⟨Nat.zero_le _, Nat.zero_le _⟩) ?_
          refine lv_lstore (lv' := [(5, .long _), (0, .ref _), (1, .int _), (2, .int _), (3, .int _), (4, .int _)]) hx hb dX3_make_49 hl (by decide) rfl (fun ls hl => ?_)
          refine lv_lconst (v := 0) hx hb dX3_make_51 (by decide) ?_
          refine lv_lstore (lv' := [(7, .long _), (5, .long _), (0, .ref _), (1, .int _), (2, .int _), (3, .int _), (4, .int _)]) hx hb dX3_make_52 hl (by decide) rfl (fun ls hl => ?_)
          refine lv_iconst (v := 0) hx hb dX3_make_54 (by decide) ?_
          refine lv_istore (lv' := [(9, .int _), (7, .long _), (5, .long _), (0, .ref _), (1, .int _), (2, .int _), (3, .int _), (4, .int _)]) hx hb dX3_make_55 hl (by decide) rfl (fun ls hl => ?_)
          have L57 : ∀ (n57 : Nat) (iq : Nat) (rowq x y : Int64), 2 ^ q + 1 ≤ iq + n57 → (iq ≤ 2 ^ q) → (rowq = g_form q d nu sc (g_srow q a1 a2 (2 ^ q)) mm iq) → ∀ (H : Heap) (locs : List Loc), va_P (dC, dI) vwCl (yw ad cI cJ (nI (2 ^ q)) (nI d) sc ms mi mv mw x y st fr sr nu) H → va_S A s.heap H locs → ∀ (ls : Array Slot), lv_has ls 12 [(0, .ref (ad 0)), (1, .int a0), (4, .int (nI mm)), (5, .long (g_srow q a1 a2 (2 ^ q))), (7, .long rowq), (9, .int (nI iq))] → W p l e { frames := 3, cells := 0, slots := 0, locals := 80 } s m ([.ref (ad 0), .int a0, .int a1, .int a2, .int (nI mm)] : List Value).toArray below meth c H locs 0 0 (MQ below (va_Qi (fun r (u : (Int64 × Int64)) => r = (p_make q d sc nu st a0 a1 a2 (nI mm)).1) (fun u t => va_P (dC, dI) vwCl (yw ad cI cJ (nI (2 ^ q)) (nI d) sc ms mi mv mw u.1 u.2 (p_make q d sc nu st a0 a1 a2 (nI mm)).2 fr sr nu) t.heap) A) ([.ref (ad 0), .int a0, .int a1, .int a2, .int (nI mm)] : List Value).toArray s 0 0 (A)) (F0 m 57 ls []) := by
            intro n57
            induction n57 with
            | zero =>
              intro iq rowq x y hf57 hi hrq
              exact absurd hf57 (by omega)
            | succ n57 ih57 =>
              intro iq rowq x y hf57 hi hrq H locs hP hS ls hl
              have hD : va_D A (yw ad cI cJ (nI (2 ^ q)) (nI d) sc ms mi mv mw x y st fr sr nu) := va_D_addr hD rfl
              refine lv_iload hx hb dX3_make_57 (lv_at hl 5 rfl) ?_
              refine lv_aload_n hx hb dX3_make_59 rfl (lv_at hl 0 rfl) ?_
              refine va_get (D := (dC, dI)) (ci := 3) (C := RX3) (T := TX3) (N := 13) hx hb hts inX3 hown hK hP 0 rfl rfl 0 (by decide) hw0 (fun _ h9 => h9) rfl dX3_make_60 ?_
              refine lv_icmp_ge (tgt := 159) hx hb dX3_make_63 (by decide) (fun c_63 => ?_) (fun c_63 => ?_)
              · skip
                have hz := cl_end (a := nI (2 ^ q)) (by rw [pw_cl hq]; exact hi) c_63
                rw [pw_cl hq] at hz
                refine lv_aload_n hx hb dX3_make_159 rfl (lv_at hl 0 rfl) ?_
                refine va_get (D := (dC, dI)) (ci := 3) (C := RX3) (T := TX3) (N := 13) hx hb hts inX3 hown hK hP 0 rfl rfl 1 (by decide) hw1 (fun _ h9 => h9) rfl dX3_make_160 ?_
                refine lv_iload_n hx hb dX3_make_163 rfl (lv_at hl 1 rfl) ?_
                refine lv_lload hx hb dX3_make_164 (lv_at hl 4 rfl) ?_
                refine va_last hx hb hK hP hD hS 1 1 rfl rfl (strm_in c_4) dX3_make_166 (fun H locs hP hD hS => ?_)
                have hP : va_P (dC, dI) vwCl (yw ad cI cJ (nI (2 ^ q)) (nI d) sc ms mi mv mw x y _ fr sr nu) H := hP
                have hD : va_D A (yw ad cI cJ (nI (2 ^ q)) (nI d) sc ms mi mv mw x y _ fr sr nu) := va_D_addr hD rfl
                refine lv_aload_n hx hb dX3_make_167 rfl (lv_at hl 0 rfl) ?_
                refine lv_lload hx hb dX3_make_168 (lv_at hl 4 rfl) ?_
                refine ro_i (va_runV ⟨hx, hb, hml, hown, hts⟩ (c_X3_onesOf l ) (cwV 1 hts gX3_make_X3_onesOf rfl rfl rfl ⟨rfl, kd_X3_onesOf⟩ ⟨Nat.le_of_ble_eq_true rfl, Nat.le_of_ble_eq_true rfl⟩) (preV1 hnw hK hP 0 3 rfl rfl) rfl rfl hl.1 rfl (lv_room (Nat.le_of_ble_eq_true rfl)) dX3_make_170 ⟨Nat.zero_le _, Nat.zero_le _⟩) ?_
                refine st_i (v := g_ones rowq (2 ^ q)) (by rw [pw_cl hq]) ?_
                have c_37 : ¬ g_mv d nu sc (nI mm).toNatClampNeg ((nI mm).toNatClampNeg + 1) = 0 := by rw [nI_cl (by omega)]; exact bI_ne.mpr c_37
                simp only [p_make, if_pos c_4, if_pos hC, if_neg c_37, p_set]
                rw [← hz] at hrq
                rw [show (nI mm).toNatClampNeg = mm from nI_cl (by omega), ← hrq]
                exact W.iret hx hb hr (fun t ht _ => ⟨⟨_, (x, y), rfl, rfl, wpost ht hP⟩, hS.F ht⟩) hS.2.2 dX3_make_173
              · skip
                have hz := cl_go (a := nI (2 ^ q)) (by rw [pw_cl hq]; exact hi) c_63
                rw [pw_cl hq] at hz
                refine lv_iconst (v := 0) hx hb dX3_make_66 (by decide) ?_
                refine lv_istore (lv' := [(10, .int _), (0, .ref _), (1, .int _), (4, .int _), (5, .long _), (7, .long _), (9, .int _)]) hx hb dX3_make_67 hl (by decide) rfl (fun ls hl => ?_)
                refine lv_iconst (v := 0) hx hb dX3_make_69 (by decide) ?_
                refine lv_istore (lv' := [(11, .int _), (10, .int _), (0, .ref _), (1, .int _), (4, .int _), (5, .long _), (7, .long _), (9, .int _)]) hx hb dX3_make_70 hl (by decide) rfl (fun ls hl => ?_)
                have L72 : ∀ (n72 : Nat) (kq : Nat) (jj : Int32), mm + 1 ≤ kq + n72 → (kq ≤ mm) → (jj = g_jn (nI (2 ^ q)) (g_srow q a1 a2 (2 ^ q)) (nI iq) kq) → ∀ (H : Heap) (locs : List Loc), va_P (dC, dI) vwCl (yw ad cI cJ (nI (2 ^ q)) (nI d) sc ms mi mv mw x y st fr sr nu) H → va_S A s.heap H locs → ∀ (ls : Array Slot), lv_has ls 12 [(0, .ref (ad 0)), (1, .int a0), (4, .int (nI mm)), (5, .long (g_srow q a1 a2 (2 ^ q))), (7, .long rowq), (9, .int (nI iq)), (10, .int jj), (11, .int (nI kq))] → W p l e { frames := 3, cells := 0, slots := 0, locals := 80 } s m ([.ref (ad 0), .int a0, .int a1, .int a2, .int (nI mm)] : List Value).toArray below meth c H locs 0 0 (MQ below (va_Qi (fun r (u : (Int64 × Int64)) => r = (p_make q d sc nu st a0 a1 a2 (nI mm)).1) (fun u t => va_P (dC, dI) vwCl (yw ad cI cJ (nI (2 ^ q)) (nI d) sc ms mi mv mw u.1 u.2 (p_make q d sc nu st a0 a1 a2 (nI mm)).2 fr sr nu) t.heap) A) ([.ref (ad 0), .int a0, .int a1, .int a2, .int (nI mm)] : List Value).toArray s 0 0 (A)) (F0 m 72 ls []) := by
                  intro n72
                  induction n72 with
                  | zero =>
                    intro kq jj hf72 hk hjj
                    exact absurd hf72 (by omega)
                  | succ n72 ih72 =>
                    intro kq jj hf72 hk hjj H locs hP hS ls hl
                    have hD : va_D A (yw ad cI cJ (nI (2 ^ q)) (nI d) sc ms mi mv mw x y st fr sr nu) := va_D_addr hD rfl
                    refine lv_iload hx hb dX3_make_72 (lv_at hl 7 rfl) ?_
                    refine lv_iload hx hb dX3_make_74 (lv_at hl 2 rfl) ?_
                    refine lv_icmp_ge (tgt := 106) hx hb dX3_make_76 (by decide) (fun c_76 => ?_) (fun c_76 => ?_)
                    · skip
                      have hkz : kq = mm := by have := (nI_leI (a := mm) (b := kq) (by omega) (by omega)).mp c_76; omega
                      obtain ⟨jn, hjn, ejn⟩ := g_jn_nat (nI (2 ^ q)) (g_srow q a1 a2 (2 ^ q)) (nI iq) mm
                      rw [hkz] at hjj
                      rw [ejn] at hjj
                      subst hjj
                      refine lv_aload_n hx hb dX3_make_106 rfl (lv_at hl 0 rfl) ?_
                      refine lv_iload hx hb dX3_make_107 (lv_at hl 2 rfl) ?_
                      refine lv_iload hx hb dX3_make_109 (lv_at hl 6 rfl) ?_
                      refine wr_v (va_runV ⟨hx, hb, hml, hown, hts⟩ (c_X3_findPart l hd hdm hmm hjn (hcm mm jn hdm hmm hjn)) (cwV 2 hts gX3_make_X3_findPart rfl rfl rfl ⟨rfl, kd_X3_findPart⟩ ⟨Nat.le_of_ble_eq_true rfl, Nat.le_of_ble_eq_true rfl⟩) (preV2 hnw hK hP hD 0 3 rfl rfl) rfl rfl hl.1 rfl (lv_room (Nat.le_of_ble_eq_true rfl)) dX3_make_111 ⟨Nat.zero_le _, Nat.zero_le _⟩) hD hS hA (fun _ => rfl) (fun u_111 H locs h_111 hP hD hS => ?_)
                      have hP : va_P (dC, dI) vwCl (yw ad cI cJ (nI (2 ^ q)) (nI d) sc ms mi mv mw (g_U d nu mm jn / g_G (g_U d nu mm jn) (g_Y d sc mm)) (g_Y d sc mm / g_G (g_U d nu mm jn) (g_Y d sc mm)) st fr sr nu) H := hP
                      have hD : va_D A (yw ad cI cJ (nI (2 ^ q)) (nI d) sc ms mi mv mw (g_U d nu mm jn / g_G (g_U d nu mm jn) (g_Y d sc mm)) (g_Y d sc mm / g_G (g_U d nu mm jn) (g_Y d sc mm)) st fr sr nu) := va_D_addr hD rfl
                      refine lv_lload hx hb dX3_make_114 (lv_at hl 4 rfl) ?_
                      refine lv_aload_n hx hb dX3_make_116 rfl (lv_at hl 0 rfl) ?_
                      refine va_get (D := (dC, dI)) (ci := 3) (C := RX3) (T := TX3) (N := 13) hx hb hts inX3 hown hK hP 0 rfl rfl 11 (by decide) hw2 (fun _ h9 => h9) rfl dX3_make_117 ?_
                      refine lv_aload_n hx hb dX3_make_120 rfl (lv_at hl 0 rfl) ?_
                      refine va_get (D := (dC, dI)) (ci := 3) (C := RX3) (T := TX3) (N := 13) hx hb hts inX3 hown hK hP 0 rfl rfl 0 (by decide) hw0 (fun _ h9 => h9) rfl dX3_make_121 ?_
                      refine lv_i2l hx hb dX3_make_124 rfl ?_
                      refine lv_lmul hx hb dX3_make_125 ?_
                      refine lv_aload_n hx hb dX3_make_126 rfl (lv_at hl 0 rfl) ?_
                      refine lv_iload hx hb dX3_make_127 (lv_at hl 5 rfl) ?_
                      refine ro_i (va_runV ⟨hx, hb, hml, hown, hts⟩ (c_X3_round l hq) (cwV 1 hts gX3_make_X3_round rfl rfl rfl ⟨rfl, kd_X3_round⟩ ⟨Nat.le_of_ble_eq_true rfl, Nat.le_of_ble_eq_true rfl⟩) (preV1 hnw hK hP 0 3 rfl rfl) rfl rfl hl.1 rfl (lv_room (Nat.le_of_ble_eq_true rfl)) dX3_make_129 ⟨Nat.zero_le _, Nat.zero_le _⟩) ?_
                      refine lv_i2l hx hb dX3_make_132 rfl ?_
                      refine lv_aload_n hx hb dX3_make_133 rfl (lv_at hl 0 rfl) ?_
                      refine va_get (D := (dC, dI)) (ci := 3) (C := RX3) (T := TX3) (N := 13) hx hb hts inX3 hown hK hP 0 rfl rfl 12 (by decide) hw3 (fun _ h9 => h9) rfl dX3_make_134 ?_
                      refine lv_lmul hx hb dX3_make_137 ?_
                      refine W.lcmp hx hb dX3_make_138 ?_
                      refine lv_if_le (tgt := 149) hx hb dX3_make_139 (by decide) (fun c_139 => ?_) (fun c_139 => ?_)
                      · skip
                        have c_139 := (lg_cmp_le _ _).mp c_139
                        refine lv_lconst (v := 0) hx hb dX3_make_149 (by decide) ?_
                        refine lv_lor hx hb dX3_make_150 ?_
                        refine lv_lstore (lv' := [(7, .long _), (0, .ref _), (1, .int _), (4, .int _), (5, .long _), (9, .int _), (10, .int _), (11, .int _)]) hx hb dX3_make_151 hl (by decide) rfl (fun ls hl => ?_)
                        refine lv_iinc (lv' := [(9, .int (nI (iq + 1))), (7, .long _), (0, .ref _), (1, .int _), (4, .int _), (5, .long _), (10, .int _), (11, .int _)]) hx hb dX3_make_153 hl (k := 5) rfl (nI_1 _) (by decide) rfl (fun ls hl => ?_)
                        refine lv_goto (tgt := 57) hx hb dX3_make_156 (by decide) ?_
                        exact ih57 (iq + 1) _ _ _ (by omega) (by omega) (by rw [g_form, ejn, nI_cl (by omega), hrq]; first | rw [if_pos c_139] | (rw [if_neg c_139]; rfl)) _ _ hP hS ls (lv_sub hl [2, 3, 4, 5, 1, 0] rfl)
                      · skip
                        have c_139 := fun h => c_139 ((lg_cmp_le _ _).mpr h)
                        refine lv_lconst (v := 1) hx hb dX3_make_142 (by decide) ?_
                        refine lv_iload hx hb dX3_make_143 (lv_at hl 5 rfl) ?_
                        refine lv_lshl hx hb dX3_make_145 rfl ?_
                        refine lv_goto (tgt := 150) hx hb dX3_make_146 (by decide) ?_
                        refine lv_lor hx hb dX3_make_150 ?_
                        refine lv_lstore (lv' := [(7, .long _), (0, .ref _), (1, .int _), (4, .int _), (5, .long _), (9, .int _), (10, .int _), (11, .int _)]) hx hb dX3_make_151 hl (by decide) rfl (fun ls hl => ?_)
                        refine lv_iinc (lv' := [(9, .int (nI (iq + 1))), (7, .long _), (0, .ref _), (1, .int _), (4, .int _), (5, .long _), (10, .int _), (11, .int _)]) hx hb dX3_make_153 hl (k := 5) rfl (nI_1 _) (by decide) rfl (fun ls hl => ?_)
                        refine lv_goto (tgt := 57) hx hb dX3_make_156 (by decide) ?_
                        exact ih57 (iq + 1) _ _ _ (by omega) (by omega) (by rw [g_form, ejn, nI_cl (by omega), hrq]; first | rw [if_pos c_139] | (rw [if_neg c_139]; rfl)) _ _ hP hS ls (lv_sub hl [2, 3, 4, 5, 1, 0] rfl)
                    · skip
                      have hkz : kq < mm := by have := mt (nI_leI (a := mm) (b := kq) (by omega) (by omega)).mpr c_76; omega
                      refine lv_iload hx hb dX3_make_79 (lv_at hl 6 rfl) ?_
                      refine lv_aload_n hx hb dX3_make_81 rfl (lv_at hl 0 rfl) ?_
                      refine lv_lload hx hb dX3_make_82 (lv_at hl 3 rfl) ?_
                      refine lv_iload hx hb dX3_make_84 (lv_at hl 5 rfl) ?_
                      refine lv_iload hx hb dX3_make_86 (lv_at hl 7 rfl) ?_
                      refine lv_iadd hx hb dX3_make_88 ?_
                      refine lv_aload_n hx hb dX3_make_89 rfl (lv_at hl 0 rfl) ?_
                      refine va_get (D := (dC, dI)) (ci := 3) (C := RX3) (T := TX3) (N := 13) hx hb hts inX3 hown hK hP 0 rfl rfl 0 (by decide) hw0 (fun _ h9 => h9) rfl dX3_make_90 ?_
                      refine lv_irem hx hb dX3_make_93 (pw_ne hq) ?_
                      refine ro_i (va_runV ⟨hx, hb, hml, hown, hts⟩ (c_X3_bitOf l ) (cwV 2 hts gX3_make_X3_bitOf rfl rfl rfl ⟨rfl, kd_X3_bitOf⟩ ⟨Nat.le_of_ble_eq_true rfl, Nat.le_of_ble_eq_true rfl⟩) (preV1 hnw hK hP 0 3 rfl rfl) rfl rfl hl.1 rfl (lv_room (Nat.le_of_ble_eq_true rfl)) dX3_make_94 ⟨Nat.zero_le _, Nat.zero_le _⟩) ?_
                      refine lv_iadd hx hb dX3_make_97 ?_
                      refine lv_istore (lv' := [(10, .int _), (0, .ref _), (1, .int _), (4, .int _), (5, .long _), (7, .long _), (9, .int _), (11, .int _)]) hx hb dX3_make_98 hl (by decide) rfl (fun ls hl => ?_)
                      refine lv_iinc (lv' := [(11, .int (nI (kq + 1))), (10, .int _), (0, .ref _), (1, .int _), (4, .int _), (5, .long _), (7, .long _), (9, .int _)]) hx hb dX3_make_100 hl (k := 7) rfl (nI_1 _) (by decide) rfl (fun ls hl => ?_)
                      refine lv_goto (tgt := 72) hx hb dX3_make_103 (by decide) ?_
                      exact ih72 (kq + 1) _ (by omega) (by omega) (by rw [g_jn, hjj]; rfl) _ _ hP hS ls (lv_sub hl [2, 3, 4, 5, 6, 7, 1, 0] rfl)
                exact L72 (mm + 1) 0 _ (by omega) (Nat.zero_le _) rfl _ _ hP hS ls (lv_sub hl [2, 3, 4, 5, 6, 7, 1, 0] rfl)
          exact L57 (2 ^ q + 1) 0 _ _ _ (by omega) (Nat.zero_le _) rfl _ _ hP hS ls (lv_sub hl [3, 4, 7, 2, 1, 0] rfl)
        · skip
          have c_37 := bI_eq.mp c_37
          refine lv_bipush (v := (-103)) hx hb dX3_make_40 (by decide) ?_
          have c_37 : g_mv d nu sc (nI mm).toNatClampNeg ((nI mm).toNatClampNeg + 1) = 0 := by rw [nI_cl (by omega)]; exact bI_eq.mpr c_37
          simp only [p_make, if_pos c_4, if_pos hC, if_pos c_37]
          exact W.iret hx hb hr (fun t ht _ => ⟨⟨_, u_34, rfl, rfl, wpost ht hP⟩, hS.F ht⟩) hS.2.2 dX3_make_42
      · skip
        have c_25 := bI_eq.mp c_25
        have hC : ¬ (srcs a1 ∧ (0 ≤ a2 ∧ a2 ≤ nI (2 ^ q)) ∧ (nI d ≤ a3 ∧ a3 ≤ 10)) := fun h => c_25 h.2.2
        refine lv_bipush (v := (-102)) hx hb dX3_make_28 (by decide) ?_
        simp only [p_make, if_pos c_4, if_neg hC]
        exact W.iret hx hb hr (fun t ht _ => ⟨⟨_, (pu, pl), rfl, rfl, wpost ht hP⟩, hS.F ht⟩) hS.2.2 dX3_make_30
  · skip
    have c_4 := bI_eq.mp c_4
    refine lv_bipush (v := (-101)) hx hb dX3_make_7 (by decide) ?_
    simp only [p_make, if_neg c_4]
    exact W.iret hx hb hr (fun t ht _ => ⟨⟨_, (pu, pl), rfl, rfl, wpost ht hP⟩, hS.F ht⟩) hS.2.2 dX3_make_9
theorem kd_X3_count : yX3_count.cls ≠ "java/lang/invoke/MethodHandle" ∧ yX3_count.cls ≠ "java/lang/invoke/VarHandle" ∧ (parseMethodDescriptor yX3_count.desc).map (fun d => d.parameters.length) = some 1 := by decide +kernel
set_option maxHeartbeats 4000000 in
set_option maxRecDepth 100000 in
theorem c_X3_count (l : Launch) {dC : Nat → ClassId} {dI : Nat → Nat → Nat} {ad : Nat → Nat} {cI cJ : ClassId} {ln : Int32} {dg : Int32} {sc : Int32} {ms : Int32} {mi : Int32} {mv : Int32} {mw : Int32} {pu : Int64} {pl : Int64} {st : (Nat → Int64)} {fr : (Nat → Int64)} {sr : (Nat → Int64)} {nu : (Nat → Int32)} {a0 : Int32} : Met l yX3_count wsX3_count ({ frames := 0, cells := 0, slots := 0, locals := 0 }) (va_Pc ([.ref (ad 0), .int a0] : List Value) (gB (dC, dI) (tyw cI cJ) (yw ad cI cJ ln dg sc ms mi mv mw pu pl st fr sr nu))) (QcRead (o_count ln dg sc mi a0)) 0 0 (fun _ => False) := by
  refine Met.ofW (cc := cX3_count) (maxL := 2) (ret := (some .int)) (by decide) rfl ?_
  intro p e s m args below meth c s₁ B hml hv
  obtain ⟨rfl, hnw, hK, hP⟩ := hv
  have hx := B.exec
  have hb := B.bytes
  have hr := B.returns
  have hts := atoms_spec (ws := wsX3_count) B.pre
  have hown : s.vm.findClass RX3 = some m.cls := findClass_of_methodNamed B.named
  have hlocks := B.notSynchronized
  have hw0 := hts (.fieldLink RX3 92 "BitStreamsModel" "misses" "I") (by decide +kernel)
  have hw1 := hts (.fieldLink RX3 30 "BitStreamsModel" "scale" "I") (by decide +kernel)
  have hw2 := hts (.fieldLink RX3 124 "BitStreamsModel" "degree" "I") (by decide +kernel)
  have hw3 := hts (.fieldLink RX3 23 "BitStreamsModel" "size" "I") (by decide +kernel)
  have inX3 : ∀ w ∈ wsX30, w ∈ wsX3_count := by decide +kernel
  have hl := lv_entry ([.ref (ad 0), .int a0] : List Value) (n := 2) (Nat.le_of_ble_eq_true rfl)
  rw [lg_entry_eq]
  generalize (lg_sl ([.ref (ad 0), .int a0] : List Value) ++ List.replicate (2 - (lg_sl ([.ref (ad 0), .int a0] : List Value)).length) Slot.unset).toArray = ls at hl ⊢
  have hl : lv_has ls 2 [(0, .ref (ad 0)), (1, .int a0)] := hl
  refine lv_iload_n hx hb dX3_count_0 rfl (lv_at hl 1 rfl) ?_
  refine lv_if_ne (tgt := 11) hx hb dX3_count_1 (by decide) (fun c_1 => ?_) (fun c_1 => ?_)
  · skip
    refine lv_iload_n hx hb dX3_count_11 rfl (lv_at hl 1 rfl) ?_
    refine lv_iconst (v := 1) hx hb dX3_count_12 (by decide) ?_
    refine lv_icmp_ne (tgt := 23) hx hb dX3_count_13 (by decide) (fun c_13 => ?_) (fun c_13 => ?_)
    · skip
      refine lv_iload_n hx hb dX3_count_23 rfl (lv_at hl 1 rfl) ?_
      refine lv_iconst (v := 2) hx hb dX3_count_24 (by decide) ?_
      refine lv_icmp_ne (tgt := 35) hx hb dX3_count_25 (by decide) (fun c_25 => ?_) (fun c_25 => ?_)
      · skip
        refine lv_iload_n hx hb dX3_count_35 rfl (lv_at hl 1 rfl) ?_
        refine lv_iconst (v := 3) hx hb dX3_count_36 (by decide) ?_
        refine lv_icmp_ne (tgt := 47) hx hb dX3_count_37 (by decide) (fun c_37 => ?_) (fun c_37 => ?_)
        · skip
          have hv : o_count ln dg sc mi a0 = -102 := by simp only [o_count, if_neg c_1, if_neg c_13, if_neg c_25, if_neg c_37]
          refine lv_bipush (v := (-102)) hx hb dX3_count_47 (by decide) ?_
          exact W.iret hx hb hr (fun t ht _ => ri hv.symm ht) no_locs dX3_count_49
        · skip
          have hv : o_count ln dg sc mi a0 = mi := by simp only [o_count, if_neg c_1, if_neg c_13, if_neg c_25, if_pos c_37]
          refine lv_aload_n hx hb dX3_count_40 rfl (lv_at hl 0 rfl) ?_
          refine va_get (D := (dC, dI)) (ci := 3) (C := RX3) (T := TX3) (N := 13) hx hb hts inX3 hown hK hP 0 rfl rfl 2 (by decide) hw0 (fun _ h9 => h9) rfl dX3_count_41 ?_
          refine lv_goto (tgt := 49) hx hb dX3_count_44 (by decide) ?_
          exact W.iret hx hb hr (fun t ht _ => ri hv.symm ht) no_locs dX3_count_49
      · skip
        have hv : o_count ln dg sc mi a0 = sc := by simp only [o_count, if_neg c_1, if_neg c_13, if_pos c_25]
        refine lv_aload_n hx hb dX3_count_28 rfl (lv_at hl 0 rfl) ?_
        refine va_get (D := (dC, dI)) (ci := 3) (C := RX3) (T := TX3) (N := 13) hx hb hts inX3 hown hK hP 0 rfl rfl 9 (by decide) hw1 (fun _ h9 => h9) rfl dX3_count_29 ?_
        refine lv_goto (tgt := 49) hx hb dX3_count_32 (by decide) ?_
        exact W.iret hx hb hr (fun t ht _ => ri hv.symm ht) no_locs dX3_count_49
    · skip
      have hv : o_count ln dg sc mi a0 = dg := by simp only [o_count, if_neg c_1, if_pos c_13]
      refine lv_aload_n hx hb dX3_count_16 rfl (lv_at hl 0 rfl) ?_
      refine va_get (D := (dC, dI)) (ci := 3) (C := RX3) (T := TX3) (N := 13) hx hb hts inX3 hown hK hP 0 rfl rfl 8 (by decide) hw2 (fun _ h9 => h9) rfl dX3_count_17 ?_
      refine lv_goto (tgt := 49) hx hb dX3_count_20 (by decide) ?_
      exact W.iret hx hb hr (fun t ht _ => ri hv.symm ht) no_locs dX3_count_49
  · skip
    have hv : o_count ln dg sc mi a0 = ln := by simp only [o_count, if_pos c_1]
    refine lv_aload_n hx hb dX3_count_4 rfl (lv_at hl 0 rfl) ?_
    refine va_get (D := (dC, dI)) (ci := 3) (C := RX3) (T := TX3) (N := 13) hx hb hts inX3 hown hK hP 0 rfl rfl 0 (by decide) hw3 (fun _ h9 => h9) rfl dX3_count_5 ?_
    refine lv_goto (tgt := 49) hx hb dX3_count_8 (by decide) ?_
    exact W.iret hx hb hr (fun t ht _ => ri hv.symm ht) no_locs dX3_count_49
theorem kd_X3_digest : yX3_digest.cls ≠ "java/lang/invoke/MethodHandle" ∧ yX3_digest.cls ≠ "java/lang/invoke/VarHandle" ∧ (parseMethodDescriptor yX3_digest.desc).map (fun d => d.parameters.length) = some 0 := by decide +kernel
set_option maxHeartbeats 4000000 in
set_option maxRecDepth 100000 in
theorem c_X3_digest (l : Launch) {dC : Nat → ClassId} {dI : Nat → Nat → Nat} {ad : Nat → Nat} {cI cJ : ClassId} {ln : Int32} {dg : Int32} {sc : Int32} {ms : Int32} {mi : Int32} {mv : Int32} {mw : Int32} {pu : Int64} {pl : Int64} {st : (Nat → Int64)} {fr : (Nat → Int64)} {sr : (Nat → Int64)} {nu : (Nat → Int32)}  : Met l yX3_digest wsX3_digest ({ frames := 2, cells := 0, slots := 0, locals := 47 }) (va_Pc ([.ref (ad 0)] : List Value) (gB (dC, dI) (tyw cI cJ) (yw ad cI cJ ln dg sc ms mi mv mw pu pl st fr sr nu))) (qL (p_digest ln.toNatClampNeg ln dg sc ms mi st nu)) 0 0 (fun _ => False) := by
  refine Met.ofW (cc := cX3_digest) (maxL := 4) (ret := (some .long)) (by decide) rfl ?_
  intro p e s m args below meth c s₁ B hml hv
  obtain ⟨rfl, hnw, hK, hP⟩ := hv
  have hx := B.exec
  have hb := B.bytes
  have hr := B.returns
  have hts := atoms_spec (ws := wsX3_digest) B.pre
  have hown : s.vm.findClass RX3 = some m.cls := findClass_of_methodNamed B.named
  have hlocks := B.notSynchronized
  have hw0 := hts (.constantLong RX3 154 (4867)) (by decide +kernel)
  have hw1 := hts (.fieldLink RX3 23 "BitStreamsModel" "size" "I") (by decide +kernel)
  have hw2 := hts (.constantLong RX3 156 (31)) (by decide +kernel)
  have hw3 := hts (.fieldLink RX3 27 "BitStreamsModel" "behind" "I") (by decide +kernel)
  have hw4 := hts (.fieldLink RX3 124 "BitStreamsModel" "degree" "I") (by decide +kernel)
  have hw5 := hts (.fieldLink RX3 30 "BitStreamsModel" "scale" "I") (by decide +kernel)
  have hw6 := hts (.fieldLink RX3 92 "BitStreamsModel" "misses" "I") (by decide +kernel)
  have hw7 := hts (.fieldLink RX3 19 "BitStreamsModel" "terms" "[I") (by decide +kernel)
  have hw8 := hts (.fieldLink RX3 7 "BitStreamsModel" "rows" "[J") (by decide +kernel)
  have inX3 : ∀ w ∈ wsX30, w ∈ wsX3_digest := by decide +kernel
  have hl := lv_entry ([.ref (ad 0)] : List Value) (n := 4) (Nat.le_of_ble_eq_true rfl)
  rw [lg_entry_eq]
  generalize (lg_sl ([.ref (ad 0)] : List Value) ++ List.replicate (4 - (lg_sl ([.ref (ad 0)] : List Value)).length) Slot.unset).toArray = ls at hl ⊢
  have hl : lv_has ls 4 [(0, .ref (ad 0))] := hl
  refine lv_ldc2 (v := 4867) hx hb hown hw0 dX3_digest_0 ?_
  refine lv_aload_n hx hb dX3_digest_3 rfl (lv_at hl 0 rfl) ?_
  refine va_get (D := (dC, dI)) (ci := 3) (C := RX3) (T := TX3) (N := 13) hx hb hts inX3 hown hK hP 0 rfl rfl 0 (by decide) hw1 (fun _ h9 => h9) rfl dX3_digest_4 ?_
  refine lv_i2l hx hb dX3_digest_7 rfl ?_
  refine lv_ladd hx hb dX3_digest_8 ?_
  refine lv_lstore_n (lv' := [(1, .long _), (0, .ref _)]) hx hb dX3_digest_9 rfl hl (by decide) rfl (fun ls hl => ?_)
  refine lv_iconst (v := 0) hx hb dX3_digest_10 (by decide) ?_
  refine lv_istore_n (lv' := [(3, .int _), (1, .long _), (0, .ref _)]) hx hb dX3_digest_11 rfl hl (by decide) rfl (fun ls hl => ?_)
  have L12 : ∀ (n12 : Nat) (kq : Nat), 13 ≤ kq + n12 → (kq ≤ 12) → ∀ (ls : Array Slot), lv_has ls 4 [(0, .ref (ad 0)), (1, .long (p_dg1 ln.toNatClampNeg (4867 + ln.toInt64) st kq)), (3, .int (nI kq))] → W p l e { frames := 2, cells := 0, slots := 0, locals := 47 } s m ([.ref (ad 0)] : List Value).toArray below meth c s.heap [] 0 0 (MQ below (qL (p_digest ln.toNatClampNeg ln dg sc ms mi st nu)) ([.ref (ad 0)] : List Value).toArray s 0 0 (fun _ => False)) (F0 m 12 ls []) := by
    intro n12
    induction n12 with
    | zero =>
      intro kq hf12 hk
      exact absurd hf12 (by omega)
    | succ n12 ih12 =>
      intro kq hf12 hk ls hl
      refine lv_iload_n hx hb dX3_digest_12 rfl (lv_at hl 2 rfl) ?_
      refine lv_bipush (v := 12) hx hb dX3_digest_13 (by decide) ?_
      refine lv_icmp_ge (tgt := 55) hx hb dX3_digest_15 (by decide) (fun c_15 => ?_) (fun c_15 => ?_)
      · skip
        have hz : kq = 12 := by have := (nI_leI (a := 12) (b := kq) (by omega) (by omega)).mp c_15; omega
        subst hz
        refine lv_ldc2 (v := 31) hx hb hown hw2 dX3_digest_55 ?_
        refine lv_lload_n hx hb dX3_digest_58 rfl (lv_at hl 1 rfl) ?_
        refine lv_lmul hx hb dX3_digest_59 ?_
        refine lv_aload_n hx hb dX3_digest_60 rfl (lv_at hl 0 rfl) ?_
        refine va_get (D := (dC, dI)) (ci := 3) (C := RX3) (T := TX3) (N := 13) hx hb hts inX3 hown hK hP 0 rfl rfl 7 (by decide) hw3 (fun _ h9 => h9) rfl dX3_digest_61 ?_
        refine lv_i2l hx hb dX3_digest_64 rfl ?_
        refine lv_ladd hx hb dX3_digest_65 ?_
        refine lv_lstore_n (lv' := [(1, .long _), (0, .ref _), (3, .int _)]) hx hb dX3_digest_66 rfl hl (by decide) rfl (fun ls hl => ?_)
        refine lv_ldc2 (v := 31) hx hb hown hw2 dX3_digest_67 ?_
        refine lv_lload_n hx hb dX3_digest_70 rfl (lv_at hl 0 rfl) ?_
        refine lv_lmul hx hb dX3_digest_71 ?_
        refine lv_aload_n hx hb dX3_digest_72 rfl (lv_at hl 1 rfl) ?_
        refine va_get (D := (dC, dI)) (ci := 3) (C := RX3) (T := TX3) (N := 13) hx hb hts inX3 hown hK hP 0 rfl rfl 8 (by decide) hw4 (fun _ h9 => h9) rfl dX3_digest_73 ?_
        refine lv_i2l hx hb dX3_digest_76 rfl ?_
        refine lv_ladd hx hb dX3_digest_77 ?_
        refine lv_lstore_n (lv' := [(1, .long _), (0, .ref _), (3, .int _)]) hx hb dX3_digest_78 rfl hl (by decide) rfl (fun ls hl => ?_)
        refine lv_ldc2 (v := 31) hx hb hown hw2 dX3_digest_79 ?_
        refine lv_lload_n hx hb dX3_digest_82 rfl (lv_at hl 0 rfl) ?_
        refine lv_lmul hx hb dX3_digest_83 ?_
        refine lv_aload_n hx hb dX3_digest_84 rfl (lv_at hl 1 rfl) ?_
        refine va_get (D := (dC, dI)) (ci := 3) (C := RX3) (T := TX3) (N := 13) hx hb hts inX3 hown hK hP 0 rfl rfl 9 (by decide) hw5 (fun _ h9 => h9) rfl dX3_digest_85 ?_
        refine lv_i2l hx hb dX3_digest_88 rfl ?_
        refine lv_ladd hx hb dX3_digest_89 ?_
        refine lv_lstore_n (lv' := [(1, .long _), (0, .ref _), (3, .int _)]) hx hb dX3_digest_90 rfl hl (by decide) rfl (fun ls hl => ?_)
        refine lv_iconst (v := 0) hx hb dX3_digest_91 (by decide) ?_
        refine lv_istore_n (lv' := [(3, .int _), (1, .long _), (0, .ref _)]) hx hb dX3_digest_92 rfl hl (by decide) rfl (fun ls hl => ?_)
        have L93 : ∀ (n93 : Nat) (iq : Nat), 6 ≤ iq + n93 → (iq ≤ 5) → ∀ (ls : Array Slot), lv_has ls 4 [(0, .ref (ad 0)), (1, .long (f_dg2 (31 * (31 * (31 * p_dg1 ln.toNatClampNeg (4867 + ln.toInt64) st 12 + ms.toInt64) + dg.toInt64) + sc.toInt64) nu iq)), (3, .int (nI iq))] → W p l e { frames := 2, cells := 0, slots := 0, locals := 47 } s m ([.ref (ad 0)] : List Value).toArray below meth c s.heap [] 0 0 (MQ below (qL (p_digest ln.toNatClampNeg ln dg sc ms mi st nu)) ([.ref (ad 0)] : List Value).toArray s 0 0 (fun _ => False)) (F0 m 93 ls []) := by
          intro n93
          induction n93 with
          | zero =>
            intro iq hf93 hi
            exact absurd hf93 (by omega)
          | succ n93 ih93 =>
            intro iq hf93 hi ls hl
            refine lv_iload_n hx hb dX3_digest_93 rfl (lv_at hl 2 rfl) ?_
            refine lv_iconst (v := 5) hx hb dX3_digest_94 (by decide) ?_
            refine lv_icmp_ge (tgt := 118) hx hb dX3_digest_95 (by decide) (fun c_95 => ?_) (fun c_95 => ?_)
            · skip
              have hz2 : iq = 5 := by have := (nI_leI (a := 5) (b := iq) (by omega) (by omega)).mp c_95; omega
              subst hz2
              refine lv_ldc2 (v := 31) hx hb hown hw2 dX3_digest_118 ?_
              refine lv_lload_n hx hb dX3_digest_121 rfl (lv_at hl 1 rfl) ?_
              refine lv_lmul hx hb dX3_digest_122 ?_
              refine lv_aload_n hx hb dX3_digest_123 rfl (lv_at hl 0 rfl) ?_
              refine va_get (D := (dC, dI)) (ci := 3) (C := RX3) (T := TX3) (N := 13) hx hb hts inX3 hown hK hP 0 rfl rfl 2 (by decide) hw6 (fun _ h9 => h9) rfl dX3_digest_124 ?_
              refine lv_i2l hx hb dX3_digest_127 rfl ?_
              refine lv_ladd hx hb dX3_digest_128 ?_
              exact W.lret hx hb hr (fun t ht _ => rl rfl ht) no_locs dX3_digest_129
            · skip
              have hz2 : iq < 5 := by have := mt (nI_leI (a := 5) (b := iq) (by omega) (by omega)).mpr c_95; omega
              refine lv_ldc2 (v := 31) hx hb hown hw2 dX3_digest_98 ?_
              refine lv_lload_n hx hb dX3_digest_101 rfl (lv_at hl 1 rfl) ?_
              refine lv_lmul hx hb dX3_digest_102 ?_
              refine lv_aload_n hx hb dX3_digest_103 rfl (lv_at hl 0 rfl) ?_
              refine va_get (D := (dC, dI)) (ci := 3) (C := RX3) (T := TX3) (N := 13) hx hb hts inX3 hown hK hP 0 rfl rfl 10 (by decide) hw7 (fun _ h9 => h9) rfl dX3_digest_104 ?_
              refine lv_iload_n hx hb dX3_digest_107 rfl (lv_at hl 2 rfl) ?_
              refine va_iald hx hb hK hP 4 0 rfl rfl (vp_in_nI (by omega) (by omega)) dX3_digest_108 ?_
              refine st_i (v := nu iq) (by rw [nI_cl (by omega)]) ?_
              refine lv_i2l hx hb dX3_digest_109 rfl ?_
              refine lv_ladd hx hb dX3_digest_110 ?_
              refine lv_lstore_n (lv' := [(1, .long _), (0, .ref _), (3, .int _)]) hx hb dX3_digest_111 rfl hl (by decide) rfl (fun ls hl => ?_)
              refine lv_iinc (lv' := [(3, .int (nI (iq + 1))), (1, .long _), (0, .ref _)]) hx hb dX3_digest_112 hl (k := 2) rfl (nI_1 _) (by decide) rfl (fun ls hl => ?_)
              refine lv_goto (tgt := 93) hx hb dX3_digest_115 (by decide) ?_
              exact ih93 (iq + 1) (by omega) (by omega) ls (lv_sub hl [2, 1, 0] rfl)
        exact L93 6 0 (by omega) (by omega) ls (lv_sub hl [2, 1, 0] rfl)
      · skip
        have hz : kq < 12 := by have := mt (nI_leI (a := 12) (b := kq) (by omega) (by omega)).mpr c_15; omega
        refine lv_ldc2 (v := 31) hx hb hown hw2 dX3_digest_18 ?_
        refine lv_lload_n hx hb dX3_digest_21 rfl (lv_at hl 1 rfl) ?_
        refine lv_lmul hx hb dX3_digest_22 ?_
        refine lv_aload_n hx hb dX3_digest_23 rfl (lv_at hl 0 rfl) ?_
        refine lv_aload_n hx hb dX3_digest_24 rfl (lv_at hl 0 rfl) ?_
        refine va_get (D := (dC, dI)) (ci := 3) (C := RX3) (T := TX3) (N := 13) hx hb hts inX3 hown hK hP 0 rfl rfl 1 (by decide) hw8 (fun _ h9 => h9) rfl dX3_digest_25 ?_
        refine lv_iload_n hx hb dX3_digest_28 rfl (lv_at hl 2 rfl) ?_
        refine va_lald hx hb hK hP 1 1 rfl rfl (vp_in_nI hz (by omega)) dX3_digest_29 ?_
        refine st_l (v := st kq) (by rw [nI_cl (by omega)]) ?_
        refine ro_i (va_runV ⟨hx, hb, hml, hown, hts⟩ (c_X3_onesOf l ) (cwV 1 hts gX3_digest_X3_onesOf rfl rfl rfl ⟨rfl, kd_X3_onesOf⟩ ⟨Nat.le_of_ble_eq_true rfl, Nat.le_of_ble_eq_true rfl⟩) (preV1 hnw hK hP 0 3 rfl rfl) rfl rfl hl.1 rfl (lv_room (Nat.le_of_ble_eq_true rfl)) dX3_digest_30 ⟨Nat.zero_le _, Nat.zero_le _⟩) ?_
        refine lv_i2l hx hb dX3_digest_33 rfl ?_
        refine lv_ladd hx hb dX3_digest_34 ?_
        refine lv_lstore_n (lv' := [(1, .long _), (0, .ref _), (3, .int _)]) hx hb dX3_digest_35 rfl hl (by decide) rfl (fun ls hl => ?_)
        refine lv_ldc2 (v := 31) hx hb hown hw2 dX3_digest_36 ?_
        refine lv_lload_n hx hb dX3_digest_39 rfl (lv_at hl 0 rfl) ?_
        refine lv_lmul hx hb dX3_digest_40 ?_
        refine lv_aload_n hx hb dX3_digest_41 rfl (lv_at hl 1 rfl) ?_
        refine va_get (D := (dC, dI)) (ci := 3) (C := RX3) (T := TX3) (N := 13) hx hb hts inX3 hown hK hP 0 rfl rfl 1 (by decide) hw8 (fun _ h9 => h9) rfl dX3_digest_42 ?_
        refine lv_iload_n hx hb dX3_digest_45 rfl (lv_at hl 2 rfl) ?_
        refine va_lald hx hb hK hP 1 1 rfl rfl (vp_in_nI hz (by omega)) dX3_digest_46 ?_
        refine st_l (v := st kq) (by rw [nI_cl (by omega)]) ?_
        refine lv_ladd hx hb dX3_digest_47 ?_
        refine lv_lstore_n (lv' := [(1, .long _), (0, .ref _), (3, .int _)]) hx hb dX3_digest_48 rfl hl (by decide) rfl (fun ls hl => ?_)
        refine lv_iinc (lv' := [(3, .int (nI (kq + 1))), (1, .long _), (0, .ref _)]) hx hb dX3_digest_49 hl (k := 2) rfl (nI_1 _) (by decide) rfl (fun ls hl => ?_)
        refine lv_goto (tgt := 12) hx hb dX3_digest_52 (by decide) ?_
        exact ih12 (kq + 1) (by omega) (by omega) ls (lv_sub hl [2, 1, 0] rfl)
  exact L12 13 0 (by omega) (by omega) ls (lv_sub hl [2, 1, 0] rfl)
