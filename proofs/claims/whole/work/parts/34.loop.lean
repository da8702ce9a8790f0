theorem nw_in : ∀ w ∈ nwL, w ∈ lw_tbl := by decide +kernel
theorem go_in {iq L : Nat} (h : iq ≤ L) (hL : L ≤ 3072) (hc : ¬ nI L - 6 < nI iq) : iq + 6 ≤ L := by
  rw [Int32.lt_iff_toInt_lt, show (6 : Int32) = nI 6 from rfl, pk_sub_toInt (by omega) (by omega), nI_toInt (by omega)] at hc
  omega
set_option maxHeartbeats 4000000 in
set_option maxRecDepth 100000 in
theorem law_loop {p : Program} {l : Launch} {e : Env} {s : State} {m : MethodId} {below : List Frame} {meth : Method} {c : Code} {dC : Nat → ClassId} {dI : Nat → Nat → Nat} {b L : Nat} {xs : Nat → Int32} {ax ay : Nat → Nat} {cI cJ cK cL : ClassId} (C0 : lw_At p s m meth c b L xs) (hL : L ≤ 3072) (hnw : nw s) (hKx : va_K (dC, dI) vwCl (tyw cI cJ) s) (hKy : va_K (dC, dI) vwCl (tyw cK cL) s) (hD0 : va_D (fun q : Nat => s.heap.size ≤ q) (zw ax ay cI cJ cK cL 0 0 0 0 0 0 0 (fun _ => 0) (fun _ => 0) (fun _ => 0) (fun _ => 0) (fun _ => 0) 0 0 (fun _ => 0) (fun _ => 0))) : ∀ n iq : Nat, iq ≤ L → L + 1 ≤ iq + n → LK p l e s m below meth c (dC, dI) b ax ay cI cJ cK cL iq 18 := by
  obtain ⟨hx, hb, hr, hml, hown, hts0, hX, hbl, hlocks, hgv⟩ := id C0
  have hbA : ¬ (fun q : Nat => s.heap.size ≤ q) b := Nat.not_le.mpr hbl
  intro n
  induction n with
  | zero =>
    intro iq h1 h2
    exact absurd h2 (by omega)
  | succ n ihn =>
    intro iq h1 h2
    intro q d sN cN ms mv mw st fr sr pa nu pu pl fi ot I H locs hP hS ls hl
    refine lv_iload_n hx hb dL_law_18 rfl (lv_at hl 3 rfl) ?_
    refine lv_aload_n hx hb dL_law_19 rfl (lv_at hl 0 rfl) ?_
    refine va_slen hx hb hX hbl hbA hS dL_law_20 ?_
    refine lv_bipush (v := 6) hx hb dL_law_21 (by decide) ?_
    refine lv_isub hx hb dL_law_23 ?_
    refine lv_icmp_gt (tgt := 1031) hx hb dL_law_24 (by decide) (fun c_24 => ?_) (fun c_24 => ?_)
    · refine lv_iconst (v := 1) hx hb dL_law_1031 (by decide) ?_
      refine va_forget (fun q hq => hS.2.2 q hq) ?_
      exact lw_ret hx hb hr hlocks dL_law_1032
    · have hi : iq + 6 ≤ L := go_in h1 hL c_24
      have kk : LK p l e s m below meth c (dC, dI) b ax ay cI cJ cK cL iq 1025 := by
        intro q d sN cN ms mv mw st fr sr pa nu pu pl fi ot I H locs hP hS ls hl
        refine lv_iinc (v := nI (iq + 6)) (lv' := [(3, .int (nI (iq + 6))), (0, .ref b), (1, .ref (ax 0)), (2, .ref (ay 0))]) hx hb dL_law_1025 hl (k := 3) rfl (nI_add iq 6) (by decide) rfl (fun ls hl => ?_)
        refine lv_goto (tgt := 18) hx hb dL_law_1028 (by decide) ?_
        exact ihn (iq + 6) hi (by omega) q d sN cN ms mv mw st fr sr pa nu pu pl fi ot I H locs hP hS ls (lv_sub hl [1, 2, 3, 0] rfl)
      refine lv_aload_n hx hb dL_law_27 rfl (lv_at hl 0 rfl) ?_
      refine lv_iload_n hx hb dL_law_28 rfl (lv_at hl 3 rfl) ?_
      refine va_sld hx hb hX hbl hbA hS (vp_in_nI (by omega) (by omega)) dL_law_29 ?_
      refine lv_bipush (v := 31) hx hb dL_law_30 (by decide) ?_
      refine lv_iand hx hb dL_law_32 ?_
      refine lv_topi (fun zq ez => ?_)
      by_cases nz_0 : zq = 0
      · subst nz_0
        refine lv_tableIn (off := 111) (tgt := 144) hx hb dL_law_33 (by decide) (by decide) (by decide) (by decide) ?_
        exact lk_length C0 hL hi hnw hKx hKy hD0 kk q d sN cN ms mv mw st fr sr pa nu pu pl fi ot I H locs hP hS ls hl
      by_cases nz_1 : zq = 1
      · subst nz_1
        refine lv_tableIn (off := 134) (tgt := 167) hx hb dL_law_33 (by decide) (by decide) (by decide) (by decide) ?_
        exact lk_source C0 hL hi hnw hKx hKy hD0 kk q d sN cN ms mv mw st fr sr pa nu pu pl fi ot I H locs hP hS ls hl
      by_cases nz_2 : zq = 2
      · subst nz_2
        refine lv_tableIn (off := 177) (tgt := 210) hx hb dL_law_33 (by decide) (by decide) (by decide) (by decide) ?_
        exact lk_put C0 hL hi hnw hKx hKy hD0 kk q d sN cN ms mv mw st fr sr pa nu pu pl fi ot I H locs hP hS ls hl
      by_cases nz_3 : zq = 3
      · subst nz_3
        refine lv_tableIn (off := 236) (tgt := 269) hx hb dL_law_33 (by decide) (by decide) (by decide) (by decide) ?_
        exact lk_bit C0 hL hi hnw hKx hKy hD0 kk q d sN cN ms mv mw st fr sr pa nu pu pl fi ot I H locs hP hS ls hl
      by_cases nz_4 : zq = 4
      · subst nz_4
        refine lv_tableIn (off := 269) (tgt := 302) hx hb dL_law_33 (by decide) (by decide) (by decide) (by decide) ?_
        exact lk_ones C0 hL hi hnw hKx hKy hD0 kk q d sN cN ms mv mw st fr sr pa nu pu pl fi ot I H locs hP hS ls hl
      by_cases nz_5 : zq = 5
      · subst nz_5
        refine lv_tableIn (off := 292) (tgt := 325) hx hb dL_law_33 (by decide) (by decide) (by decide) (by decide) ?_
        exact lk_gate C0 hL hi hnw hKx hKy hD0 kk q d sN cN ms mv mw st fr sr pa nu pu pl fi ot I H locs hP hS ls hl
      by_cases nz_6 : zq = 6
      · subst nz_6
        refine lv_tableIn (off := 355) (tgt := 388) hx hb dL_law_33 (by decide) (by decide) (by decide) (by decide) ?_
        exact lk_not C0 hL hi hnw hKx hKy hD0 kk q d sN cN ms mv mw st fr sr pa nu pu pl fi ot I H locs hP hS ls hl
      by_cases nz_7 : zq = 7
      · subst nz_7
        refine lv_tableIn (off := 388) (tgt := 421) hx hb dL_law_33 (by decide) (by decide) (by decide) (by decide) ?_
        exact lk_later C0 hL hi hnw hKx hKy hD0 kk q d sN cN ms mv mw st fr sr pa nu pu pl fi ot I H locs hP hS ls hl
      by_cases nz_8 : zq = 8
      · subst nz_8
        refine lv_tableIn (off := 431) (tgt := 464) hx hb dL_law_33 (by decide) (by decide) (by decide) (by decide) ?_
        exact lk_flip C0 hL hi hnw hKx hKy hD0 kk q d sN cN ms mv mw st fr sr pa nu pu pl fi ot I H locs hP hS ls hl
      by_cases nz_9 : zq = 9
      · subst nz_9
        refine lv_tableIn (off := 504) (tgt := 537) hx hb dL_law_33 (by decide) (by decide) (by decide) (by decide) ?_
        exact lk_both C0 hL hi hnw hKx hKy hD0 kk q d sN cN ms mv mw st fr sr pa nu pu pl fi ot I H locs hP hS ls hl
      by_cases nz_10 : zq = 10
      · subst nz_10
        refine lv_tableIn (off := 547) (tgt := 580) hx hb dL_law_33 (by decide) (by decide) (by decide) (by decide) ?_
        exact lk_together C0 hL hi hnw hKx hKy hD0 kk q d sN cN ms mv mw st fr sr pa nu pu pl fi ot I H locs hP hS ls hl
      by_cases nz_11 : zq = 11
      · subst nz_11
        refine lv_tableIn (off := 580) (tgt := 613) hx hb dL_law_33 (by decide) (by decide) (by decide) (by decide) ?_
        exact lk_miss C0 hL hi hnw hKx hKy hD0 kk q d sN cN ms mv mw st fr sr pa nu pu pl fi ot I H locs hP hS ls hl
      by_cases nz_12 : zq = 12
      · subst nz_12
        refine lv_tableIn (off := 633) (tgt := 666) hx hb dL_law_33 (by decide) (by decide) (by decide) (by decide) ?_
        exact lk_where C0 hL hi hnw hKx hKy hD0 kk q d sN cN ms mv mw st fr sr pa nu pu pl fi ot I H locs hP hS ls hl
      by_cases nz_13 : zq = 13
      · subst nz_13
        refine lv_tableIn (off := 656) (tgt := 689) hx hb dL_law_33 (by decide) (by decide) (by decide) (by decide) ?_
        exact lk_machine C0 hL hi hnw hKx hKy hD0 kk q d sN cN ms mv mw st fr sr pa nu pu pl fi ot I H locs hP hS ls hl
      by_cases nz_14 : zq = 14
      · subst nz_14
        refine lv_tableIn (off := 699) (tgt := 732) hx hb dL_law_33 (by decide) (by decide) (by decide) (by decide) ?_
        exact lk_state C0 hL hi hnw hKx hKy hD0 kk q d sN cN ms mv mw st fr sr pa nu pu pl fi ot I H locs hP hS ls hl
      by_cases nz_15 : zq = 15
      · subst nz_15
        refine lv_tableIn (off := 712) (tgt := 745) hx hb dL_law_33 (by decide) (by decide) (by decide) (by decide) ?_
        exact lk_ever C0 hL hi hnw hKx hKy hD0 kk q d sN cN ms mv mw st fr sr pa nu pu pl fi ot I H locs hP hS ls hl
      by_cases nz_16 : zq = 16
      · subst nz_16
        refine lv_tableIn (off := 756) (tgt := 789) hx hb dL_law_33 (by decide) (by decide) (by decide) (by decide) ?_
        exact lk_degree C0 hL hi hnw hKx hKy hD0 kk q d sN cN ms mv mw st fr sr pa nu pu pl fi ot I H locs hP hS ls hl
      by_cases nz_17 : zq = 17
      · subst nz_17
        refine lv_tableIn (off := 789) (tgt := 822) hx hb dL_law_33 (by decide) (by decide) (by decide) (by decide) ?_
        exact lk_term C0 hL hi hnw hKx hKy hD0 kk q d sN cN ms mv mw st fr sr pa nu pu pl fi ot I H locs hP hS ls hl
      by_cases nz_18 : zq = 18
      · subst nz_18
        refine lv_tableIn (off := 822) (tgt := 855) hx hb dL_law_33 (by decide) (by decide) (by decide) (by decide) ?_
        exact lk_part C0 hL hi hnw hKx hKy hD0 kk q d sN cN ms mv mw st fr sr pa nu pu pl fi ot I H locs hP hS ls hl
      by_cases nz_19 : zq = 19
      · subst nz_19
        refine lv_tableIn (off := 866) (tgt := 899) hx hb dL_law_33 (by decide) (by decide) (by decide) (by decide) ?_
        exact lk_least C0 hL hi hnw hKx hKy hD0 kk q d sN cN ms mv mw st fr sr pa nu pu pl fi ot I H locs hP hS ls hl
      by_cases nz_20 : zq = 20
      · subst nz_20
        refine lv_tableIn (off := 879) (tgt := 912) hx hb dL_law_33 (by decide) (by decide) (by decide) (by decide) ?_
        exact lk_at C0 hL hi hnw hKx hKy hD0 kk q d sN cN ms mv mw st fr sr pa nu pu pl fi ot I H locs hP hS ls hl
      by_cases nz_21 : zq = 21
      · subst nz_21
        refine lv_tableIn (off := 902) (tgt := 935) hx hb dL_law_33 (by decide) (by decide) (by decide) (by decide) ?_
        exact lk_make C0 hL hi hnw hKx hKy hD0 kk q d sN cN ms mv mw st fr sr pa nu pu pl fi ot I H locs hP hS ls hl
      by_cases nz_22 : zq = 22
      · subst nz_22
        refine lv_tableIn (off := 955) (tgt := 988) hx hb dL_law_33 (by decide) (by decide) (by decide) (by decide) ?_
        exact lk_count C0 hL hi hnw hKx hKy hD0 kk q d sN cN ms mv mw st fr sr pa nu pu pl fi ot I H locs hP hS ls hl
      by_cases nz_23 : zq = 23
      · subst nz_23
        refine lv_tableIn (off := 978) (tgt := 1011) hx hb dL_law_33 (by decide) (by decide) (by decide) (by decide) ?_
        exact lk_digest C0 hL hi hnw hKx hKy hD0 kk q d sN cN ms mv mw st fr sr pa nu pu pl fi ot I H locs hP hS ls hl
      have nb : zq.toInt < 0 ∨ 23 < zq.toInt := by
        have y0 := lv_neT (a := 0) nz_0 (by decide)
        have y1 := lv_neT (a := 1) nz_1 (by decide)
        have y2 := lv_neT (a := 2) nz_2 (by decide)
        have y3 := lv_neT (a := 3) nz_3 (by decide)
        have y4 := lv_neT (a := 4) nz_4 (by decide)
        have y5 := lv_neT (a := 5) nz_5 (by decide)
        have y6 := lv_neT (a := 6) nz_6 (by decide)
        have y7 := lv_neT (a := 7) nz_7 (by decide)
        have y8 := lv_neT (a := 8) nz_8 (by decide)
        have y9 := lv_neT (a := 9) nz_9 (by decide)
        have y10 := lv_neT (a := 10) nz_10 (by decide)
        have y11 := lv_neT (a := 11) nz_11 (by decide)
        have y12 := lv_neT (a := 12) nz_12 (by decide)
        have y13 := lv_neT (a := 13) nz_13 (by decide)
        have y14 := lv_neT (a := 14) nz_14 (by decide)
        have y15 := lv_neT (a := 15) nz_15 (by decide)
        have y16 := lv_neT (a := 16) nz_16 (by decide)
        have y17 := lv_neT (a := 17) nz_17 (by decide)
        have y18 := lv_neT (a := 18) nz_18 (by decide)
        have y19 := lv_neT (a := 19) nz_19 (by decide)
        have y20 := lv_neT (a := 20) nz_20 (by decide)
        have y21 := lv_neT (a := 21) nz_21 (by decide)
        have y22 := lv_neT (a := 22) nz_22 (by decide)
        have y23 := lv_neT (a := 23) nz_23 (by decide)
        omega
      refine lv_tableOut (tgt := 1025) hx hb dL_law_33 nb (by decide) ?_
      exact kk q d sN cN ms mv mw st fr sr pa nu pu pl fi ot I H locs hP hS ls hl
theorem IV0 : LInv 3 0 1 0 (fun _ => 0) (fun _ => 0) := ⟨by omega, by omega, by omega, by omega, by omega, by omega, fun _ _ => rv_0 _, fun _ _ => (by decide : -1000 ≤ (0 : Int32).toInt ∧ (0 : Int32).toInt ≤ 1000)⟩
set_option maxHeartbeats 4000000 in
set_option maxRecDepth 100000 in
/-- THE LAW, from its entry -/
theorem whole_start {p : Program} {e : Env} {s : State} {m : MethodId} {below : List Frame} {meth : Method} {c : Code} (l : Launch) {b L : Nat} {xs : Nat → Int32} (hL : L ≤ 3072) (C0 : lw_At p s m meth c b L xs) : W p l e room_1 s m #[Value.ref b] below meth c s.heap [] 0 0 (lw_Z below #[Value.ref b] s) (entryFrame m ([Value.ref b] : List Value).toArray 4) := by
  obtain ⟨hx, hb, hr, hml, hown, hts0, hX, hbl, hlocks, hgv⟩ := id C0
  have hown : s.vm.findClass RL = some m.cls := hown
  have hts : ∀ w ∈ wsL_law, w.before #[Value.ref b] s = true := fun w h => hts0 w (wsL_in w h)
  have hnw : nw s := fun w hw => va_Nw.of (nw_tab w hw) (hts0 w (nw_in w hw))
  have hA : ∀ q : Nat, s.heap.size ≤ q → (fun q : Nat => s.heap.size ≤ q) q := fun _ h => h
  obtain ⟨k0, i0, hKn0⟩ := u_known (C := RX0) (T := TX0) (N := 3) (n := 3) hts inlX0 (hts (.instantiable RX0 3) (by decide +kernel))
  obtain ⟨k1, i1, hKn1⟩ := u_known (C := RX1) (T := TX1) (N := 2) (n := 2) hts inlX1 (hts (.instantiable RX1 2) (by decide +kernel))
  obtain ⟨k2, i2, hKn2⟩ := u_known (C := RX2) (T := TX2) (N := 10) (n := 10) hts inlX2 (hts (.instantiable RX2 10) (by decide +kernel))
  obtain ⟨k3, i3, hKn3⟩ := u_known (C := RX3) (T := TX3) (N := 13) (n := 13) hts inlX3 (hts (.instantiable RX3 13) (by decide +kernel))
  obtain ⟨dC, dI, hKc⟩ : ∃ (dC : Nat → ClassId) (dI : Nat → Nat → Nat), ∀ (k : Nat) (q : vw_C), vwCl[k]? = some q → u_Kn s q.1 q.2.1 q.2.2 (dC k) (dI k) := by
    refine ⟨fun k => if k = 0 then k0 else if k = 1 then k1 else if k = 2 then k2 else k3, fun k => if k = 0 then i0 else if k = 1 then i1 else if k = 2 then i2 else i3, ?_⟩
    intro k q hq
    match k, hq with
    | 0, hq => cases hq; exact hKn0
    | 1, hq => cases hq; exact hKn1
    | 2, hq => cases hq; exact hKn2
    | 3, hq => cases hq; exact hKn3
    | k + 4, hq => simp [vwCl] at hq
  have hS : va_S (fun q : Nat => s.heap.size ≤ q) s.heap s.heap [] := va_S.rf
  have hK : va_K (dC, dI) vwCl [] s := ⟨hKc, fun k q h => by simp at h⟩
  have hP : va_P (dC, dI) vwCl [] s.heap := fun k q h => by simp at h
  have hD : va_D (fun q : Nat => s.heap.size ≤ q) [] := ⟨fun i j p q h => by simp at h, fun k q h => by simp at h⟩
  have hl := lv_entry ([.ref b] : List Value) (n := 4) (Nat.le_of_ble_eq_true rfl)
  rw [lg_entry_eq]
  generalize (lg_sl ([.ref b] : List Value) ++ List.replicate (4 - (lg_sl ([.ref b] : List Value)).length) Slot.unset).toArray = ls at hl ⊢
  have hl : lv_has ls 4 [(0, .ref b)] := hl
  refine va_new (ci := 2) (fs := [.null, .null, .null, .null, .null, .null, .int 0, .int 0, .int 0, .int 0]) (C := RX2) (T := TX2) (N := 10) hx hb hts inlX2 tyX2 tyX2_ok hown (hts (.classLink RL 7 RX2) (by decide +kernel)) (hts (.instantiable RX2 10) (by decide +kernel)) (hts (.initialized RX2) (by decide +kernel)) hK hP hD hS hA rfl (fun j hj => by rcases (show j = 0 ∨ j = 1 ∨ j = 2 ∨ j = 3 ∨ j = 4 ∨ j = 5 ∨ j = 6 ∨ j = 7 ∨ j = 8 ∨ j = 9 by omega) with rfl | rfl | rfl | rfl | rfl | rfl | rfl | rfl | rfl | rfl <;> rfl) (Nat.le_of_ble_eq_true rfl) (Nat.le_of_ble_eq_true rfl) dL_law_0 (fun qx H hP hD hS => ?_)
  refine lv_dup hx hb dL_law_3 rfl ?_
  have hP : va_P (dC, dI) vwCl [(qx, .inr (2, [.null, .null, .null, .null, .null, .null, .int 0, .int 0, .int 0, .int 0]))] H := hP
  have hD : va_D (fun q : Nat => s.heap.size ≤ q) [(qx, .inr (2, [.null, .null, .null, .null, .null, .null, .int 0, .int 0, .int 0, .int 0]))] := hD
  have hPc := hP.sub (ws' := [(qx, .inr (2, [.null, .null, .null, .null, .null, .null, .int 0, .int 0, .int 0, .int 0]))]) [0] rfl
  have hDc := hD.sub (ws' := [(qx, .inr (2, [.null, .null, .null, .null, .null, .null, .int 0, .int 0, .int 0, .int 0]))]) [0] (by decide) rfl
  have hFc := va_free (wc := [(qx, .inr (2, [.null, .null, .null, .null, .null, .null, .int 0, .int 0, .int 0, .int 0]))]) hD hS hA [0] rfl
  refine va_callv (va_runI (As := []) (rest := [.ref qx]) ⟨hx, hb, hml, hown, hts⟩ (c_X2_init l (sz := H.size)) (cwI 0 hts gL_law_X2_init rfl rfl rfl (hts (.initialized RX2) (by decide +kernel)) (hts (.methodLink RL 9 yX2_init) (by decide +kernel)) (hts (.instanceMethod yX2_init) (by decide +kernel)) rfl kd_X2_init ⟨Nat.le_of_ble_eq_true rfl, Nat.le_of_ble_eq_true rfl⟩) ⟨gW_blind, fun U hU hW => ⟨rfl, by rw [hU], ⟨nw.warm hW hnw, va_K.moved hW.alike hK, by rw [hU]; exact hPc⟩, hDc.weaken (fun _ _ _ _ => trivial)⟩⟩ rfl rfl hl.1 rfl (lv_room (Nat.le_of_ble_eq_true rfl)) dL_law_4 ⟨Nat.le_of_ble_eq_true rfl, Nat.le_of_ble_eq_true rfl⟩) hS (fun q _ h => hFc q h) hFc (fun u t H1 locs ht hvm hw hB hz1 hk1 hS => ?_)
  obtain ⟨ax, cI, cJ, eax, hP1, hKx, hD1⟩ := hB
  rw [ht] at hP1
  have hKx := va_K.moved hvm.symm hKx
  obtain ⟨hP, hD⟩ := va_join (wr := []) (w1 := xw ax cI cJ (nI (2 ^ 3)) (nI 3) (nI 0) (nI 1) (-1) (nI 0) 0 0 (fun _ => 0) (fun _ => 0) (fun _ => 0) (fun _ => 0) (fun _ => 0)) hP hD [0] [] rfl rfl (by decide) (by decide) hk1 hFc hP1 hD1
  generalize H1 = H at hP hS ⊢
  have hP : va_P (dC, dI) vwCl (xw ax cI cJ (nI (2 ^ 3)) (nI 3) (nI 0) (nI 1) (-1) (nI 0) 0 0 (fun _ => 0) (fun _ => 0) (fun _ => 0) (fun _ => 0) (fun _ => 0)) H := hP
  have hD : va_D (fun q : Nat => s.heap.size ≤ q) (xw ax cI cJ (nI (2 ^ 3)) (nI 3) (nI 0) (nI 1) (-1) (nI 0) 0 0 (fun _ => 0) (fun _ => 0) (fun _ => 0) (fun _ => 0) (fun _ => 0)) := hD
  refine lv_astore_n (lv' := [(1, .ref qx), (0, .ref b)]) hx hb dL_law_7 rfl hl (by decide) rfl (fun ls hl => ?_)
  refine va_new (ci := 3) (fs := [.int 0, .null, .int 0, .int 0, .int 0, .null, .null, .int 0, .int 0, .int 0, .null, .long 0, .long 0]) (C := RX3) (T := TX3) (N := 13) hx hb hts inlX3 tyX3 tyX3_ok hown (hts (.classLink RL 10 RX3) (by decide +kernel)) (hts (.instantiable RX3 13) (by decide +kernel)) (hts (.initialized RX3) (by decide +kernel)) hK hP hD hS hA rfl (fun j hj => by rcases (show j = 0 ∨ j = 1 ∨ j = 2 ∨ j = 3 ∨ j = 4 ∨ j = 5 ∨ j = 6 ∨ j = 7 ∨ j = 8 ∨ j = 9 ∨ j = 10 ∨ j = 11 ∨ j = 12 by omega) with rfl | rfl | rfl | rfl | rfl | rfl | rfl | rfl | rfl | rfl | rfl | rfl | rfl <;> rfl) (Nat.le_of_ble_eq_true rfl) (Nat.le_of_ble_eq_true rfl) dL_law_8 (fun qy H hP hD hS => ?_)
  refine lv_dup hx hb dL_law_11 rfl ?_
  have hP : va_P (dC, dI) vwCl (xw ax cI cJ (nI (2 ^ 3)) (nI 3) (nI 0) (nI 1) (-1) (nI 0) 0 0 (fun _ => 0) (fun _ => 0) (fun _ => 0) (fun _ => 0) (fun _ => 0) ++ [(qy, .inr (3, [.int 0, .null, .int 0, .int 0, .int 0, .null, .null, .int 0, .int 0, .int 0, .null, .long 0, .long 0]))]) H := hP
  have hD : va_D (fun q : Nat => s.heap.size ≤ q) (xw ax cI cJ (nI (2 ^ 3)) (nI 3) (nI 0) (nI 1) (-1) (nI 0) 0 0 (fun _ => 0) (fun _ => 0) (fun _ => 0) (fun _ => 0) (fun _ => 0) ++ [(qy, .inr (3, [.int 0, .null, .int 0, .int 0, .int 0, .null, .null, .int 0, .int 0, .int 0, .null, .long 0, .long 0]))]) := hD
  have hPc := hP.sub (ws' := [(qy, .inr (3, [.int 0, .null, .int 0, .int 0, .int 0, .null, .null, .int 0, .int 0, .int 0, .null, .long 0, .long 0]))]) [8] rfl
  have hDc := hD.sub (ws' := [(qy, .inr (3, [.int 0, .null, .int 0, .int 0, .int 0, .null, .null, .int 0, .int 0, .int 0, .null, .long 0, .long 0]))]) [8] (by decide) rfl
  have hFc := va_free (wc := [(qy, .inr (3, [.int 0, .null, .int 0, .int 0, .int 0, .null, .null, .int 0, .int 0, .int 0, .null, .long 0, .long 0]))]) hD hS hA [8] rfl
  refine va_callv (va_runI (As := []) (rest := [.ref qy]) ⟨hx, hb, hml, hown, hts⟩ (c_X3_init l (sz := H.size)) (cwI 0 hts gL_law_X3_init rfl rfl rfl (hts (.initialized RX3) (by decide +kernel)) (hts (.methodLink RL 12 yX3_init) (by decide +kernel)) (hts (.instanceMethod yX3_init) (by decide +kernel)) rfl kd_X3_init ⟨Nat.le_of_ble_eq_true rfl, Nat.le_of_ble_eq_true rfl⟩) ⟨gW_blind, fun U hU hW => ⟨rfl, by rw [hU], ⟨nw.warm hW hnw, va_K.moved hW.alike hK, by rw [hU]; exact hPc⟩, hDc.weaken (fun _ _ _ _ => trivial)⟩⟩ rfl rfl hl.1 rfl (lv_room (Nat.le_of_ble_eq_true rfl)) dL_law_12 ⟨Nat.le_of_ble_eq_true rfl, Nat.le_of_ble_eq_true rfl⟩) hS (fun q _ h => hFc q h) hFc (fun u t H1 locs ht hvm hw hB hz1 hk1 hS => ?_)
  obtain ⟨ay, cK, cL, eay, hP1, hKy, hD1⟩ := hB
  rw [ht] at hP1
  have hKy := va_K.moved hvm.symm hKy
  obtain ⟨hP, hD⟩ := va_join (wr := xw ax cI cJ (nI (2 ^ 3)) (nI 3) (nI 0) (nI 1) (-1) (nI 0) 0 0 (fun _ => 0) (fun _ => 0) (fun _ => 0) (fun _ => 0) (fun _ => 0)) (w1 := yw ay cK cL (nI (2 ^ 3)) (nI 0) (nI 1) (-1) (nI 0) 0 0 0 0 (fun _ => 0) (fun _ => 0) (fun _ => 0) (fun _ => 0)) hP hD [8] [0, 1, 2, 3, 4, 5, 6, 7] rfl rfl (by decide) (by decide) hk1 hFc hP1 hD1
  generalize H1 = H at hP hS ⊢
  refine lv_astore_n (lv' := [(2, .ref qy), (1, .ref qx), (0, .ref b)]) hx hb dL_law_15 rfl hl (by decide) rfl (fun ls hl => ?_)
  refine lv_iconst (v := 0) hx hb dL_law_16 (by decide) ?_
  refine lv_istore_n (lv' := [(3, .int 0), (2, .ref qy), (1, .ref qx), (0, .ref b)]) hx hb dL_law_17 rfl hl (by decide) rfl (fun ls hl => ?_)
  refine W.widen (k := 13) (n := 333) (Nat.le_of_ble_eq_true rfl) (Nat.le_of_ble_eq_true rfl) ?_
  exact law_loop C0 hL hnw hKx hKy (va_D_addr hD rfl) (L + 1) 0 (Nat.zero_le L) (by omega) 3 0 1 0 (-1) 0 0 _ _ _ _ _ _ _ _ _ IV0 _ _ hP hS ls (by rw [eax, eay]; exact lv_sub hl [3, 2, 1, 0] rfl)
