set_option maxHeartbeats 4000000 in
set_option maxRecDepth 100000 in
theorem lk_where {p : Program} {l : Launch} {e : Env} {s : State} {m : MethodId} {below : List Frame} {meth : Method} {c : Code} {dC : Nat → ClassId} {dI : Nat → Nat → Nat} {b L : Nat} {xs : Nat → Int32} {ax ay : Nat → Nat} {cI cJ cK cL : ClassId} {iq : Nat} (C0 : lw_At p s m meth c b L xs) (hL : L ≤ 3072) (hi : iq + 6 ≤ L) (hnw : nw s) (hKx : va_K (dC, dI) vwCl (tyw cI cJ) s) (hKy : va_K (dC, dI) vwCl (tyw cK cL) s) (hD0 : va_D (fun q : Nat => s.heap.size ≤ q) (zw ax ay cI cJ cK cL 0 0 0 0 0 0 0 (fun _ => 0) (fun _ => 0) (fun _ => 0) (fun _ => 0) (fun _ => 0) 0 0 (fun _ => 0) (fun _ => 0))) (kk : LK p l e s m below meth c (dC, dI) b ax ay cI cJ cK cL iq 1025) : LK p l e s m below meth c (dC, dI) b ax ay cI cJ cK cL iq 666 := by
  obtain ⟨hx, hb, hr, hml, hown, hts0, hX, hbl, hlocks, hgv⟩ := C0
  have hown : s.vm.findClass RL = some m.cls := hown
  have hts : ∀ w ∈ wsL_law, w.before #[Value.ref b] s = true := fun w h => hts0 w (wsL_in w h)
  have hA : ∀ q : Nat, s.heap.size ≤ q → (fun q : Nat => s.heap.size ≤ q) q := fun _ h => h
  have hbA : ¬ (fun q : Nat => s.heap.size ≤ q) b := Nat.not_le.mpr hbl
  intro q d sN cN ms mv mw st fr sr pa nu pu pl fi ot I H locs hP hS ls hl
  obtain ⟨h3, h6, hd, hs1, hs2, hc, hst, hnu⟩ := I
  refine lv_aload_n hx hb dL_law_666 rfl (lv_at hl 1 rfl) ?_
  refine lv_aload_n hx hb dL_law_667 rfl (lv_at hl 0 rfl) ?_
  refine lv_iload_n hx hb dL_law_668 rfl (lv_at hl 3 rfl) ?_
  refine lv_iconst (v := 1) hx hb dL_law_669 (by decide) ?_
  refine lv_iadd hx hb dL_law_670 ?_
  refine va_sld hx hb hX hbl hbA hS (scr_in (k := 1) hi (by omega) hL) dL_law_671 ?_
  refine st_i (v := xs (iq + 1)) (scr_at (k := 1) hi (by omega) hL xs) ?_
  have hP : va_P (dC, dI) vwCl (xw ax cI cJ (nI (2 ^ q)) (nI q) (nI d) (nI sN) ms (nI cN) mv mw st fr sr pa nu ++ yw ay cK cL (nI (2 ^ q)) (nI d) (nI sN) ms (nI cN) mv mw pu pl st fi ot nu) H := hP
  have hD : va_D (fun q : Nat => s.heap.size ≤ q) (xw ax cI cJ (nI (2 ^ q)) (nI q) (nI d) (nI sN) ms (nI cN) mv mw st fr sr pa nu ++ yw ay cK cL (nI (2 ^ q)) (nI d) (nI sN) ms (nI cN) mv mw pu pl st fi ot nu) := va_D_addr hD0 rfl
  refine ro_i (va_runV ⟨hx, hb, hml, hown, hts⟩ (c_X2_where l ) (cwV 1 hts gL_law_X2_where rfl rfl rfl ⟨rfl, kd_X2_where⟩ ⟨Nat.le_of_ble_eq_true rfl, Nat.le_of_ble_eq_true rfl⟩) (preV1 hnw hKx (va_P_l hP) 0 2 rfl rfl) rfl rfl hl.1 rfl (lv_room (Nat.le_of_ble_eq_true rfl)) dL_law_672 ⟨Nat.le_of_ble_eq_true rfl, Nat.le_of_ble_eq_true rfl⟩) ?_
  refine lv_aload_n hx hb dL_law_675 rfl (lv_at hl 2 rfl) ?_
  refine lv_aload_n hx hb dL_law_676 rfl (lv_at hl 0 rfl) ?_
  refine lv_iload_n hx hb dL_law_677 rfl (lv_at hl 3 rfl) ?_
  refine lv_iconst (v := 1) hx hb dL_law_678 (by decide) ?_
  refine lv_iadd hx hb dL_law_679 ?_
  refine va_sld hx hb hX hbl hbA hS (scr_in (k := 1) hi (by omega) hL) dL_law_680 ?_
  refine st_i (v := xs (iq + 1)) (scr_at (k := 1) hi (by omega) hL xs) ?_
  refine ro_i (va_runV ⟨hx, hb, hml, hown, hts⟩ (c_X3_where l ) (cwV 1 hts gL_law_X3_where rfl rfl rfl ⟨rfl, kd_X3_where⟩ ⟨Nat.le_of_ble_eq_true rfl, Nat.le_of_ble_eq_true rfl⟩) (preV1 hnw hKy (va_P_r hP) 0 3 rfl rfl) rfl rfl hl.1 rfl (lv_room (Nat.le_of_ble_eq_true rfl)) dL_law_681 ⟨Nat.le_of_ble_eq_true rfl, Nat.le_of_ble_eq_true rfl⟩) ?_
  exact lv_icmp_eq (tgt := 1025) hx hb dL_law_684 (by decide) (fun _ => kk q d sN cN ms mv mw _ _ _ _ _ _ _ _ _ ⟨h3, h6, hd, hs1, hs2, hc, hst, hnu⟩ H locs hP hS ls hl) (fun cz => absurd (where_fg _ _ _ _) cz)
set_option maxHeartbeats 4000000 in
set_option maxRecDepth 100000 in
theorem lk_machine {p : Program} {l : Launch} {e : Env} {s : State} {m : MethodId} {below : List Frame} {meth : Method} {c : Code} {dC : Nat → ClassId} {dI : Nat → Nat → Nat} {b L : Nat} {xs : Nat → Int32} {ax ay : Nat → Nat} {cI cJ cK cL : ClassId} {iq : Nat} (C0 : lw_At p s m meth c b L xs) (hL : L ≤ 3072) (hi : iq + 6 ≤ L) (hnw : nw s) (hKx : va_K (dC, dI) vwCl (tyw cI cJ) s) (hKy : va_K (dC, dI) vwCl (tyw cK cL) s) (hD0 : va_D (fun q : Nat => s.heap.size ≤ q) (zw ax ay cI cJ cK cL 0 0 0 0 0 0 0 (fun _ => 0) (fun _ => 0) (fun _ => 0) (fun _ => 0) (fun _ => 0) 0 0 (fun _ => 0) (fun _ => 0))) (kk : LK p l e s m below meth c (dC, dI) b ax ay cI cJ cK cL iq 1025) : LK p l e s m below meth c (dC, dI) b ax ay cI cJ cK cL iq 689 := by
  obtain ⟨hx, hb, hr, hml, hown, hts0, hX, hbl, hlocks, hgv⟩ := C0
  have hown : s.vm.findClass RL = some m.cls := hown
  have hts : ∀ w ∈ wsL_law, w.before #[Value.ref b] s = true := fun w h => hts0 w (wsL_in w h)
  have hA : ∀ q : Nat, s.heap.size ≤ q → (fun q : Nat => s.heap.size ≤ q) q := fun _ h => h
  have hbA : ¬ (fun q : Nat => s.heap.size ≤ q) b := Nat.not_le.mpr hbl
  intro q d sN cN ms mv mw st fr sr pa nu pu pl fi ot I H locs hP hS ls hl
  obtain ⟨h3, h6, hd, hs1, hs2, hc, hst, hnu⟩ := I
  refine lv_aload_n hx hb dL_law_689 rfl (lv_at hl 1 rfl) ?_
  refine lv_aload_n hx hb dL_law_690 rfl (lv_at hl 0 rfl) ?_
  refine lv_iload_n hx hb dL_law_691 rfl (lv_at hl 3 rfl) ?_
  refine lv_iconst (v := 1) hx hb dL_law_692 (by decide) ?_
  refine lv_iadd hx hb dL_law_693 ?_
  refine va_sld hx hb hX hbl hbA hS (scr_in (k := 1) hi (by omega) hL) dL_law_694 ?_
  refine st_i (v := xs (iq + 1)) (scr_at (k := 1) hi (by omega) hL xs) ?_
  refine lv_aload_n hx hb dL_law_695 rfl (lv_at hl 0 rfl) ?_
  refine lv_iload_n hx hb dL_law_696 rfl (lv_at hl 3 rfl) ?_
  refine lv_iconst (v := 2) hx hb dL_law_697 (by decide) ?_
  refine lv_iadd hx hb dL_law_698 ?_
  refine va_sld hx hb hX hbl hbA hS (scr_in (k := 2) hi (by omega) hL) dL_law_699 ?_
  refine st_i (v := xs (iq + 2)) (scr_at (k := 2) hi (by omega) hL xs) ?_
  refine lv_aload_n hx hb dL_law_700 rfl (lv_at hl 0 rfl) ?_
  refine lv_iload_n hx hb dL_law_701 rfl (lv_at hl 3 rfl) ?_
  refine lv_iconst (v := 3) hx hb dL_law_702 (by decide) ?_
  refine lv_iadd hx hb dL_law_703 ?_
  refine va_sld hx hb hX hbl hbA hS (scr_in (k := 3) hi (by omega) hL) dL_law_704 ?_
  refine st_i (v := xs (iq + 3)) (scr_at (k := 3) hi (by omega) hL xs) ?_
  have hP : va_P (dC, dI) vwCl (xw ax cI cJ (nI (2 ^ q)) (nI q) (nI d) (nI sN) ms (nI cN) mv mw st fr sr pa nu ++ yw ay cK cL (nI (2 ^ q)) (nI d) (nI sN) ms (nI cN) mv mw pu pl st fi ot nu) H := hP
  have hD : va_D (fun q : Nat => s.heap.size ≤ q) (xw ax cI cJ (nI (2 ^ q)) (nI q) (nI d) (nI sN) ms (nI cN) mv mw st fr sr pa nu ++ yw ay cK cL (nI (2 ^ q)) (nI d) (nI sN) ms (nI cN) mv mw pu pl st fi ot nu) := va_D_addr hD0 rfl
  refine wx_i (va_runV ⟨hx, hb, hml, hown, hts⟩ (c_X2_machine l ) (cwV 3 hts gL_law_X2_machine rfl rfl rfl ⟨rfl, kd_X2_machine⟩ ⟨Nat.le_of_ble_eq_true rfl, Nat.le_of_ble_eq_true rfl⟩) (preV2 hnw hKx (va_P_l hP) (va_D_l hD) 0 2 rfl rfl) rfl rfl hl.1 rfl (lv_room (Nat.le_of_ble_eq_true rfl)) dL_law_705 ⟨Nat.le_of_ble_eq_true rfl, Nat.le_of_ble_eq_true rfl⟩) hP hD hS hA (fun r1 u1 H locs e1 hP hS => ?_)
  have hP : va_P (dC, dI) vwCl (xw ax cI cJ (nI (2 ^ q)) (nI q) (nI d) (nI sN) (o_machine (nI (2 ^ q)) ms st (xs (iq + 1)) (xs (iq + 2)) (xs (iq + 3))).2.2 (nI cN) mv mw (o_machine (nI (2 ^ q)) ms st (xs (iq + 1)) (xs (iq + 2)) (xs (iq + 3))).2.1 fr sr pa nu ++ yw ay cK cL (nI (2 ^ q)) (nI d) (nI sN) ms (nI cN) mv mw pu pl st fi ot nu) H := hP
  have hD : va_D (fun q : Nat => s.heap.size ≤ q) (xw ax cI cJ (nI (2 ^ q)) (nI q) (nI d) (nI sN) (o_machine (nI (2 ^ q)) ms st (xs (iq + 1)) (xs (iq + 2)) (xs (iq + 3))).2.2 (nI cN) mv mw (o_machine (nI (2 ^ q)) ms st (xs (iq + 1)) (xs (iq + 2)) (xs (iq + 3))).2.1 fr sr pa nu ++ yw ay cK cL (nI (2 ^ q)) (nI d) (nI sN) ms (nI cN) mv mw pu pl st fi ot nu) := va_D_addr hD0 rfl
  refine lv_aload_n hx hb dL_law_708 rfl (lv_at hl 2 rfl) ?_
  refine lv_aload_n hx hb dL_law_709 rfl (lv_at hl 0 rfl) ?_
  refine lv_iload_n hx hb dL_law_710 rfl (lv_at hl 3 rfl) ?_
  refine lv_iconst (v := 1) hx hb dL_law_711 (by decide) ?_
  refine lv_iadd hx hb dL_law_712 ?_
  refine va_sld hx hb hX hbl hbA hS (scr_in (k := 1) hi (by omega) hL) dL_law_713 ?_
  refine st_i (v := xs (iq + 1)) (scr_at (k := 1) hi (by omega) hL xs) ?_
  refine lv_aload_n hx hb dL_law_714 rfl (lv_at hl 0 rfl) ?_
  refine lv_iload_n hx hb dL_law_715 rfl (lv_at hl 3 rfl) ?_
  refine lv_iconst (v := 2) hx hb dL_law_716 (by decide) ?_
  refine lv_iadd hx hb dL_law_717 ?_
  refine va_sld hx hb hX hbl hbA hS (scr_in (k := 2) hi (by omega) hL) dL_law_718 ?_
  refine st_i (v := xs (iq + 2)) (scr_at (k := 2) hi (by omega) hL xs) ?_
  refine lv_aload_n hx hb dL_law_719 rfl (lv_at hl 0 rfl) ?_
  refine lv_iload_n hx hb dL_law_720 rfl (lv_at hl 3 rfl) ?_
  refine lv_iconst (v := 3) hx hb dL_law_721 (by decide) ?_
  refine lv_iadd hx hb dL_law_722 ?_
  refine va_sld hx hb hX hbl hbA hS (scr_in (k := 3) hi (by omega) hL) dL_law_723 ?_
  refine st_i (v := xs (iq + 3)) (scr_at (k := 3) hi (by omega) hL xs) ?_
  refine wy_i (va_runV ⟨hx, hb, hml, hown, hts⟩ (c_X3_machine l ) (cwV 3 hts gL_law_X3_machine rfl rfl rfl ⟨rfl, kd_X3_machine⟩ ⟨Nat.le_of_ble_eq_true rfl, Nat.le_of_ble_eq_true rfl⟩) (preV2 hnw hKy (va_P_r hP) (va_D_r hD) 0 3 rfl rfl) rfl rfl hl.1 rfl (lv_room (Nat.le_of_ble_eq_true rfl)) dL_law_724 ⟨Nat.le_of_ble_eq_true rfl, Nat.le_of_ble_eq_true rfl⟩) hP hD hS hA (fun r2 u2 H locs e2 hP hS => ?_)
  have hP : va_P (dC, dI) vwCl (xw ax cI cJ (nI (2 ^ q)) (nI q) (nI d) (nI sN) (o_machine (nI (2 ^ q)) ms st (xs (iq + 1)) (xs (iq + 2)) (xs (iq + 3))).2.2 (nI cN) mv mw (o_machine (nI (2 ^ q)) ms st (xs (iq + 1)) (xs (iq + 2)) (xs (iq + 3))).2.1 fr sr pa nu ++ yw ay cK cL (nI (2 ^ q)) (nI d) (nI sN) (p_machine (nI (2 ^ q)).toNatClampNeg ms st (xs (iq + 1)) (xs (iq + 2)) (xs (iq + 3))).2.2 (nI cN) mv mw pu pl (p_machine (nI (2 ^ q)).toNatClampNeg ms st (xs (iq + 1)) (xs (iq + 2)) (xs (iq + 3))).2.1 fi ot nu) H := hP
  have hD : va_D (fun q : Nat => s.heap.size ≤ q) (xw ax cI cJ (nI (2 ^ q)) (nI q) (nI d) (nI sN) (o_machine (nI (2 ^ q)) ms st (xs (iq + 1)) (xs (iq + 2)) (xs (iq + 3))).2.2 (nI cN) mv mw (o_machine (nI (2 ^ q)) ms st (xs (iq + 1)) (xs (iq + 2)) (xs (iq + 3))).2.1 fr sr pa nu ++ yw ay cK cL (nI (2 ^ q)) (nI d) (nI sN) (p_machine (nI (2 ^ q)).toNatClampNeg ms st (xs (iq + 1)) (xs (iq + 2)) (xs (iq + 3))).2.2 (nI cN) mv mw pu pl (p_machine (nI (2 ^ q)).toNatClampNeg ms st (xs (iq + 1)) (xs (iq + 2)) (xs (iq + 3))).2.1 fi ot nu) := va_D_addr hD0 rfl
  rw [pw_cl h6, ← machine_fg h6] at hP e2
  exact lv_icmp_eq (tgt := 1025) hx hb dL_law_727 (by decide) (fun _ => kk q d sN cN _ mv mw _ _ _ _ _ _ _ _ _ ⟨h3, h6, hd, hs1, hs2, hc, machine_ok h6 hst _ _ _ _, hnu⟩ H locs hP hS ls hl) (fun cz => absurd (e1.trans e2.symm) cz)
set_option maxHeartbeats 4000000 in
set_option maxRecDepth 100000 in
theorem lk_state {p : Program} {l : Launch} {e : Env} {s : State} {m : MethodId} {below : List Frame} {meth : Method} {c : Code} {dC : Nat → ClassId} {dI : Nat → Nat → Nat} {b L : Nat} {xs : Nat → Int32} {ax ay : Nat → Nat} {cI cJ cK cL : ClassId} {iq : Nat} (C0 : lw_At p s m meth c b L xs) (hL : L ≤ 3072) (hi : iq + 6 ≤ L) (hnw : nw s) (hKx : va_K (dC, dI) vwCl (tyw cI cJ) s) (hKy : va_K (dC, dI) vwCl (tyw cK cL) s) (hD0 : va_D (fun q : Nat => s.heap.size ≤ q) (zw ax ay cI cJ cK cL 0 0 0 0 0 0 0 (fun _ => 0) (fun _ => 0) (fun _ => 0) (fun _ => 0) (fun _ => 0) 0 0 (fun _ => 0) (fun _ => 0))) (kk : LK p l e s m below meth c (dC, dI) b ax ay cI cJ cK cL iq 1025) : LK p l e s m below meth c (dC, dI) b ax ay cI cJ cK cL iq 732 := by
  obtain ⟨hx, hb, hr, hml, hown, hts0, hX, hbl, hlocks, hgv⟩ := C0
  have hown : s.vm.findClass RL = some m.cls := hown
  have hts : ∀ w ∈ wsL_law, w.before #[Value.ref b] s = true := fun w h => hts0 w (wsL_in w h)
  have hA : ∀ q : Nat, s.heap.size ≤ q → (fun q : Nat => s.heap.size ≤ q) q := fun _ h => h
  have hbA : ¬ (fun q : Nat => s.heap.size ≤ q) b := Nat.not_le.mpr hbl
  intro q d sN cN ms mv mw st fr sr pa nu pu pl fi ot I H locs hP hS ls hl
  obtain ⟨h3, h6, hd, hs1, hs2, hc, hst, hnu⟩ := I
  refine lv_aload_n hx hb dL_law_732 rfl (lv_at hl 1 rfl) ?_
  have hP : va_P (dC, dI) vwCl (xw ax cI cJ (nI (2 ^ q)) (nI q) (nI d) (nI sN) ms (nI cN) mv mw st fr sr pa nu ++ yw ay cK cL (nI (2 ^ q)) (nI d) (nI sN) ms (nI cN) mv mw pu pl st fi ot nu) H := hP
  have hD : va_D (fun q : Nat => s.heap.size ≤ q) (xw ax cI cJ (nI (2 ^ q)) (nI q) (nI d) (nI sN) ms (nI cN) mv mw st fr sr pa nu ++ yw ay cK cL (nI (2 ^ q)) (nI d) (nI sN) ms (nI cN) mv mw pu pl st fi ot nu) := va_D_addr hD0 rfl
  refine ro_i (va_runV ⟨hx, hb, hml, hown, hts⟩ (c_X2_state l ) (cwV 0 hts gL_law_X2_state rfl rfl rfl ⟨rfl, kd_X2_state⟩ ⟨Nat.le_of_ble_eq_true rfl, Nat.le_of_ble_eq_true rfl⟩) (preV1 hnw hKx (va_P_l hP) 0 2 rfl rfl) rfl rfl hl.1 rfl (lv_room (Nat.le_of_ble_eq_true rfl)) dL_law_733 ⟨Nat.le_of_ble_eq_true rfl, Nat.le_of_ble_eq_true rfl⟩) ?_
  refine lv_aload_n hx hb dL_law_736 rfl (lv_at hl 2 rfl) ?_
  refine ro_i (va_runV ⟨hx, hb, hml, hown, hts⟩ (c_X3_state l ) (cwV 0 hts gL_law_X3_state rfl rfl rfl ⟨rfl, kd_X3_state⟩ ⟨Nat.le_of_ble_eq_true rfl, Nat.le_of_ble_eq_true rfl⟩) (preV1 hnw hKy (va_P_r hP) 0 3 rfl rfl) rfl rfl hl.1 rfl (lv_room (Nat.le_of_ble_eq_true rfl)) dL_law_737 ⟨Nat.le_of_ble_eq_true rfl, Nat.le_of_ble_eq_true rfl⟩) ?_
  exact lv_icmp_eq (tgt := 1025) hx hb dL_law_740 (by decide) (fun _ => kk q d sN cN ms mv mw _ _ _ _ _ _ _ _ _ ⟨h3, h6, hd, hs1, hs2, hc, hst, hnu⟩ H locs hP hS ls hl) (fun cz => absurd (rfl) cz)
set_option maxHeartbeats 4000000 in
set_option maxRecDepth 100000 in
theorem lk_ever {p : Program} {l : Launch} {e : Env} {s : State} {m : MethodId} {below : List Frame} {meth : Method} {c : Code} {dC : Nat → ClassId} {dI : Nat → Nat → Nat} {b L : Nat} {xs : Nat → Int32} {ax ay : Nat → Nat} {cI cJ cK cL : ClassId} {iq : Nat} (C0 : lw_At p s m meth c b L xs) (hL : L ≤ 3072) (hi : iq + 6 ≤ L) (hnw : nw s) (hKx : va_K (dC, dI) vwCl (tyw cI cJ) s) (hKy : va_K (dC, dI) vwCl (tyw cK cL) s) (hD0 : va_D (fun q : Nat => s.heap.size ≤ q) (zw ax ay cI cJ cK cL 0 0 0 0 0 0 0 (fun _ => 0) (fun _ => 0) (fun _ => 0) (fun _ => 0) (fun _ => 0) 0 0 (fun _ => 0) (fun _ => 0))) (kk : LK p l e s m below meth c (dC, dI) b ax ay cI cJ cK cL iq 1025) : LK p l e s m below meth c (dC, dI) b ax ay cI cJ cK cL iq 745 := by
  obtain ⟨hx, hb, hr, hml, hown, hts0, hX, hbl, hlocks, hgv⟩ := C0
  have hown : s.vm.findClass RL = some m.cls := hown
  have hts : ∀ w ∈ wsL_law, w.before #[Value.ref b] s = true := fun w h => hts0 w (wsL_in w h)
  have hA : ∀ q : Nat, s.heap.size ≤ q → (fun q : Nat => s.heap.size ≤ q) q := fun _ h => h
  have hbA : ¬ (fun q : Nat => s.heap.size ≤ q) b := Nat.not_le.mpr hbl
  intro q d sN cN ms mv mw st fr sr pa nu pu pl fi ot I H locs hP hS ls hl
  obtain ⟨h3, h6, hd, hs1, hs2, hc, hst, hnu⟩ := I
  refine lv_aload_n hx hb dL_law_745 rfl (lv_at hl 1 rfl) ?_
  refine lv_aload_n hx hb dL_law_746 rfl (lv_at hl 0 rfl) ?_
  refine lv_iload_n hx hb dL_law_747 rfl (lv_at hl 3 rfl) ?_
  refine lv_iconst (v := 1) hx hb dL_law_748 (by decide) ?_
  refine lv_iadd hx hb dL_law_749 ?_
  refine va_sld hx hb hX hbl hbA hS (scr_in (k := 1) hi (by omega) hL) dL_law_750 ?_
  refine st_i (v := xs (iq + 1)) (scr_at (k := 1) hi (by omega) hL xs) ?_
  refine lv_aload_n hx hb dL_law_751 rfl (lv_at hl 0 rfl) ?_
  refine lv_iload_n hx hb dL_law_752 rfl (lv_at hl 3 rfl) ?_
  refine lv_iconst (v := 2) hx hb dL_law_753 (by decide) ?_
  refine lv_iadd hx hb dL_law_754 ?_
  refine va_sld hx hb hX hbl hbA hS (scr_in (k := 2) hi (by omega) hL) dL_law_755 ?_
  refine st_i (v := xs (iq + 2)) (scr_at (k := 2) hi (by omega) hL xs) ?_
  refine lv_aload_n hx hb dL_law_756 rfl (lv_at hl 0 rfl) ?_
  refine lv_iload_n hx hb dL_law_757 rfl (lv_at hl 3 rfl) ?_
  refine lv_iconst (v := 3) hx hb dL_law_758 (by decide) ?_
  refine lv_iadd hx hb dL_law_759 ?_
  refine va_sld hx hb hX hbl hbA hS (scr_in (k := 3) hi (by omega) hL) dL_law_760 ?_
  refine st_i (v := xs (iq + 3)) (scr_at (k := 3) hi (by omega) hL xs) ?_
  have hP : va_P (dC, dI) vwCl (xw ax cI cJ (nI (2 ^ q)) (nI q) (nI d) (nI sN) ms (nI cN) mv mw st fr sr pa nu ++ yw ay cK cL (nI (2 ^ q)) (nI d) (nI sN) ms (nI cN) mv mw pu pl st fi ot nu) H := hP
  have hD : va_D (fun q : Nat => s.heap.size ≤ q) (xw ax cI cJ (nI (2 ^ q)) (nI q) (nI d) (nI sN) ms (nI cN) mv mw st fr sr pa nu ++ yw ay cK cL (nI (2 ^ q)) (nI d) (nI sN) ms (nI cN) mv mw pu pl st fi ot nu) := va_D_addr hD0 rfl
  refine ro_l (va_runV ⟨hx, hb, hml, hown, hts⟩ (c_X2_ever l ) (cwV 3 hts gL_law_X2_ever rfl rfl rfl ⟨rfl, kd_X2_ever⟩ ⟨Nat.le_of_ble_eq_true rfl, Nat.le_of_ble_eq_true rfl⟩) (preV1 hnw hKx (va_P_l hP) 0 2 rfl rfl) rfl rfl hl.1 rfl (lv_room (Nat.le_of_ble_eq_true rfl)) dL_law_761 ⟨Nat.le_of_ble_eq_true rfl, Nat.le_of_ble_eq_true rfl⟩) ?_
  refine lv_aload_n hx hb dL_law_764 rfl (lv_at hl 2 rfl) ?_
  refine lv_aload_n hx hb dL_law_765 rfl (lv_at hl 0 rfl) ?_
  refine lv_iload_n hx hb dL_law_766 rfl (lv_at hl 3 rfl) ?_
  refine lv_iconst (v := 1) hx hb dL_law_767 (by decide) ?_
  refine lv_iadd hx hb dL_law_768 ?_
  refine va_sld hx hb hX hbl hbA hS (scr_in (k := 1) hi (by omega) hL) dL_law_769 ?_
  refine st_i (v := xs (iq + 1)) (scr_at (k := 1) hi (by omega) hL xs) ?_
  refine lv_aload_n hx hb dL_law_770 rfl (lv_at hl 0 rfl) ?_
  refine lv_iload_n hx hb dL_law_771 rfl (lv_at hl 3 rfl) ?_
  refine lv_iconst (v := 2) hx hb dL_law_772 (by decide) ?_
  refine lv_iadd hx hb dL_law_773 ?_
  refine va_sld hx hb hX hbl hbA hS (scr_in (k := 2) hi (by omega) hL) dL_law_774 ?_
  refine st_i (v := xs (iq + 2)) (scr_at (k := 2) hi (by omega) hL xs) ?_
  refine lv_aload_n hx hb dL_law_775 rfl (lv_at hl 0 rfl) ?_
  refine lv_iload_n hx hb dL_law_776 rfl (lv_at hl 3 rfl) ?_
  refine lv_iconst (v := 3) hx hb dL_law_777 (by decide) ?_
  refine lv_iadd hx hb dL_law_778 ?_
  refine va_sld hx hb hX hbl hbA hS (scr_in (k := 3) hi (by omega) hL) dL_law_779 ?_
  refine st_i (v := xs (iq + 3)) (scr_at (k := 3) hi (by omega) hL xs) ?_
  refine ro_l (va_runV ⟨hx, hb, hml, hown, hts⟩ (c_X3_ever l (fun hC => ev_cm h3 h6 hC)) (cwV 3 hts gL_law_X3_ever rfl rfl rfl ⟨rfl, kd_X3_ever⟩ ⟨Nat.le_of_ble_eq_true rfl, Nat.le_of_ble_eq_true rfl⟩) (preV1 hnw hKy (va_P_r hP) 0 3 rfl rfl) rfl rfl hl.1 rfl (lv_room (Nat.le_of_ble_eq_true rfl)) dL_law_780 ⟨Nat.le_of_ble_eq_true rfl, Nat.le_of_ble_eq_true rfl⟩) ?_
  refine W.lcmp hx hb dL_law_783 ?_
  exact lv_if_eq (tgt := 1025) hx hb dL_law_784 (by decide) (fun _ => kk q d sN cN ms mv mw _ _ _ _ _ _ _ _ _ ⟨h3, h6, hd, hs1, hs2, hc, hst, hnu⟩ H locs hP hS ls hl) (fun cz => absurd ((lg_cmp_eq _ _).mpr (ever_eq h3 h6 _ _ _)) cz)
set_option maxHeartbeats 4000000 in
set_option maxRecDepth 100000 in
theorem lk_degree {p : Program} {l : Launch} {e : Env} {s : State} {m : MethodId} {below : List Frame} {meth : Method} {c : Code} {dC : Nat → ClassId} {dI : Nat → Nat → Nat} {b L : Nat} {xs : Nat → Int32} {ax ay : Nat → Nat} {cI cJ cK cL : ClassId} {iq : Nat} (C0 : lw_At p s m meth c b L xs) (hL : L ≤ 3072) (hi : iq + 6 ≤ L) (hnw : nw s) (hKx : va_K (dC, dI) vwCl (tyw cI cJ) s) (hKy : va_K (dC, dI) vwCl (tyw cK cL) s) (hD0 : va_D (fun q : Nat => s.heap.size ≤ q) (zw ax ay cI cJ cK cL 0 0 0 0 0 0 0 (fun _ => 0) (fun _ => 0) (fun _ => 0) (fun _ => 0) (fun _ => 0) 0 0 (fun _ => 0) (fun _ => 0))) (kk : LK p l e s m below meth c (dC, dI) b ax ay cI cJ cK cL iq 1025) : LK p l e s m below meth c (dC, dI) b ax ay cI cJ cK cL iq 789 := by
  obtain ⟨hx, hb, hr, hml, hown, hts0, hX, hbl, hlocks, hgv⟩ := C0
  have hown : s.vm.findClass RL = some m.cls := hown
  have hts : ∀ w ∈ wsL_law, w.before #[Value.ref b] s = true := fun w h => hts0 w (wsL_in w h)
  have hA : ∀ q : Nat, s.heap.size ≤ q → (fun q : Nat => s.heap.size ≤ q) q := fun _ h => h
  have hbA : ¬ (fun q : Nat => s.heap.size ≤ q) b := Nat.not_le.mpr hbl
  intro q d sN cN ms mv mw st fr sr pa nu pu pl fi ot I H locs hP hS ls hl
  obtain ⟨h3, h6, hd, hs1, hs2, hc, hst, hnu⟩ := I
  refine lv_aload_n hx hb dL_law_789 rfl (lv_at hl 1 rfl) ?_
  refine lv_aload_n hx hb dL_law_790 rfl (lv_at hl 0 rfl) ?_
  refine lv_iload_n hx hb dL_law_791 rfl (lv_at hl 3 rfl) ?_
  refine lv_iconst (v := 1) hx hb dL_law_792 (by decide) ?_
  refine lv_iadd hx hb dL_law_793 ?_
  refine va_sld hx hb hX hbl hbA hS (scr_in (k := 1) hi (by omega) hL) dL_law_794 ?_
  refine st_i (v := xs (iq + 1)) (scr_at (k := 1) hi (by omega) hL xs) ?_
  refine lv_aload_n hx hb dL_law_795 rfl (lv_at hl 0 rfl) ?_
  refine lv_iload_n hx hb dL_law_796 rfl (lv_at hl 3 rfl) ?_
  refine lv_iconst (v := 2) hx hb dL_law_797 (by decide) ?_
  refine lv_iadd hx hb dL_law_798 ?_
  refine va_sld hx hb hX hbl hbA hS (scr_in (k := 2) hi (by omega) hL) dL_law_799 ?_
  refine st_i (v := xs (iq + 2)) (scr_at (k := 2) hi (by omega) hL xs) ?_
  have hP : va_P (dC, dI) vwCl (xw ax cI cJ (nI (2 ^ q)) (nI q) (nI d) (nI sN) ms (nI cN) mv mw st fr sr pa nu ++ yw ay cK cL (nI (2 ^ q)) (nI d) (nI sN) ms (nI cN) mv mw pu pl st fi ot nu) H := hP
  have hD : va_D (fun q : Nat => s.heap.size ≤ q) (xw ax cI cJ (nI (2 ^ q)) (nI q) (nI d) (nI sN) ms (nI cN) mv mw st fr sr pa nu ++ yw ay cK cL (nI (2 ^ q)) (nI d) (nI sN) ms (nI cN) mv mw pu pl st fi ot nu) := va_D_addr hD0 rfl
  refine wx_i (va_runV ⟨hx, hb, hml, hown, hts⟩ (c_X2_degree l ) (cwV 2 hts gL_law_X2_degree rfl rfl rfl ⟨rfl, kd_X2_degree⟩ ⟨Nat.le_of_ble_eq_true rfl, Nat.le_of_ble_eq_true rfl⟩) (preV2 hnw hKx (va_P_l hP) (va_D_l hD) 0 2 rfl rfl) rfl rfl hl.1 rfl (lv_room (Nat.le_of_ble_eq_true rfl)) dL_law_800 ⟨Nat.le_of_ble_eq_true rfl, Nat.le_of_ble_eq_true rfl⟩) hP hD hS hA (fun r1 u1 H locs e1 hP hS => ?_)
  have hP : va_P (dC, dI) vwCl (xw ax cI cJ (nI (2 ^ q)) (nI q) (o_degree (nI d) (nI sN) nu (xs (iq + 1)) (xs (iq + 2))).2.1 (o_degree (nI d) (nI sN) nu (xs (iq + 1)) (xs (iq + 2))).2.2.1 ms (nI cN) mv mw st fr sr pa (o_degree (nI d) (nI sN) nu (xs (iq + 1)) (xs (iq + 2))).2.2.2 ++ yw ay cK cL (nI (2 ^ q)) (nI d) (nI sN) ms (nI cN) mv mw pu pl st fi ot nu) H := hP
  have hD : va_D (fun q : Nat => s.heap.size ≤ q) (xw ax cI cJ (nI (2 ^ q)) (nI q) (o_degree (nI d) (nI sN) nu (xs (iq + 1)) (xs (iq + 2))).2.1 (o_degree (nI d) (nI sN) nu (xs (iq + 1)) (xs (iq + 2))).2.2.1 ms (nI cN) mv mw st fr sr pa (o_degree (nI d) (nI sN) nu (xs (iq + 1)) (xs (iq + 2))).2.2.2 ++ yw ay cK cL (nI (2 ^ q)) (nI d) (nI sN) ms (nI cN) mv mw pu pl st fi ot nu) := va_D_addr hD0 rfl
  refine lv_aload_n hx hb dL_law_803 rfl (lv_at hl 2 rfl) ?_
  refine lv_aload_n hx hb dL_law_804 rfl (lv_at hl 0 rfl) ?_
  refine lv_iload_n hx hb dL_law_805 rfl (lv_at hl 3 rfl) ?_
  refine lv_iconst (v := 1) hx hb dL_law_806 (by decide) ?_
  refine lv_iadd hx hb dL_law_807 ?_
  refine va_sld hx hb hX hbl hbA hS (scr_in (k := 1) hi (by omega) hL) dL_law_808 ?_
  refine st_i (v := xs (iq + 1)) (scr_at (k := 1) hi (by omega) hL xs) ?_
  refine lv_aload_n hx hb dL_law_809 rfl (lv_at hl 0 rfl) ?_
  refine lv_iload_n hx hb dL_law_810 rfl (lv_at hl 3 rfl) ?_
  refine lv_iconst (v := 2) hx hb dL_law_811 (by decide) ?_
  refine lv_iadd hx hb dL_law_812 ?_
  refine va_sld hx hb hX hbl hbA hS (scr_in (k := 2) hi (by omega) hL) dL_law_813 ?_
  refine st_i (v := xs (iq + 2)) (scr_at (k := 2) hi (by omega) hL xs) ?_
  refine wy_i (va_runV ⟨hx, hb, hml, hown, hts⟩ (c_X3_degree l ) (cwV 2 hts gL_law_X3_degree rfl rfl rfl ⟨rfl, kd_X3_degree⟩ ⟨Nat.le_of_ble_eq_true rfl, Nat.le_of_ble_eq_true rfl⟩) (preV2 hnw hKy (va_P_r hP) (va_D_r hD) 0 3 rfl rfl) rfl rfl hl.1 rfl (lv_room (Nat.le_of_ble_eq_true rfl)) dL_law_814 ⟨Nat.le_of_ble_eq_true rfl, Nat.le_of_ble_eq_true rfl⟩) hP hD hS hA (fun r2 u2 H locs e2 hP hS => ?_)
  have hP : va_P (dC, dI) vwCl (xw ax cI cJ (nI (2 ^ q)) (nI q) (o_degree (nI d) (nI sN) nu (xs (iq + 1)) (xs (iq + 2))).2.1 (o_degree (nI d) (nI sN) nu (xs (iq + 1)) (xs (iq + 2))).2.2.1 ms (nI cN) mv mw st fr sr pa (o_degree (nI d) (nI sN) nu (xs (iq + 1)) (xs (iq + 2))).2.2.2 ++ yw ay cK cL (nI (2 ^ q)) (o_degree (nI d) (nI sN) nu (xs (iq + 1)) (xs (iq + 2))).2.1 (o_degree (nI d) (nI sN) nu (xs (iq + 1)) (xs (iq + 2))).2.2.1 ms (nI cN) mv mw pu pl st fi ot (o_degree (nI d) (nI sN) nu (xs (iq + 1)) (xs (iq + 2))).2.2.2) H := hP
  have hD : va_D (fun q : Nat => s.heap.size ≤ q) (xw ax cI cJ (nI (2 ^ q)) (nI q) (o_degree (nI d) (nI sN) nu (xs (iq + 1)) (xs (iq + 2))).2.1 (o_degree (nI d) (nI sN) nu (xs (iq + 1)) (xs (iq + 2))).2.2.1 ms (nI cN) mv mw st fr sr pa (o_degree (nI d) (nI sN) nu (xs (iq + 1)) (xs (iq + 2))).2.2.2 ++ yw ay cK cL (nI (2 ^ q)) (o_degree (nI d) (nI sN) nu (xs (iq + 1)) (xs (iq + 2))).2.1 (o_degree (nI d) (nI sN) nu (xs (iq + 1)) (xs (iq + 2))).2.2.1 ms (nI cN) mv mw pu pl st fi ot (o_degree (nI d) (nI sN) nu (xs (iq + 1)) (xs (iq + 2))).2.2.2) := va_D_addr hD0 rfl
  obtain ⟨d2, s2, k1, k2, k3, k4, k5, k6⟩ := degree_ok hd hs1 hs2 hnu (xs (iq + 1)) (xs (iq + 2))
  rw [k4, k5] at hP
  exact lv_icmp_eq (tgt := 1025) hx hb dL_law_817 (by decide) (fun _ => kk q d2 s2 cN ms mv mw _ _ _ _ _ _ _ _ _ ⟨h3, h6, k1, k2, k3, hc, hst, k6⟩ H locs hP hS ls hl) (fun cz => absurd (e1.trans e2.symm) cz)
set_option maxHeartbeats 4000000 in
set_option maxRecDepth 100000 in
theorem lk_term {p : Program} {l : Launch} {e : Env} {s : State} {m : MethodId} {below : List Frame} {meth : Method} {c : Code} {dC : Nat → ClassId} {dI : Nat → Nat → Nat} {b L : Nat} {xs : Nat → Int32} {ax ay : Nat → Nat} {cI cJ cK cL : ClassId} {iq : Nat} (C0 : lw_At p s m meth c b L xs) (hL : L ≤ 3072) (hi : iq + 6 ≤ L) (hnw : nw s) (hKx : va_K (dC, dI) vwCl (tyw cI cJ) s) (hKy : va_K (dC, dI) vwCl (tyw cK cL) s) (hD0 : va_D (fun q : Nat => s.heap.size ≤ q) (zw ax ay cI cJ cK cL 0 0 0 0 0 0 0 (fun _ => 0) (fun _ => 0) (fun _ => 0) (fun _ => 0) (fun _ => 0) 0 0 (fun _ => 0) (fun _ => 0))) (kk : LK p l e s m below meth c (dC, dI) b ax ay cI cJ cK cL iq 1025) : LK p l e s m below meth c (dC, dI) b ax ay cI cJ cK cL iq 822 := by
  obtain ⟨hx, hb, hr, hml, hown, hts0, hX, hbl, hlocks, hgv⟩ := C0
  have hown : s.vm.findClass RL = some m.cls := hown
  have hts : ∀ w ∈ wsL_law, w.before #[Value.ref b] s = true := fun w h => hts0 w (wsL_in w h)
  have hA : ∀ q : Nat, s.heap.size ≤ q → (fun q : Nat => s.heap.size ≤ q) q := fun _ h => h
  have hbA : ¬ (fun q : Nat => s.heap.size ≤ q) b := Nat.not_le.mpr hbl
  intro q d sN cN ms mv mw st fr sr pa nu pu pl fi ot I H locs hP hS ls hl
  obtain ⟨h3, h6, hd, hs1, hs2, hc, hst, hnu⟩ := I
  refine lv_aload_n hx hb dL_law_822 rfl (lv_at hl 1 rfl) ?_
  refine lv_aload_n hx hb dL_law_823 rfl (lv_at hl 0 rfl) ?_
  refine lv_iload_n hx hb dL_law_824 rfl (lv_at hl 3 rfl) ?_
  refine lv_iconst (v := 1) hx hb dL_law_825 (by decide) ?_
  refine lv_iadd hx hb dL_law_826 ?_
  refine va_sld hx hb hX hbl hbA hS (scr_in (k := 1) hi (by omega) hL) dL_law_827 ?_
  refine st_i (v := xs (iq + 1)) (scr_at (k := 1) hi (by omega) hL xs) ?_
  refine lv_aload_n hx hb dL_law_828 rfl (lv_at hl 0 rfl) ?_
  refine lv_iload_n hx hb dL_law_829 rfl (lv_at hl 3 rfl) ?_
  refine lv_iconst (v := 2) hx hb dL_law_830 (by decide) ?_
  refine lv_iadd hx hb dL_law_831 ?_
  refine va_sld hx hb hX hbl hbA hS (scr_in (k := 2) hi (by omega) hL) dL_law_832 ?_
  refine st_i (v := xs (iq + 2)) (scr_at (k := 2) hi (by omega) hL xs) ?_
  have hP : va_P (dC, dI) vwCl (xw ax cI cJ (nI (2 ^ q)) (nI q) (nI d) (nI sN) ms (nI cN) mv mw st fr sr pa nu ++ yw ay cK cL (nI (2 ^ q)) (nI d) (nI sN) ms (nI cN) mv mw pu pl st fi ot nu) H := hP
  have hD : va_D (fun q : Nat => s.heap.size ≤ q) (xw ax cI cJ (nI (2 ^ q)) (nI q) (nI d) (nI sN) ms (nI cN) mv mw st fr sr pa nu ++ yw ay cK cL (nI (2 ^ q)) (nI d) (nI sN) ms (nI cN) mv mw pu pl st fi ot nu) := va_D_addr hD0 rfl
  refine wx_i (va_runV ⟨hx, hb, hml, hown, hts⟩ (c_X2_term l hd) (cwV 2 hts gL_law_X2_term rfl rfl rfl ⟨rfl, kd_X2_term⟩ ⟨Nat.le_of_ble_eq_true rfl, Nat.le_of_ble_eq_true rfl⟩) (preV2 hnw hKx (va_P_l hP) (va_D_l hD) 0 2 rfl rfl) rfl rfl hl.1 rfl (lv_room (Nat.le_of_ble_eq_true rfl)) dL_law_833 ⟨Nat.le_of_ble_eq_true rfl, Nat.le_of_ble_eq_true rfl⟩) hP hD hS hA (fun r1 u1 H locs e1 hP hS => ?_)
  have hP : va_P (dC, dI) vwCl (xw ax cI cJ (nI (2 ^ q)) (nI q) (nI d) (nI sN) ms (nI cN) mv mw st fr sr pa (o_term (nI d) nu (xs (iq + 1)) (xs (iq + 2))).2 ++ yw ay cK cL (nI (2 ^ q)) (nI d) (nI sN) ms (nI cN) mv mw pu pl st fi ot nu) H := hP
  have hD : va_D (fun q : Nat => s.heap.size ≤ q) (xw ax cI cJ (nI (2 ^ q)) (nI q) (nI d) (nI sN) ms (nI cN) mv mw st fr sr pa (o_term (nI d) nu (xs (iq + 1)) (xs (iq + 2))).2 ++ yw ay cK cL (nI (2 ^ q)) (nI d) (nI sN) ms (nI cN) mv mw pu pl st fi ot nu) := va_D_addr hD0 rfl
  refine lv_aload_n hx hb dL_law_836 rfl (lv_at hl 2 rfl) ?_
  refine lv_aload_n hx hb dL_law_837 rfl (lv_at hl 0 rfl) ?_
  refine lv_iload_n hx hb dL_law_838 rfl (lv_at hl 3 rfl) ?_
  refine lv_iconst (v := 1) hx hb dL_law_839 (by decide) ?_
  refine lv_iadd hx hb dL_law_840 ?_
  refine va_sld hx hb hX hbl hbA hS (scr_in (k := 1) hi (by omega) hL) dL_law_841 ?_
  refine st_i (v := xs (iq + 1)) (scr_at (k := 1) hi (by omega) hL xs) ?_
  refine lv_aload_n hx hb dL_law_842 rfl (lv_at hl 0 rfl) ?_
  refine lv_iload_n hx hb dL_law_843 rfl (lv_at hl 3 rfl) ?_
  refine lv_iconst (v := 2) hx hb dL_law_844 (by decide) ?_
  refine lv_iadd hx hb dL_law_845 ?_
  refine va_sld hx hb hX hbl hbA hS (scr_in (k := 2) hi (by omega) hL) dL_law_846 ?_
  refine st_i (v := xs (iq + 2)) (scr_at (k := 2) hi (by omega) hL xs) ?_
  refine wy_i (va_runV ⟨hx, hb, hml, hown, hts⟩ (c_X3_term l hd) (cwV 2 hts gL_law_X3_term rfl rfl rfl ⟨rfl, kd_X3_term⟩ ⟨Nat.le_of_ble_eq_true rfl, Nat.le_of_ble_eq_true rfl⟩) (preV2 hnw hKy (va_P_r hP) (va_D_r hD) 0 3 rfl rfl) rfl rfl hl.1 rfl (lv_room (Nat.le_of_ble_eq_true rfl)) dL_law_847 ⟨Nat.le_of_ble_eq_true rfl, Nat.le_of_ble_eq_true rfl⟩) hP hD hS hA (fun r2 u2 H locs e2 hP hS => ?_)
  have hP : va_P (dC, dI) vwCl (xw ax cI cJ (nI (2 ^ q)) (nI q) (nI d) (nI sN) ms (nI cN) mv mw st fr sr pa (o_term (nI d) nu (xs (iq + 1)) (xs (iq + 2))).2 ++ yw ay cK cL (nI (2 ^ q)) (nI d) (nI sN) ms (nI cN) mv mw pu pl st fi ot (o_term (nI d) nu (xs (iq + 1)) (xs (iq + 2))).2) H := hP
  have hD : va_D (fun q : Nat => s.heap.size ≤ q) (xw ax cI cJ (nI (2 ^ q)) (nI q) (nI d) (nI sN) ms (nI cN) mv mw st fr sr pa (o_term (nI d) nu (xs (iq + 1)) (xs (iq + 2))).2 ++ yw ay cK cL (nI (2 ^ q)) (nI d) (nI sN) ms (nI cN) mv mw pu pl st fi ot (o_term (nI d) nu (xs (iq + 1)) (xs (iq + 2))).2) := va_D_addr hD0 rfl
  exact lv_icmp_eq (tgt := 1025) hx hb dL_law_850 (by decide) (fun _ => kk q d sN cN ms mv mw _ _ _ _ _ _ _ _ _ ⟨h3, h6, hd, hs1, hs2, hc, hst, term_ok hnu _ _⟩ H locs hP hS ls hl) (fun cz => absurd (e1.trans e2.symm) cz)
set_option maxHeartbeats 4000000 in
set_option maxRecDepth 100000 in
theorem lk_part {p : Program} {l : Launch} {e : Env} {s : State} {m : MethodId} {below : List Frame} {meth : Method} {c : Code} {dC : Nat → ClassId} {dI : Nat → Nat → Nat} {b L : Nat} {xs : Nat → Int32} {ax ay : Nat → Nat} {cI cJ cK cL : ClassId} {iq : Nat} (C0 : lw_At p s m meth c b L xs) (hL : L ≤ 3072) (hi : iq + 6 ≤ L) (hnw : nw s) (hKx : va_K (dC, dI) vwCl (tyw cI cJ) s) (hKy : va_K (dC, dI) vwCl (tyw cK cL) s) (hD0 : va_D (fun q : Nat => s.heap.size ≤ q) (zw ax ay cI cJ cK cL 0 0 0 0 0 0 0 (fun _ => 0) (fun _ => 0) (fun _ => 0) (fun _ => 0) (fun _ => 0) 0 0 (fun _ => 0) (fun _ => 0))) (kk : LK p l e s m below meth c (dC, dI) b ax ay cI cJ cK cL iq 1025) : LK p l e s m below meth c (dC, dI) b ax ay cI cJ cK cL iq 855 := by
  obtain ⟨hx, hb, hr, hml, hown, hts0, hX, hbl, hlocks, hgv⟩ := C0
  have hown : s.vm.findClass RL = some m.cls := hown
  have hts : ∀ w ∈ wsL_law, w.before #[Value.ref b] s = true := fun w h => hts0 w (wsL_in w h)
  have hA : ∀ q : Nat, s.heap.size ≤ q → (fun q : Nat => s.heap.size ≤ q) q := fun _ h => h
  have hbA : ¬ (fun q : Nat => s.heap.size ≤ q) b := Nat.not_le.mpr hbl
  intro q d sN cN ms mv mw st fr sr pa nu pu pl fi ot I H locs hP hS ls hl
  obtain ⟨h3, h6, hd, hs1, hs2, hc, hst, hnu⟩ := I
  refine lv_aload_n hx hb dL_law_855 rfl (lv_at hl 1 rfl) ?_
  refine lv_aload_n hx hb dL_law_856 rfl (lv_at hl 0 rfl) ?_
  refine lv_iload_n hx hb dL_law_857 rfl (lv_at hl 3 rfl) ?_
  refine lv_iconst (v := 1) hx hb dL_law_858 (by decide) ?_
  refine lv_iadd hx hb dL_law_859 ?_
  refine va_sld hx hb hX hbl hbA hS (scr_in (k := 1) hi (by omega) hL) dL_law_860 ?_
  refine st_i (v := xs (iq + 1)) (scr_at (k := 1) hi (by omega) hL xs) ?_
  refine lv_aload_n hx hb dL_law_861 rfl (lv_at hl 0 rfl) ?_
  refine lv_iload_n hx hb dL_law_862 rfl (lv_at hl 3 rfl) ?_
  refine lv_iconst (v := 2) hx hb dL_law_863 (by decide) ?_
  refine lv_iadd hx hb dL_law_864 ?_
  refine va_sld hx hb hX hbl hbA hS (scr_in (k := 2) hi (by omega) hL) dL_law_865 ?_
  refine st_i (v := xs (iq + 2)) (scr_at (k := 2) hi (by omega) hL xs) ?_
  refine lv_aload_n hx hb dL_law_866 rfl (lv_at hl 0 rfl) ?_
  refine lv_iload_n hx hb dL_law_867 rfl (lv_at hl 3 rfl) ?_
  refine lv_iconst (v := 3) hx hb dL_law_868 (by decide) ?_
  refine lv_iadd hx hb dL_law_869 ?_
  refine va_sld hx hb hX hbl hbA hS (scr_in (k := 3) hi (by omega) hL) dL_law_870 ?_
  refine st_i (v := xs (iq + 3)) (scr_at (k := 3) hi (by omega) hL xs) ?_
  have hP : va_P (dC, dI) vwCl (xw ax cI cJ (nI (2 ^ q)) (nI q) (nI d) (nI sN) ms (nI cN) mv mw st fr sr pa nu ++ yw ay cK cL (nI (2 ^ q)) (nI d) (nI sN) ms (nI cN) mv mw pu pl st fi ot nu) H := hP
  have hD : va_D (fun q : Nat => s.heap.size ≤ q) (xw ax cI cJ (nI (2 ^ q)) (nI q) (nI d) (nI sN) ms (nI cN) mv mw st fr sr pa nu ++ yw ay cK cL (nI (2 ^ q)) (nI d) (nI sN) ms (nI cN) mv mw pu pl st fi ot nu) := va_D_addr hD0 rfl
  refine ro_l (va_runV ⟨hx, hb, hml, hown, hts⟩ (c_X2_part l hd) (cwV 3 hts gL_law_X2_part rfl rfl rfl ⟨rfl, kd_X2_part⟩ ⟨Nat.le_of_ble_eq_true rfl, Nat.le_of_ble_eq_true rfl⟩) (preV1 hnw hKx (va_P_l hP) 0 2 rfl rfl) rfl rfl hl.1 rfl (lv_room (Nat.le_of_ble_eq_true rfl)) dL_law_871 ⟨Nat.le_of_ble_eq_true rfl, Nat.le_of_ble_eq_true rfl⟩) ?_
  refine lv_aload_n hx hb dL_law_874 rfl (lv_at hl 2 rfl) ?_
  refine lv_aload_n hx hb dL_law_875 rfl (lv_at hl 0 rfl) ?_
  refine lv_iload_n hx hb dL_law_876 rfl (lv_at hl 3 rfl) ?_
  refine lv_iconst (v := 1) hx hb dL_law_877 (by decide) ?_
  refine lv_iadd hx hb dL_law_878 ?_
  refine va_sld hx hb hX hbl hbA hS (scr_in (k := 1) hi (by omega) hL) dL_law_879 ?_
  refine st_i (v := xs (iq + 1)) (scr_at (k := 1) hi (by omega) hL xs) ?_
  refine lv_aload_n hx hb dL_law_880 rfl (lv_at hl 0 rfl) ?_
  refine lv_iload_n hx hb dL_law_881 rfl (lv_at hl 3 rfl) ?_
  refine lv_iconst (v := 2) hx hb dL_law_882 (by decide) ?_
  refine lv_iadd hx hb dL_law_883 ?_
  refine va_sld hx hb hX hbl hbA hS (scr_in (k := 2) hi (by omega) hL) dL_law_884 ?_
  refine st_i (v := xs (iq + 2)) (scr_at (k := 2) hi (by omega) hL xs) ?_
  refine lv_aload_n hx hb dL_law_885 rfl (lv_at hl 0 rfl) ?_
  refine lv_iload_n hx hb dL_law_886 rfl (lv_at hl 3 rfl) ?_
  refine lv_iconst (v := 3) hx hb dL_law_887 (by decide) ?_
  refine lv_iadd hx hb dL_law_888 ?_
  refine va_sld hx hb hX hbl hbA hS (scr_in (k := 3) hi (by omega) hL) dL_law_889 ?_
  refine st_i (v := xs (iq + 3)) (scr_at (k := 3) hi (by omega) hL xs) ?_
  refine wy_l (va_runV ⟨hx, hb, hml, hown, hts⟩ (c_X3_part l hd (fun m0 j0 y1 y2 y3 => cm_part hd y1 y2 y3 hnu hs1 hs2)) (cwV 3 hts gL_law_X3_part rfl rfl rfl ⟨rfl, kd_X3_part⟩ ⟨Nat.le_of_ble_eq_true rfl, Nat.le_of_ble_eq_true rfl⟩) (preV2 hnw hKy (va_P_r hP) (va_D_r hD) 0 3 rfl rfl) rfl rfl hl.1 rfl (lv_room (Nat.le_of_ble_eq_true rfl)) dL_law_890 ⟨Nat.le_of_ble_eq_true rfl, Nat.le_of_ble_eq_true rfl⟩) hP hD hS hA (fun r2 u2 H locs e2 hP hS => ?_)
  have hP : va_P (dC, dI) vwCl (xw ax cI cJ (nI (2 ^ q)) (nI q) (nI d) (nI sN) ms (nI cN) mv mw st fr sr pa nu ++ yw ay cK cL (nI (2 ^ q)) (nI d) (nI sN) ms (nI cN) mv mw u2.1 u2.2 st fi ot nu) H := hP
  have hD : va_D (fun q : Nat => s.heap.size ≤ q) (xw ax cI cJ (nI (2 ^ q)) (nI q) (nI d) (nI sN) ms (nI cN) mv mw st fr sr pa nu ++ yw ay cK cL (nI (2 ^ q)) (nI d) (nI sN) ms (nI cN) mv mw u2.1 u2.2 st fi ot nu) := va_D_addr hD0 rfl
  refine W.lcmp hx hb dL_law_893 ?_
  exact lv_if_eq (tgt := 1025) hx hb dL_law_894 (by decide) (fun _ => kk q d sN cN ms mv mw _ _ _ _ _ _ _ _ _ ⟨h3, h6, hd, hs1, hs2, hc, hst, hnu⟩ H locs hP hS ls hl) (fun cz => absurd ((lg_cmp_eq _ _).mpr ((part_fg hd hnu hs1 hs2 _ _ _).trans e2.symm)) cz)
set_option maxHeartbeats 4000000 in
set_option maxRecDepth 100000 in
theorem lk_least {p : Program} {l : Launch} {e : Env} {s : State} {m : MethodId} {below : List Frame} {meth : Method} {c : Code} {dC : Nat → ClassId} {dI : Nat → Nat → Nat} {b L : Nat} {xs : Nat → Int32} {ax ay : Nat → Nat} {cI cJ cK cL : ClassId} {iq : Nat} (C0 : lw_At p s m meth c b L xs) (hL : L ≤ 3072) (hi : iq + 6 ≤ L) (hnw : nw s) (hKx : va_K (dC, dI) vwCl (tyw cI cJ) s) (hKy : va_K (dC, dI) vwCl (tyw cK cL) s) (hD0 : va_D (fun q : Nat => s.heap.size ≤ q) (zw ax ay cI cJ cK cL 0 0 0 0 0 0 0 (fun _ => 0) (fun _ => 0) (fun _ => 0) (fun _ => 0) (fun _ => 0) 0 0 (fun _ => 0) (fun _ => 0))) (kk : LK p l e s m below meth c (dC, dI) b ax ay cI cJ cK cL iq 1025) : LK p l e s m below meth c (dC, dI) b ax ay cI cJ cK cL iq 899 := by
  obtain ⟨hx, hb, hr, hml, hown, hts0, hX, hbl, hlocks, hgv⟩ := C0
  have hown : s.vm.findClass RL = some m.cls := hown
  have hts : ∀ w ∈ wsL_law, w.before #[Value.ref b] s = true := fun w h => hts0 w (wsL_in w h)
  have hA : ∀ q : Nat, s.heap.size ≤ q → (fun q : Nat => s.heap.size ≤ q) q := fun _ h => h
  have hbA : ¬ (fun q : Nat => s.heap.size ≤ q) b := Nat.not_le.mpr hbl
  intro q d sN cN ms mv mw st fr sr pa nu pu pl fi ot I H locs hP hS ls hl
  obtain ⟨h3, h6, hd, hs1, hs2, hc, hst, hnu⟩ := I
  refine lv_aload_n hx hb dL_law_899 rfl (lv_at hl 1 rfl) ?_
  have hP : va_P (dC, dI) vwCl (xw ax cI cJ (nI (2 ^ q)) (nI q) (nI d) (nI sN) ms (nI cN) mv mw st fr sr pa nu ++ yw ay cK cL (nI (2 ^ q)) (nI d) (nI sN) ms (nI cN) mv mw pu pl st fi ot nu) H := hP
  have hD : va_D (fun q : Nat => s.heap.size ≤ q) (xw ax cI cJ (nI (2 ^ q)) (nI q) (nI d) (nI sN) ms (nI cN) mv mw st fr sr pa nu ++ yw ay cK cL (nI (2 ^ q)) (nI d) (nI sN) ms (nI cN) mv mw pu pl st fi ot nu) := va_D_addr hD0 rfl
  refine ro_i (va_runV ⟨hx, hb, hml, hown, hts⟩ (c_X2_least l hd) (cwV 0 hts gL_law_X2_least rfl rfl rfl ⟨rfl, kd_X2_least⟩ ⟨Nat.le_of_ble_eq_true rfl, Nat.le_of_ble_eq_true rfl⟩) (preV1 hnw hKx (va_P_l hP) 0 2 rfl rfl) rfl rfl hl.1 rfl (lv_room (Nat.le_of_ble_eq_true rfl)) dL_law_900 ⟨Nat.le_of_ble_eq_true rfl, Nat.le_of_ble_eq_true rfl⟩) ?_
  refine lv_aload_n hx hb dL_law_903 rfl (lv_at hl 2 rfl) ?_
  refine wy_i (va_runV ⟨hx, hb, hml, hown, hts⟩ (c_X3_least l hd (fun m0 j0 y1 y2 y3 => cm_part hd y1 y2 y3 hnu hs1 hs2)) (cwV 0 hts gL_law_X3_least rfl rfl rfl ⟨rfl, kd_X3_least⟩ ⟨Nat.le_of_ble_eq_true rfl, Nat.le_of_ble_eq_true rfl⟩) (preV2 hnw hKy (va_P_r hP) (va_D_r hD) 0 3 rfl rfl) rfl rfl hl.1 rfl (lv_room (Nat.le_of_ble_eq_true rfl)) dL_law_904 ⟨Nat.le_of_ble_eq_true rfl, Nat.le_of_ble_eq_true rfl⟩) hP hD hS hA (fun r2 u2 H locs e2 hP hS => ?_)
  have hP : va_P (dC, dI) vwCl (xw ax cI cJ (nI (2 ^ q)) (nI q) (nI d) (nI sN) ms (nI cN) mv mw st fr sr pa nu ++ yw ay cK cL (nI (2 ^ q)) (nI d) (nI sN) ms (nI cN) mv mw u2.1 u2.2 st fi ot nu) H := hP
  have hD : va_D (fun q : Nat => s.heap.size ≤ q) (xw ax cI cJ (nI (2 ^ q)) (nI q) (nI d) (nI sN) ms (nI cN) mv mw st fr sr pa nu ++ yw ay cK cL (nI (2 ^ q)) (nI d) (nI sN) ms (nI cN) mv mw u2.1 u2.2 st fi ot nu) := va_D_addr hD0 rfl
  exact lv_icmp_eq (tgt := 1025) hx hb dL_law_907 (by decide) (fun _ => kk q d sN cN ms mv mw _ _ _ _ _ _ _ _ _ ⟨h3, h6, hd, hs1, hs2, hc, hst, hnu⟩ H locs hP hS ls hl) (fun cz => absurd ((least_eq hd hs1 hs2 _ _ (Nat.le_refl _) (by omega)).trans e2.symm) cz)
set_option maxHeartbeats 4000000 in
set_option maxRecDepth 100000 in
theorem lk_at {p : Program} {l : Launch} {e : Env} {s : State} {m : MethodId} {below : List Frame} {meth : Method} {c : Code} {dC : Nat → ClassId} {dI : Nat → Nat → Nat} {b L : Nat} {xs : Nat → Int32} {ax ay : Nat → Nat} {cI cJ cK cL : ClassId} {iq : Nat} (C0 : lw_At p s m meth c b L xs) (hL : L ≤ 3072) (hi : iq + 6 ≤ L) (hnw : nw s) (hKx : va_K (dC, dI) vwCl (tyw cI cJ) s) (hKy : va_K (dC, dI) vwCl (tyw cK cL) s) (hD0 : va_D (fun q : Nat => s.heap.size ≤ q) (zw ax ay cI cJ cK cL 0 0 0 0 0 0 0 (fun _ => 0) (fun _ => 0) (fun _ => 0) (fun _ => 0) (fun _ => 0) 0 0 (fun _ => 0) (fun _ => 0))) (kk : LK p l e s m below meth c (dC, dI) b ax ay cI cJ cK cL iq 1025) : LK p l e s m below meth c (dC, dI) b ax ay cI cJ cK cL iq 912 := by
  obtain ⟨hx, hb, hr, hml, hown, hts0, hX, hbl, hlocks, hgv⟩ := C0
  have hown : s.vm.findClass RL = some m.cls := hown
  have hts : ∀ w ∈ wsL_law, w.before #[Value.ref b] s = true := fun w h => hts0 w (wsL_in w h)
  have hA : ∀ q : Nat, s.heap.size ≤ q → (fun q : Nat => s.heap.size ≤ q) q := fun _ h => h
  have hbA : ¬ (fun q : Nat => s.heap.size ≤ q) b := Nat.not_le.mpr hbl
  intro q d sN cN ms mv mw st fr sr pa nu pu pl fi ot I H locs hP hS ls hl
  obtain ⟨h3, h6, hd, hs1, hs2, hc, hst, hnu⟩ := I
  refine lv_aload_n hx hb dL_law_912 rfl (lv_at hl 1 rfl) ?_
  refine lv_aload_n hx hb dL_law_913 rfl (lv_at hl 0 rfl) ?_
  refine lv_iload_n hx hb dL_law_914 rfl (lv_at hl 3 rfl) ?_
  refine lv_iconst (v := 1) hx hb dL_law_915 (by decide) ?_
  refine lv_iadd hx hb dL_law_916 ?_
  refine va_sld hx hb hX hbl hbA hS (scr_in (k := 1) hi (by omega) hL) dL_law_917 ?_
  refine st_i (v := xs (iq + 1)) (scr_at (k := 1) hi (by omega) hL xs) ?_
  have hP : va_P (dC, dI) vwCl (xw ax cI cJ (nI (2 ^ q)) (nI q) (nI d) (nI sN) ms (nI cN) mv mw st fr sr pa nu ++ yw ay cK cL (nI (2 ^ q)) (nI d) (nI sN) ms (nI cN) mv mw pu pl st fi ot nu) H := hP
  have hD : va_D (fun q : Nat => s.heap.size ≤ q) (xw ax cI cJ (nI (2 ^ q)) (nI q) (nI d) (nI sN) ms (nI cN) mv mw st fr sr pa nu ++ yw ay cK cL (nI (2 ^ q)) (nI d) (nI sN) ms (nI cN) mv mw pu pl st fi ot nu) := va_D_addr hD0 rfl
  refine ro_i (va_runV ⟨hx, hb, hml, hown, hts⟩ (c_X2_at l hd) (cwV 1 hts gL_law_X2_at rfl rfl rfl ⟨rfl, kd_X2_at⟩ ⟨Nat.le_of_ble_eq_true rfl, Nat.le_of_ble_eq_true rfl⟩) (preV1 hnw hKx (va_P_l hP) 0 2 rfl rfl) rfl rfl hl.1 rfl (lv_room (Nat.le_of_ble_eq_true rfl)) dL_law_918 ⟨Nat.le_of_ble_eq_true rfl, Nat.le_of_ble_eq_true rfl⟩) ?_
  refine lv_aload_n hx hb dL_law_921 rfl (lv_at hl 2 rfl) ?_
  refine lv_aload_n hx hb dL_law_922 rfl (lv_at hl 0 rfl) ?_
  refine lv_iload_n hx hb dL_law_923 rfl (lv_at hl 3 rfl) ?_
  refine lv_iconst (v := 1) hx hb dL_law_924 (by decide) ?_
  refine lv_iadd hx hb dL_law_925 ?_
  refine va_sld hx hb hX hbl hbA hS (scr_in (k := 1) hi (by omega) hL) dL_law_926 ?_
  refine st_i (v := xs (iq + 1)) (scr_at (k := 1) hi (by omega) hL xs) ?_
  refine ro_i (va_runV ⟨hx, hb, hml, hown, hts⟩ (c_X3_at l hd (by obtain ⟨y0, y1, y2, y3⟩ := low_pos h6 hd hs1 hs2; rw [y3]; exact lN_ne y1 (by omega))) (cwV 1 hts gL_law_X3_at rfl rfl rfl ⟨rfl, kd_X3_at⟩ ⟨Nat.le_of_ble_eq_true rfl, Nat.le_of_ble_eq_true rfl⟩) (preV1 hnw hKy (va_P_r hP) 0 3 rfl rfl) rfl rfl hl.1 rfl (lv_room (Nat.le_of_ble_eq_true rfl)) dL_law_927 ⟨Nat.le_of_ble_eq_true rfl, Nat.le_of_ble_eq_true rfl⟩) ?_
  exact lv_icmp_eq (tgt := 1025) hx hb dL_law_930 (by decide) (fun _ => kk q d sN cN ms mv mw _ _ _ _ _ _ _ _ _ ⟨h3, h6, hd, hs1, hs2, hc, hst, hnu⟩ H locs hP hS ls hl) (fun cz => absurd (at_eq h6 hd hs1 hs2 _ _) cz)
set_option maxHeartbeats 4000000 in
set_option maxRecDepth 100000 in
theorem lk_make {p : Program} {l : Launch} {e : Env} {s : State} {m : MethodId} {below : List Frame} {meth : Method} {c : Code} {dC : Nat → ClassId} {dI : Nat → Nat → Nat} {b L : Nat} {xs : Nat → Int32} {ax ay : Nat → Nat} {cI cJ cK cL : ClassId} {iq : Nat} (C0 : lw_At p s m meth c b L xs) (hL : L ≤ 3072) (hi : iq + 6 ≤ L) (hnw : nw s) (hKx : va_K (dC, dI) vwCl (tyw cI cJ) s) (hKy : va_K (dC, dI) vwCl (tyw cK cL) s) (hD0 : va_D (fun q : Nat => s.heap.size ≤ q) (zw ax ay cI cJ cK cL 0 0 0 0 0 0 0 (fun _ => 0) (fun _ => 0) (fun _ => 0) (fun _ => 0) (fun _ => 0) 0 0 (fun _ => 0) (fun _ => 0))) (kk : LK p l e s m below meth c (dC, dI) b ax ay cI cJ cK cL iq 1025) : LK p l e s m below meth c (dC, dI) b ax ay cI cJ cK cL iq 935 := by
  obtain ⟨hx, hb, hr, hml, hown, hts0, hX, hbl, hlocks, hgv⟩ := C0
  have hown : s.vm.findClass RL = some m.cls := hown
  have hts : ∀ w ∈ wsL_law, w.before #[Value.ref b] s = true := fun w h => hts0 w (wsL_in w h)
  have hA : ∀ q : Nat, s.heap.size ≤ q → (fun q : Nat => s.heap.size ≤ q) q := fun _ h => h
  have hbA : ¬ (fun q : Nat => s.heap.size ≤ q) b := Nat.not_le.mpr hbl
  intro q d sN cN ms mv mw st fr sr pa nu pu pl fi ot I H locs hP hS ls hl
  obtain ⟨h3, h6, hd, hs1, hs2, hc, hst, hnu⟩ := I
  refine lv_aload_n hx hb dL_law_935 rfl (lv_at hl 1 rfl) ?_
  refine lv_aload_n hx hb dL_law_936 rfl (lv_at hl 0 rfl) ?_
  refine lv_iload_n hx hb dL_law_937 rfl (lv_at hl 3 rfl) ?_
  refine lv_iconst (v := 1) hx hb dL_law_938 (by decide) ?_
  refine lv_iadd hx hb dL_law_939 ?_
  refine va_sld hx hb hX hbl hbA hS (scr_in (k := 1) hi (by omega) hL) dL_law_940 ?_
  refine st_i (v := xs (iq + 1)) (scr_at (k := 1) hi (by omega) hL xs) ?_
  refine lv_aload_n hx hb dL_law_941 rfl (lv_at hl 0 rfl) ?_
  refine lv_iload_n hx hb dL_law_942 rfl (lv_at hl 3 rfl) ?_
  refine lv_iconst (v := 2) hx hb dL_law_943 (by decide) ?_
  refine lv_iadd hx hb dL_law_944 ?_
  refine va_sld hx hb hX hbl hbA hS (scr_in (k := 2) hi (by omega) hL) dL_law_945 ?_
  refine st_i (v := xs (iq + 2)) (scr_at (k := 2) hi (by omega) hL xs) ?_
  refine lv_aload_n hx hb dL_law_946 rfl (lv_at hl 0 rfl) ?_
  refine lv_iload_n hx hb dL_law_947 rfl (lv_at hl 3 rfl) ?_
  refine lv_iconst (v := 3) hx hb dL_law_948 (by decide) ?_
  refine lv_iadd hx hb dL_law_949 ?_
  refine va_sld hx hb hX hbl hbA hS (scr_in (k := 3) hi (by omega) hL) dL_law_950 ?_
  refine st_i (v := xs (iq + 3)) (scr_at (k := 3) hi (by omega) hL xs) ?_
  refine lv_aload_n hx hb dL_law_951 rfl (lv_at hl 0 rfl) ?_
  refine lv_iload_n hx hb dL_law_952 rfl (lv_at hl 3 rfl) ?_
  refine lv_iconst (v := 4) hx hb dL_law_953 (by decide) ?_
  refine lv_iadd hx hb dL_law_954 ?_
  refine va_sld hx hb hX hbl hbA hS (scr_in (k := 4) hi (by omega) hL) dL_law_955 ?_
  refine st_i (v := xs (iq + 4)) (scr_at (k := 4) hi (by omega) hL xs) ?_
  have hP : va_P (dC, dI) vwCl (xw ax cI cJ (nI (2 ^ q)) (nI q) (nI d) (nI sN) ms (nI cN) mv mw st fr sr pa nu ++ yw ay cK cL (nI (2 ^ q)) (nI d) (nI sN) ms (nI cN) mv mw pu pl st fi ot nu) H := hP
  have hD : va_D (fun q : Nat => s.heap.size ≤ q) (xw ax cI cJ (nI (2 ^ q)) (nI q) (nI d) (nI sN) ms (nI cN) mv mw st fr sr pa nu ++ yw ay cK cL (nI (2 ^ q)) (nI d) (nI sN) ms (nI cN) mv mw pu pl st fi ot nu) := va_D_addr hD0 rfl
  refine wx_i (va_runV ⟨hx, hb, hml, hown, hts⟩ (c_X2_make l hd) (cwV 4 hts gL_law_X2_make rfl rfl rfl ⟨rfl, kd_X2_make⟩ ⟨Nat.le_of_ble_eq_true rfl, Nat.le_of_ble_eq_true rfl⟩) (preV2 hnw hKx (va_P_l hP) (va_D_l hD) 0 2 rfl rfl) rfl rfl hl.1 rfl (lv_room (Nat.le_of_ble_eq_true rfl)) dL_law_956 ⟨Nat.le_of_ble_eq_true rfl, Nat.le_of_ble_eq_true rfl⟩) hP hD hS hA (fun r1 u1 H locs e1 hP hS => ?_)
  have hP : va_P (dC, dI) vwCl (xw ax cI cJ (nI (2 ^ q)) (nI q) (nI d) (nI sN) ms (nI cN) mv mw (o_make d (nI (2 ^ q)) (nI q) (nI sN) nu st (xs (iq + 1)) (xs (iq + 2)) (xs (iq + 3)) (xs (iq + 4))).2 fr sr u1 nu ++ yw ay cK cL (nI (2 ^ q)) (nI d) (nI sN) ms (nI cN) mv mw pu pl st fi ot nu) H := hP
  have hD : va_D (fun q : Nat => s.heap.size ≤ q) (xw ax cI cJ (nI (2 ^ q)) (nI q) (nI d) (nI sN) ms (nI cN) mv mw (o_make d (nI (2 ^ q)) (nI q) (nI sN) nu st (xs (iq + 1)) (xs (iq + 2)) (xs (iq + 3)) (xs (iq + 4))).2 fr sr u1 nu ++ yw ay cK cL (nI (2 ^ q)) (nI d) (nI sN) ms (nI cN) mv mw pu pl st fi ot nu) := va_D_addr hD0 rfl
  refine lv_aload_n hx hb dL_law_959 rfl (lv_at hl 2 rfl) ?_
  refine lv_aload_n hx hb dL_law_960 rfl (lv_at hl 0 rfl) ?_
  refine lv_iload_n hx hb dL_law_961 rfl (lv_at hl 3 rfl) ?_
  refine lv_iconst (v := 1) hx hb dL_law_962 (by decide) ?_
  refine lv_iadd hx hb dL_law_963 ?_
  refine va_sld hx hb hX hbl hbA hS (scr_in (k := 1) hi (by omega) hL) dL_law_964 ?_
  refine st_i (v := xs (iq + 1)) (scr_at (k := 1) hi (by omega) hL xs) ?_
  refine lv_aload_n hx hb dL_law_965 rfl (lv_at hl 0 rfl) ?_
  refine lv_iload_n hx hb dL_law_966 rfl (lv_at hl 3 rfl) ?_
  refine lv_iconst (v := 2) hx hb dL_law_967 (by decide) ?_
  refine lv_iadd hx hb dL_law_968 ?_
  refine va_sld hx hb hX hbl hbA hS (scr_in (k := 2) hi (by omega) hL) dL_law_969 ?_
  refine st_i (v := xs (iq + 2)) (scr_at (k := 2) hi (by omega) hL xs) ?_
  refine lv_aload_n hx hb dL_law_970 rfl (lv_at hl 0 rfl) ?_
  refine lv_iload_n hx hb dL_law_971 rfl (lv_at hl 3 rfl) ?_
  refine lv_iconst (v := 3) hx hb dL_law_972 (by decide) ?_
  refine lv_iadd hx hb dL_law_973 ?_
  refine va_sld hx hb hX hbl hbA hS (scr_in (k := 3) hi (by omega) hL) dL_law_974 ?_
  refine st_i (v := xs (iq + 3)) (scr_at (k := 3) hi (by omega) hL xs) ?_
  refine lv_aload_n hx hb dL_law_975 rfl (lv_at hl 0 rfl) ?_
  refine lv_iload_n hx hb dL_law_976 rfl (lv_at hl 3 rfl) ?_
  refine lv_iconst (v := 4) hx hb dL_law_977 (by decide) ?_
  refine lv_iadd hx hb dL_law_978 ?_
  refine va_sld hx hb hX hbl hbA hS (scr_in (k := 4) hi (by omega) hL) dL_law_979 ?_
  refine st_i (v := xs (iq + 4)) (scr_at (k := 4) hi (by omega) hL xs) ?_
  refine wy_i (va_runV ⟨hx, hb, hml, hown, hts⟩ (c_X3_make l h6 hd (fun m0 j0 y1 y2 y3 => cm_part hd y1 y2 y3 hnu hs1 hs2)) (cwV 4 hts gL_law_X3_make rfl rfl rfl ⟨rfl, kd_X3_make⟩ ⟨Nat.le_of_ble_eq_true rfl, Nat.le_of_ble_eq_true rfl⟩) (preV2 hnw hKy (va_P_r hP) (va_D_r hD) 0 3 rfl rfl) rfl rfl hl.1 rfl (lv_room (Nat.le_of_ble_eq_true rfl)) dL_law_980 ⟨Nat.le_of_ble_eq_true rfl, Nat.le_of_ble_eq_true rfl⟩) hP hD hS hA (fun r2 u2 H locs e2 hP hS => ?_)
  have hP : va_P (dC, dI) vwCl (xw ax cI cJ (nI (2 ^ q)) (nI q) (nI d) (nI sN) ms (nI cN) mv mw (o_make d (nI (2 ^ q)) (nI q) (nI sN) nu st (xs (iq + 1)) (xs (iq + 2)) (xs (iq + 3)) (xs (iq + 4))).2 fr sr u1 nu ++ yw ay cK cL (nI (2 ^ q)) (nI d) (nI sN) ms (nI cN) mv mw u2.1 u2.2 (p_make q d (nI sN) nu st (xs (iq + 1)) (xs (iq + 2)) (xs (iq + 3)) (xs (iq + 4))).2 fi ot nu) H := hP
  have hD : va_D (fun q : Nat => s.heap.size ≤ q) (xw ax cI cJ (nI (2 ^ q)) (nI q) (nI d) (nI sN) ms (nI cN) mv mw (o_make d (nI (2 ^ q)) (nI q) (nI sN) nu st (xs (iq + 1)) (xs (iq + 2)) (xs (iq + 3)) (xs (iq + 4))).2 fr sr u1 nu ++ yw ay cK cL (nI (2 ^ q)) (nI d) (nI sN) ms (nI cN) mv mw u2.1 u2.2 (p_make q d (nI sN) nu st (xs (iq + 1)) (xs (iq + 2)) (xs (iq + 3)) (xs (iq + 4))).2 fi ot nu) := va_D_addr hD0 rfl
  rw [← make_fg h3 h6 hd hnu hs1 hs2] at hP e2
  exact lv_icmp_eq (tgt := 1025) hx hb dL_law_983 (by decide) (fun _ => kk q d sN cN ms mv mw _ _ _ _ _ _ _ _ _ ⟨h3, h6, hd, hs1, hs2, hc, make_ok h6 hst _ _ _ _ _ _ _, hnu⟩ H locs hP hS ls hl) (fun cz => absurd (e1.trans e2.symm) cz)
set_option maxHeartbeats 4000000 in
set_option maxRecDepth 100000 in
theorem lk_count {p : Program} {l : Launch} {e : Env} {s : State} {m : MethodId} {below : List Frame} {meth : Method} {c : Code} {dC : Nat → ClassId} {dI : Nat → Nat → Nat} {b L : Nat} {xs : Nat → Int32} {ax ay : Nat → Nat} {cI cJ cK cL : ClassId} {iq : Nat} (C0 : lw_At p s m meth c b L xs) (hL : L ≤ 3072) (hi : iq + 6 ≤ L) (hnw : nw s) (hKx : va_K (dC, dI) vwCl (tyw cI cJ) s) (hKy : va_K (dC, dI) vwCl (tyw cK cL) s) (hD0 : va_D (fun q : Nat => s.heap.size ≤ q) (zw ax ay cI cJ cK cL 0 0 0 0 0 0 0 (fun _ => 0) (fun _ => 0) (fun _ => 0) (fun _ => 0) (fun _ => 0) 0 0 (fun _ => 0) (fun _ => 0))) (kk : LK p l e s m below meth c (dC, dI) b ax ay cI cJ cK cL iq 1025) : LK p l e s m below meth c (dC, dI) b ax ay cI cJ cK cL iq 988 := by
  obtain ⟨hx, hb, hr, hml, hown, hts0, hX, hbl, hlocks, hgv⟩ := C0
  have hown : s.vm.findClass RL = some m.cls := hown
  have hts : ∀ w ∈ wsL_law, w.before #[Value.ref b] s = true := fun w h => hts0 w (wsL_in w h)
  have hA : ∀ q : Nat, s.heap.size ≤ q → (fun q : Nat => s.heap.size ≤ q) q := fun _ h => h
  have hbA : ¬ (fun q : Nat => s.heap.size ≤ q) b := Nat.not_le.mpr hbl
  intro q d sN cN ms mv mw st fr sr pa nu pu pl fi ot I H locs hP hS ls hl
  obtain ⟨h3, h6, hd, hs1, hs2, hc, hst, hnu⟩ := I
  refine lv_aload_n hx hb dL_law_988 rfl (lv_at hl 1 rfl) ?_
  refine lv_aload_n hx hb dL_law_989 rfl (lv_at hl 0 rfl) ?_
  refine lv_iload_n hx hb dL_law_990 rfl (lv_at hl 3 rfl) ?_
  refine lv_iconst (v := 1) hx hb dL_law_991 (by decide) ?_
  refine lv_iadd hx hb dL_law_992 ?_
  refine va_sld hx hb hX hbl hbA hS (scr_in (k := 1) hi (by omega) hL) dL_law_993 ?_
  refine st_i (v := xs (iq + 1)) (scr_at (k := 1) hi (by omega) hL xs) ?_
  have hP : va_P (dC, dI) vwCl (xw ax cI cJ (nI (2 ^ q)) (nI q) (nI d) (nI sN) ms (nI cN) mv mw st fr sr pa nu ++ yw ay cK cL (nI (2 ^ q)) (nI d) (nI sN) ms (nI cN) mv mw pu pl st fi ot nu) H := hP
  have hD : va_D (fun q : Nat => s.heap.size ≤ q) (xw ax cI cJ (nI (2 ^ q)) (nI q) (nI d) (nI sN) ms (nI cN) mv mw st fr sr pa nu ++ yw ay cK cL (nI (2 ^ q)) (nI d) (nI sN) ms (nI cN) mv mw pu pl st fi ot nu) := va_D_addr hD0 rfl
  refine ro_i (va_runV ⟨hx, hb, hml, hown, hts⟩ (c_X2_count l ) (cwV 1 hts gL_law_X2_count rfl rfl rfl ⟨rfl, kd_X2_count⟩ ⟨Nat.le_of_ble_eq_true rfl, Nat.le_of_ble_eq_true rfl⟩) (preV1 hnw hKx (va_P_l hP) 0 2 rfl rfl) rfl rfl hl.1 rfl (lv_room (Nat.le_of_ble_eq_true rfl)) dL_law_994 ⟨Nat.le_of_ble_eq_true rfl, Nat.le_of_ble_eq_true rfl⟩) ?_
  refine lv_aload_n hx hb dL_law_997 rfl (lv_at hl 2 rfl) ?_
  refine lv_aload_n hx hb dL_law_998 rfl (lv_at hl 0 rfl) ?_
  refine lv_iload_n hx hb dL_law_999 rfl (lv_at hl 3 rfl) ?_
  refine lv_iconst (v := 1) hx hb dL_law_1000 (by decide) ?_
  refine lv_iadd hx hb dL_law_1001 ?_
  refine va_sld hx hb hX hbl hbA hS (scr_in (k := 1) hi (by omega) hL) dL_law_1002 ?_
  refine st_i (v := xs (iq + 1)) (scr_at (k := 1) hi (by omega) hL xs) ?_
  refine ro_i (va_runV ⟨hx, hb, hml, hown, hts⟩ (c_X3_count l ) (cwV 1 hts gL_law_X3_count rfl rfl rfl ⟨rfl, kd_X3_count⟩ ⟨Nat.le_of_ble_eq_true rfl, Nat.le_of_ble_eq_true rfl⟩) (preV1 hnw hKy (va_P_r hP) 0 3 rfl rfl) rfl rfl hl.1 rfl (lv_room (Nat.le_of_ble_eq_true rfl)) dL_law_1003 ⟨Nat.le_of_ble_eq_true rfl, Nat.le_of_ble_eq_true rfl⟩) ?_
  exact lv_icmp_eq (tgt := 1025) hx hb dL_law_1006 (by decide) (fun _ => kk q d sN cN ms mv mw _ _ _ _ _ _ _ _ _ ⟨h3, h6, hd, hs1, hs2, hc, hst, hnu⟩ H locs hP hS ls hl) (fun cz => absurd (rfl) cz)
set_option maxHeartbeats 4000000 in
set_option maxRecDepth 100000 in
theorem lk_digest {p : Program} {l : Launch} {e : Env} {s : State} {m : MethodId} {below : List Frame} {meth : Method} {c : Code} {dC : Nat → ClassId} {dI : Nat → Nat → Nat} {b L : Nat} {xs : Nat → Int32} {ax ay : Nat → Nat} {cI cJ cK cL : ClassId} {iq : Nat} (C0 : lw_At p s m meth c b L xs) (hL : L ≤ 3072) (hi : iq + 6 ≤ L) (hnw : nw s) (hKx : va_K (dC, dI) vwCl (tyw cI cJ) s) (hKy : va_K (dC, dI) vwCl (tyw cK cL) s) (hD0 : va_D (fun q : Nat => s.heap.size ≤ q) (zw ax ay cI cJ cK cL 0 0 0 0 0 0 0 (fun _ => 0) (fun _ => 0) (fun _ => 0) (fun _ => 0) (fun _ => 0) 0 0 (fun _ => 0) (fun _ => 0))) (kk : LK p l e s m below meth c (dC, dI) b ax ay cI cJ cK cL iq 1025) : LK p l e s m below meth c (dC, dI) b ax ay cI cJ cK cL iq 1011 := by
  obtain ⟨hx, hb, hr, hml, hown, hts0, hX, hbl, hlocks, hgv⟩ := C0
  have hown : s.vm.findClass RL = some m.cls := hown
  have hts : ∀ w ∈ wsL_law, w.before #[Value.ref b] s = true := fun w h => hts0 w (wsL_in w h)
  have hA : ∀ q : Nat, s.heap.size ≤ q → (fun q : Nat => s.heap.size ≤ q) q := fun _ h => h
  have hbA : ¬ (fun q : Nat => s.heap.size ≤ q) b := Nat.not_le.mpr hbl
  intro q d sN cN ms mv mw st fr sr pa nu pu pl fi ot I H locs hP hS ls hl
  obtain ⟨h3, h6, hd, hs1, hs2, hc, hst, hnu⟩ := I
  refine lv_aload_n hx hb dL_law_1011 rfl (lv_at hl 1 rfl) ?_
  have hP : va_P (dC, dI) vwCl (xw ax cI cJ (nI (2 ^ q)) (nI q) (nI d) (nI sN) ms (nI cN) mv mw st fr sr pa nu ++ yw ay cK cL (nI (2 ^ q)) (nI d) (nI sN) ms (nI cN) mv mw pu pl st fi ot nu) H := hP
  have hD : va_D (fun q : Nat => s.heap.size ≤ q) (xw ax cI cJ (nI (2 ^ q)) (nI q) (nI d) (nI sN) ms (nI cN) mv mw st fr sr pa nu ++ yw ay cK cL (nI (2 ^ q)) (nI d) (nI sN) ms (nI cN) mv mw pu pl st fi ot nu) := va_D_addr hD0 rfl
  refine ro_l (va_runV ⟨hx, hb, hml, hown, hts⟩ (c_X2_digest l ) (cwV 0 hts gL_law_X2_digest rfl rfl rfl ⟨rfl, kd_X2_digest⟩ ⟨Nat.le_of_ble_eq_true rfl, Nat.le_of_ble_eq_true rfl⟩) (preV1 hnw hKx (va_P_l hP) 0 2 rfl rfl) rfl rfl hl.1 rfl (lv_room (Nat.le_of_ble_eq_true rfl)) dL_law_1012 ⟨Nat.le_of_ble_eq_true rfl, Nat.le_of_ble_eq_true rfl⟩) ?_
  refine lv_aload_n hx hb dL_law_1015 rfl (lv_at hl 2 rfl) ?_
  refine ro_l (va_runV ⟨hx, hb, hml, hown, hts⟩ (c_X3_digest l ) (cwV 0 hts gL_law_X3_digest rfl rfl rfl ⟨rfl, kd_X3_digest⟩ ⟨Nat.le_of_ble_eq_true rfl, Nat.le_of_ble_eq_true rfl⟩) (preV1 hnw hKy (va_P_r hP) 0 3 rfl rfl) rfl rfl hl.1 rfl (lv_room (Nat.le_of_ble_eq_true rfl)) dL_law_1016 ⟨Nat.le_of_ble_eq_true rfl, Nat.le_of_ble_eq_true rfl⟩) ?_
  refine W.lcmp hx hb dL_law_1019 ?_
  exact lv_if_eq (tgt := 1025) hx hb dL_law_1020 (by decide) (fun _ => kk q d sN cN ms mv mw _ _ _ _ _ _ _ _ _ ⟨h3, h6, hd, hs1, hs2, hc, hst, hnu⟩ H locs hP hS ls hl) (fun cz => absurd ((lg_cmp_eq _ _).mpr ((by rw [pw_cl h6]; exact digest_eq (pw_le h6) hst _ _ _ _ _ _))) cz)
