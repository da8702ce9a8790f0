set_option maxHeartbeats 4000000 in
set_option maxRecDepth 100000 in
theorem lk_length {p : Program} {l : Launch} {e : Env} {s : State} {m : MethodId} {below : List Frame} {meth : Method} {c : Code} {dC : Nat → ClassId} {dI : Nat → Nat → Nat} {b L : Nat} {xs : Nat → Int32} {ax ay : Nat → Nat} {cI cJ cK cL : ClassId} {iq : Nat} (C0 : lw_At p s m meth c b L xs) (hL : L ≤ 3072) (hi : iq + 6 ≤ L) (hnw : nw s) (hKx : va_K (dC, dI) vwCl (tyw cI cJ) s) (hKy : va_K (dC, dI) vwCl (tyw cK cL) s) (hD0 : va_D (fun q : Nat => s.heap.size ≤ q) (zw ax ay cI cJ cK cL 0 0 0 0 0 0 0 (fun _ => 0) (fun _ => 0) (fun _ => 0) (fun _ => 0) (fun _ => 0) 0 0 (fun _ => 0) (fun _ => 0))) (kk : LK p l e s m below meth c (dC, dI) b ax ay cI cJ cK cL iq 1025) : LK p l e s m below meth c (dC, dI) b ax ay cI cJ cK cL iq 144 := by
  obtain ⟨hx, hb, hr, hml, hown, hts0, hX, hbl, hlocks, hgv⟩ := C0
  have hown : s.vm.findClass RL = some m.cls := hown
  have hts : ∀ w ∈ wsL_law, w.before #[Value.ref b] s = true := fun w h => hts0 w (wsL_in w h)
  have hA : ∀ q : Nat, s.heap.size ≤ q → (fun q : Nat => s.heap.size ≤ q) q := fun _ h => h
  have hbA : ¬ (fun q : Nat => s.heap.size ≤ q) b := Nat.not_le.mpr hbl
  intro q d sN cN ms mv mw st fr sr pa nu pu pl fi ot I H locs hP hS ls hl
  obtain ⟨h3, h6, hd, hs1, hs2, hc, hst, hnu⟩ := I
  refine lv_aload_n hx hb dL_law_144 rfl (lv_at hl 1 rfl) ?_
  refine lv_aload_n hx hb dL_law_145 rfl (lv_at hl 0 rfl) ?_
  refine lv_iload_n hx hb dL_law_146 rfl (lv_at hl 3 rfl) ?_
  refine lv_iconst (v := 1) hx hb dL_law_147 (by decide) ?_
  refine lv_iadd hx hb dL_law_148 ?_
  refine va_sld hx hb hX hbl hbA hS (scr_in (k := 1) hi (by omega) hL) dL_law_149 ?_
  refine st_i (v := xs (iq + 1)) (scr_at (k := 1) hi (by omega) hL xs) ?_
  have hP : va_P (dC, dI) vwCl (xw ax cI cJ (nI (2 ^ q)) (nI q) (nI d) (nI sN) ms (nI cN) mv mw st fr sr pa nu ++ yw ay cK cL (nI (2 ^ q)) (nI d) (nI sN) ms (nI cN) mv mw pu pl st fi ot nu) H := hP
  have hD : va_D (fun q : Nat => s.heap.size ≤ q) (xw ax cI cJ (nI (2 ^ q)) (nI q) (nI d) (nI sN) ms (nI cN) mv mw st fr sr pa nu ++ yw ay cK cL (nI (2 ^ q)) (nI d) (nI sN) ms (nI cN) mv mw pu pl st fi ot nu) := va_D_addr hD0 rfl
  refine wx_i (va_runV ⟨hx, hb, hml, hown, hts⟩ (c_X2_length l ) (cwV 1 hts gL_law_X2_length rfl rfl rfl ⟨rfl, kd_X2_length⟩ ⟨Nat.le_of_ble_eq_true rfl, Nat.le_of_ble_eq_true rfl⟩) (preV2 hnw hKx (va_P_l hP) (va_D_l hD) 0 2 rfl rfl) rfl rfl hl.1 rfl (lv_room (Nat.le_of_ble_eq_true rfl)) dL_law_150 ⟨Nat.le_of_ble_eq_true rfl, Nat.le_of_ble_eq_true rfl⟩) hP hD hS hA (fun r1 u1 H locs e1 hP hS => ?_)
  have hP : va_P (dC, dI) vwCl (xw ax cI cJ (o_length (nI (2 ^ q)) (nI q) st (xs (iq + 1))).2.1 (o_length (nI (2 ^ q)) (nI q) st (xs (iq + 1))).2.2.1 (nI d) (nI sN) ms (nI cN) mv mw (o_length (nI (2 ^ q)) (nI q) st (xs (iq + 1))).2.2.2 fr sr pa nu ++ yw ay cK cL (nI (2 ^ q)) (nI d) (nI sN) ms (nI cN) mv mw pu pl st fi ot nu) H := hP
  have hD : va_D (fun q : Nat => s.heap.size ≤ q) (xw ax cI cJ (o_length (nI (2 ^ q)) (nI q) st (xs (iq + 1))).2.1 (o_length (nI (2 ^ q)) (nI q) st (xs (iq + 1))).2.2.1 (nI d) (nI sN) ms (nI cN) mv mw (o_length (nI (2 ^ q)) (nI q) st (xs (iq + 1))).2.2.2 fr sr pa nu ++ yw ay cK cL (nI (2 ^ q)) (nI d) (nI sN) ms (nI cN) mv mw pu pl st fi ot nu) := va_D_addr hD0 rfl
  refine lv_aload_n hx hb dL_law_153 rfl (lv_at hl 2 rfl) ?_
  refine lv_aload_n hx hb dL_law_154 rfl (lv_at hl 0 rfl) ?_
  refine lv_iload_n hx hb dL_law_155 rfl (lv_at hl 3 rfl) ?_
  refine lv_iconst (v := 1) hx hb dL_law_156 (by decide) ?_
  refine lv_iadd hx hb dL_law_157 ?_
  refine va_sld hx hb hX hbl hbA hS (scr_in (k := 1) hi (by omega) hL) dL_law_158 ?_
  refine st_i (v := xs (iq + 1)) (scr_at (k := 1) hi (by omega) hL xs) ?_
  refine wy_i (va_runV ⟨hx, hb, hml, hown, hts⟩ (c_X3_length l ) (cwV 1 hts gL_law_X3_length rfl rfl rfl ⟨rfl, kd_X3_length⟩ ⟨Nat.le_of_ble_eq_true rfl, Nat.le_of_ble_eq_true rfl⟩) (preV2 hnw hKy (va_P_r hP) (va_D_r hD) 0 3 rfl rfl) rfl rfl hl.1 rfl (lv_room (Nat.le_of_ble_eq_true rfl)) dL_law_159 ⟨Nat.le_of_ble_eq_true rfl, Nat.le_of_ble_eq_true rfl⟩) hP hD hS hA (fun r2 u2 H locs e2 hP hS => ?_)
  have hP : va_P (dC, dI) vwCl (xw ax cI cJ (o_length (nI (2 ^ q)) (nI q) st (xs (iq + 1))).2.1 (o_length (nI (2 ^ q)) (nI q) st (xs (iq + 1))).2.2.1 (nI d) (nI sN) ms (nI cN) mv mw (o_length (nI (2 ^ q)) (nI q) st (xs (iq + 1))).2.2.2 fr sr pa nu ++ yw ay cK cL (p_length (nI (2 ^ q)) st (xs (iq + 1))).2.1 (nI d) (nI sN) ms (nI cN) mv mw pu pl (p_length (nI (2 ^ q)) st (xs (iq + 1))).2.2 fi ot nu) H := hP
  have hD : va_D (fun q : Nat => s.heap.size ≤ q) (xw ax cI cJ (o_length (nI (2 ^ q)) (nI q) st (xs (iq + 1))).2.1 (o_length (nI (2 ^ q)) (nI q) st (xs (iq + 1))).2.2.1 (nI d) (nI sN) ms (nI cN) mv mw (o_length (nI (2 ^ q)) (nI q) st (xs (iq + 1))).2.2.2 fr sr pa nu ++ yw ay cK cL (p_length (nI (2 ^ q)) st (xs (iq + 1))).2.1 (nI d) (nI sN) ms (nI cN) mv mw pu pl (p_length (nI (2 ^ q)) st (xs (iq + 1))).2.2 fi ot nu) := va_D_addr hD0 rfl
  obtain ⟨q2, k1, k2, k3, k4, k5⟩ := length_ok h3 h6 hst (xs (iq + 1))
  obtain ⟨l1, l2, l3⟩ := length_fg (nI (2 ^ q)) (nI q) st (xs (iq + 1))
  rw [l2, l3, k3, k4] at hP
  rw [l1] at e2
  exact lv_icmp_eq (tgt := 1025) hx hb dL_law_162 (by decide) (fun _ => kk q2 d sN cN ms mv mw _ _ _ _ _ _ _ _ _ ⟨k1, k2, hd, hs1, hs2, hc, k5, hnu⟩ H locs hP hS ls hl) (fun cz => absurd (e1.trans e2.symm) cz)
set_option maxHeartbeats 4000000 in
set_option maxRecDepth 100000 in
theorem lk_source {p : Program} {l : Launch} {e : Env} {s : State} {m : MethodId} {below : List Frame} {meth : Method} {c : Code} {dC : Nat → ClassId} {dI : Nat → Nat → Nat} {b L : Nat} {xs : Nat → Int32} {ax ay : Nat → Nat} {cI cJ cK cL : ClassId} {iq : Nat} (C0 : lw_At p s m meth c b L xs) (hL : L ≤ 3072) (hi : iq + 6 ≤ L) (hnw : nw s) (hKx : va_K (dC, dI) vwCl (tyw cI cJ) s) (hKy : va_K (dC, dI) vwCl (tyw cK cL) s) (hD0 : va_D (fun q : Nat => s.heap.size ≤ q) (zw ax ay cI cJ cK cL 0 0 0 0 0 0 0 (fun _ => 0) (fun _ => 0) (fun _ => 0) (fun _ => 0) (fun _ => 0) 0 0 (fun _ => 0) (fun _ => 0))) (kk : LK p l e s m below meth c (dC, dI) b ax ay cI cJ cK cL iq 1025) : LK p l e s m below meth c (dC, dI) b ax ay cI cJ cK cL iq 167 := by
  obtain ⟨hx, hb, hr, hml, hown, hts0, hX, hbl, hlocks, hgv⟩ := C0
  have hown : s.vm.findClass RL = some m.cls := hown
  have hts : ∀ w ∈ wsL_law, w.before #[Value.ref b] s = true := fun w h => hts0 w (wsL_in w h)
  have hA : ∀ q : Nat, s.heap.size ≤ q → (fun q : Nat => s.heap.size ≤ q) q := fun _ h => h
  have hbA : ¬ (fun q : Nat => s.heap.size ≤ q) b := Nat.not_le.mpr hbl
  intro q d sN cN ms mv mw st fr sr pa nu pu pl fi ot I H locs hP hS ls hl
  obtain ⟨h3, h6, hd, hs1, hs2, hc, hst, hnu⟩ := I
  refine lv_aload_n hx hb dL_law_167 rfl (lv_at hl 1 rfl) ?_
  refine lv_aload_n hx hb dL_law_168 rfl (lv_at hl 0 rfl) ?_
  refine lv_iload_n hx hb dL_law_169 rfl (lv_at hl 3 rfl) ?_
  refine lv_iconst (v := 1) hx hb dL_law_170 (by decide) ?_
  refine lv_iadd hx hb dL_law_171 ?_
  refine va_sld hx hb hX hbl hbA hS (scr_in (k := 1) hi (by omega) hL) dL_law_172 ?_
  refine st_i (v := xs (iq + 1)) (scr_at (k := 1) hi (by omega) hL xs) ?_
  refine lv_aload_n hx hb dL_law_173 rfl (lv_at hl 0 rfl) ?_
  refine lv_iload_n hx hb dL_law_174 rfl (lv_at hl 3 rfl) ?_
  refine lv_iconst (v := 2) hx hb dL_law_175 (by decide) ?_
  refine lv_iadd hx hb dL_law_176 ?_
  refine va_sld hx hb hX hbl hbA hS (scr_in (k := 2) hi (by omega) hL) dL_law_177 ?_
  refine st_i (v := xs (iq + 2)) (scr_at (k := 2) hi (by omega) hL xs) ?_
  refine lv_aload_n hx hb dL_law_178 rfl (lv_at hl 0 rfl) ?_
  refine lv_iload_n hx hb dL_law_179 rfl (lv_at hl 3 rfl) ?_
  refine lv_iconst (v := 3) hx hb dL_law_180 (by decide) ?_
  refine lv_iadd hx hb dL_law_181 ?_
  refine va_sld hx hb hX hbl hbA hS (scr_in (k := 3) hi (by omega) hL) dL_law_182 ?_
  refine st_i (v := xs (iq + 3)) (scr_at (k := 3) hi (by omega) hL xs) ?_
  have hP : va_P (dC, dI) vwCl (xw ax cI cJ (nI (2 ^ q)) (nI q) (nI d) (nI sN) ms (nI cN) mv mw st fr sr pa nu ++ yw ay cK cL (nI (2 ^ q)) (nI d) (nI sN) ms (nI cN) mv mw pu pl st fi ot nu) H := hP
  have hD : va_D (fun q : Nat => s.heap.size ≤ q) (xw ax cI cJ (nI (2 ^ q)) (nI q) (nI d) (nI sN) ms (nI cN) mv mw st fr sr pa nu ++ yw ay cK cL (nI (2 ^ q)) (nI d) (nI sN) ms (nI cN) mv mw pu pl st fi ot nu) := va_D_addr hD0 rfl
  refine wx_i (va_runV ⟨hx, hb, hml, hown, hts⟩ (c_X2_source l ) (cwV 3 hts gL_law_X2_source rfl rfl rfl ⟨rfl, kd_X2_source⟩ ⟨Nat.le_of_ble_eq_true rfl, Nat.le_of_ble_eq_true rfl⟩) (preV2 hnw hKx (va_P_l hP) (va_D_l hD) 0 2 rfl rfl) rfl rfl hl.1 rfl (lv_room (Nat.le_of_ble_eq_true rfl)) dL_law_183 ⟨Nat.le_of_ble_eq_true rfl, Nat.le_of_ble_eq_true rfl⟩) hP hD hS hA (fun r1 u1 H locs e1 hP hS => ?_)
  have hP : va_P (dC, dI) vwCl (xw ax cI cJ (nI (2 ^ q)) (nI q) (nI d) (nI sN) ms (nI cN) mv mw (o_source (nI (2 ^ q)) (nI q) st (xs (iq + 1)) (xs (iq + 2)) (xs (iq + 3))).2 fr sr pa nu ++ yw ay cK cL (nI (2 ^ q)) (nI d) (nI sN) ms (nI cN) mv mw pu pl st fi ot nu) H := hP
  have hD : va_D (fun q : Nat => s.heap.size ≤ q) (xw ax cI cJ (nI (2 ^ q)) (nI q) (nI d) (nI sN) ms (nI cN) mv mw (o_source (nI (2 ^ q)) (nI q) st (xs (iq + 1)) (xs (iq + 2)) (xs (iq + 3))).2 fr sr pa nu ++ yw ay cK cL (nI (2 ^ q)) (nI d) (nI sN) ms (nI cN) mv mw pu pl st fi ot nu) := va_D_addr hD0 rfl
  refine lv_aload_n hx hb dL_law_186 rfl (lv_at hl 2 rfl) ?_
  refine lv_aload_n hx hb dL_law_187 rfl (lv_at hl 0 rfl) ?_
  refine lv_iload_n hx hb dL_law_188 rfl (lv_at hl 3 rfl) ?_
  refine lv_iconst (v := 1) hx hb dL_law_189 (by decide) ?_
  refine lv_iadd hx hb dL_law_190 ?_
  refine va_sld hx hb hX hbl hbA hS (scr_in (k := 1) hi (by omega) hL) dL_law_191 ?_
  refine st_i (v := xs (iq + 1)) (scr_at (k := 1) hi (by omega) hL xs) ?_
  refine lv_aload_n hx hb dL_law_192 rfl (lv_at hl 0 rfl) ?_
  refine lv_iload_n hx hb dL_law_193 rfl (lv_at hl 3 rfl) ?_
  refine lv_iconst (v := 2) hx hb dL_law_194 (by decide) ?_
  refine lv_iadd hx hb dL_law_195 ?_
  refine va_sld hx hb hX hbl hbA hS (scr_in (k := 2) hi (by omega) hL) dL_law_196 ?_
  refine st_i (v := xs (iq + 2)) (scr_at (k := 2) hi (by omega) hL xs) ?_
  refine lv_aload_n hx hb dL_law_197 rfl (lv_at hl 0 rfl) ?_
  refine lv_iload_n hx hb dL_law_198 rfl (lv_at hl 3 rfl) ?_
  refine lv_iconst (v := 3) hx hb dL_law_199 (by decide) ?_
  refine lv_iadd hx hb dL_law_200 ?_
  refine va_sld hx hb hX hbl hbA hS (scr_in (k := 3) hi (by omega) hL) dL_law_201 ?_
  refine st_i (v := xs (iq + 3)) (scr_at (k := 3) hi (by omega) hL xs) ?_
  refine wy_i (va_runV ⟨hx, hb, hml, hown, hts⟩ (c_X3_source l h6) (cwV 3 hts gL_law_X3_source rfl rfl rfl ⟨rfl, kd_X3_source⟩ ⟨Nat.le_of_ble_eq_true rfl, Nat.le_of_ble_eq_true rfl⟩) (preV2 hnw hKy (va_P_r hP) (va_D_r hD) 0 3 rfl rfl) rfl rfl hl.1 rfl (lv_room (Nat.le_of_ble_eq_true rfl)) dL_law_202 ⟨Nat.le_of_ble_eq_true rfl, Nat.le_of_ble_eq_true rfl⟩) hP hD hS hA (fun r2 u2 H locs e2 hP hS => ?_)
  have hP : va_P (dC, dI) vwCl (xw ax cI cJ (nI (2 ^ q)) (nI q) (nI d) (nI sN) ms (nI cN) mv mw (o_source (nI (2 ^ q)) (nI q) st (xs (iq + 1)) (xs (iq + 2)) (xs (iq + 3))).2 fr sr pa nu ++ yw ay cK cL (nI (2 ^ q)) (nI d) (nI sN) ms (nI cN) mv mw pu pl (p_source q st (xs (iq + 1)) (xs (iq + 2)) (xs (iq + 3))).2 fi ot nu) H := hP
  have hD : va_D (fun q : Nat => s.heap.size ≤ q) (xw ax cI cJ (nI (2 ^ q)) (nI q) (nI d) (nI sN) ms (nI cN) mv mw (o_source (nI (2 ^ q)) (nI q) st (xs (iq + 1)) (xs (iq + 2)) (xs (iq + 3))).2 fr sr pa nu ++ yw ay cK cL (nI (2 ^ q)) (nI d) (nI sN) ms (nI cN) mv mw pu pl (p_source q st (xs (iq + 1)) (xs (iq + 2)) (xs (iq + 3))).2 fi ot nu) := va_D_addr hD0 rfl
  rw [← source_eq h3 h6] at hP e2
  exact lv_icmp_eq (tgt := 1025) hx hb dL_law_205 (by decide) (fun _ => kk q d sN cN ms mv mw _ _ _ _ _ _ _ _ _ ⟨h3, h6, hd, hs1, hs2, hc, source_ok h6 hst _ _ _ _, hnu⟩ H locs hP hS ls hl) (fun cz => absurd (e1.trans e2.symm) cz)
set_option maxHeartbeats 4000000 in
set_option maxRecDepth 100000 in
theorem lk_put {p : Program} {l : Launch} {e : Env} {s : State} {m : MethodId} {below : List Frame} {meth : Method} {c : Code} {dC : Nat → ClassId} {dI : Nat → Nat → Nat} {b L : Nat} {xs : Nat → Int32} {ax ay : Nat → Nat} {cI cJ cK cL : ClassId} {iq : Nat} (C0 : lw_At p s m meth c b L xs) (hL : L ≤ 3072) (hi : iq + 6 ≤ L) (hnw : nw s) (hKx : va_K (dC, dI) vwCl (tyw cI cJ) s) (hKy : va_K (dC, dI) vwCl (tyw cK cL) s) (hD0 : va_D (fun q : Nat => s.heap.size ≤ q) (zw ax ay cI cJ cK cL 0 0 0 0 0 0 0 (fun _ => 0) (fun _ => 0) (fun _ => 0) (fun _ => 0) (fun _ => 0) 0 0 (fun _ => 0) (fun _ => 0))) (kk : LK p l e s m below meth c (dC, dI) b ax ay cI cJ cK cL iq 1025) : LK p l e s m below meth c (dC, dI) b ax ay cI cJ cK cL iq 210 := by
  obtain ⟨hx, hb, hr, hml, hown, hts0, hX, hbl, hlocks, hgv⟩ := C0
  have hown : s.vm.findClass RL = some m.cls := hown
  have hts : ∀ w ∈ wsL_law, w.before #[Value.ref b] s = true := fun w h => hts0 w (wsL_in w h)
  have hA : ∀ q : Nat, s.heap.size ≤ q → (fun q : Nat => s.heap.size ≤ q) q := fun _ h => h
  have hbA : ¬ (fun q : Nat => s.heap.size ≤ q) b := Nat.not_le.mpr hbl
  intro q d sN cN ms mv mw st fr sr pa nu pu pl fi ot I H locs hP hS ls hl
  obtain ⟨h3, h6, hd, hs1, hs2, hc, hst, hnu⟩ := I
  refine lv_aload_n hx hb dL_law_210 rfl (lv_at hl 1 rfl) ?_
  refine lv_aload_n hx hb dL_law_211 rfl (lv_at hl 0 rfl) ?_
  refine lv_iload_n hx hb dL_law_212 rfl (lv_at hl 3 rfl) ?_
  refine lv_iconst (v := 1) hx hb dL_law_213 (by decide) ?_
  refine lv_iadd hx hb dL_law_214 ?_
  refine va_sld hx hb hX hbl hbA hS (scr_in (k := 1) hi (by omega) hL) dL_law_215 ?_
  refine st_i (v := xs (iq + 1)) (scr_at (k := 1) hi (by omega) hL xs) ?_
  refine lv_aload_n hx hb dL_law_216 rfl (lv_at hl 0 rfl) ?_
  refine lv_iload_n hx hb dL_law_217 rfl (lv_at hl 3 rfl) ?_
  refine lv_iconst (v := 2) hx hb dL_law_218 (by decide) ?_
  refine lv_iadd hx hb dL_law_219 ?_
  refine va_sld hx hb hX hbl hbA hS (scr_in (k := 2) hi (by omega) hL) dL_law_220 ?_
  refine st_i (v := xs (iq + 2)) (scr_at (k := 2) hi (by omega) hL xs) ?_
  refine lv_aload_n hx hb dL_law_221 rfl (lv_at hl 0 rfl) ?_
  refine lv_iload_n hx hb dL_law_222 rfl (lv_at hl 3 rfl) ?_
  refine lv_iconst (v := 3) hx hb dL_law_223 (by decide) ?_
  refine lv_iadd hx hb dL_law_224 ?_
  refine va_sld hx hb hX hbl hbA hS (scr_in (k := 3) hi (by omega) hL) dL_law_225 ?_
  refine st_i (v := xs (iq + 3)) (scr_at (k := 3) hi (by omega) hL xs) ?_
  refine lv_if_eq (tgt := 233) hx hb dL_law_226 (by decide) (fun c_226 => ?_) (fun c_226 => ?_)
  · skip
    refine lv_iconst (v := 0) hx hb dL_law_233 (by decide) ?_
    have hP : va_P (dC, dI) vwCl (xw ax cI cJ (nI (2 ^ q)) (nI q) (nI d) (nI sN) ms (nI cN) mv mw st fr sr pa nu ++ yw ay cK cL (nI (2 ^ q)) (nI d) (nI sN) ms (nI cN) mv mw pu pl st fi ot nu) H := hP
    have hD : va_D (fun q : Nat => s.heap.size ≤ q) (xw ax cI cJ (nI (2 ^ q)) (nI q) (nI d) (nI sN) ms (nI cN) mv mw st fr sr pa nu ++ yw ay cK cL (nI (2 ^ q)) (nI d) (nI sN) ms (nI cN) mv mw pu pl st fi ot nu) := va_D_addr hD0 rfl
    refine wx_i (va_runV ⟨hx, hb, hml, hown, hts⟩ (c_X2_put l ) (cwV 3 hts gL_law_X2_put rfl rfl rfl ⟨rfl, kd_X2_put⟩ ⟨Nat.le_of_ble_eq_true rfl, Nat.le_of_ble_eq_true rfl⟩) (preV2 hnw hKx (va_P_l hP) (va_D_l hD) 0 2 rfl rfl) rfl rfl hl.1 rfl (lv_room (Nat.le_of_ble_eq_true rfl)) dL_law_234 ⟨Nat.le_of_ble_eq_true rfl, Nat.le_of_ble_eq_true rfl⟩) hP hD hS hA (fun r1 u1 H locs e1 hP hS => ?_)
    have hP : va_P (dC, dI) vwCl (xw ax cI cJ (nI (2 ^ q)) (nI q) (nI d) (nI sN) ms (nI cN) mv mw (o_put (nI (2 ^ q)) st (xs (iq + 1)) (xs (iq + 2)) 0).2 fr sr pa nu ++ yw ay cK cL (nI (2 ^ q)) (nI d) (nI sN) ms (nI cN) mv mw pu pl st fi ot nu) H := hP
    have hD : va_D (fun q : Nat => s.heap.size ≤ q) (xw ax cI cJ (nI (2 ^ q)) (nI q) (nI d) (nI sN) ms (nI cN) mv mw (o_put (nI (2 ^ q)) st (xs (iq + 1)) (xs (iq + 2)) 0).2 fr sr pa nu ++ yw ay cK cL (nI (2 ^ q)) (nI d) (nI sN) ms (nI cN) mv mw pu pl st fi ot nu) := va_D_addr hD0 rfl
    refine lv_aload_n hx hb dL_law_237 rfl (lv_at hl 2 rfl) ?_
    refine lv_aload_n hx hb dL_law_238 rfl (lv_at hl 0 rfl) ?_
    refine lv_iload_n hx hb dL_law_239 rfl (lv_at hl 3 rfl) ?_
    refine lv_iconst (v := 1) hx hb dL_law_240 (by decide) ?_
    refine lv_iadd hx hb dL_law_241 ?_
    refine va_sld hx hb hX hbl hbA hS (scr_in (k := 1) hi (by omega) hL) dL_law_242 ?_
    refine st_i (v := xs (iq + 1)) (scr_at (k := 1) hi (by omega) hL xs) ?_
    refine lv_aload_n hx hb dL_law_243 rfl (lv_at hl 0 rfl) ?_
    refine lv_iload_n hx hb dL_law_244 rfl (lv_at hl 3 rfl) ?_
    refine lv_iconst (v := 2) hx hb dL_law_245 (by decide) ?_
    refine lv_iadd hx hb dL_law_246 ?_
    refine va_sld hx hb hX hbl hbA hS (scr_in (k := 2) hi (by omega) hL) dL_law_247 ?_
    refine st_i (v := xs (iq + 2)) (scr_at (k := 2) hi (by omega) hL xs) ?_
    refine lv_aload_n hx hb dL_law_248 rfl (lv_at hl 0 rfl) ?_
    refine lv_iload_n hx hb dL_law_249 rfl (lv_at hl 3 rfl) ?_
    refine lv_iconst (v := 3) hx hb dL_law_250 (by decide) ?_
    refine lv_iadd hx hb dL_law_251 ?_
    refine va_sld hx hb hX hbl hbA hS (scr_in (k := 3) hi (by omega) hL) dL_law_252 ?_
    refine st_i (v := xs (iq + 3)) (scr_at (k := 3) hi (by omega) hL xs) ?_
    refine lv_if_eq (tgt := 260) hx hb dL_law_253 (by decide) (fun c_253 => ?_) (fun c_253 => ?_)
    · skip
      refine lv_iconst (v := 0) hx hb dL_law_260 (by decide) ?_
      refine wy_i (va_runV ⟨hx, hb, hml, hown, hts⟩ (c_X3_put l ) (cwV 3 hts gL_law_X3_put rfl rfl rfl ⟨rfl, kd_X3_put⟩ ⟨Nat.le_of_ble_eq_true rfl, Nat.le_of_ble_eq_true rfl⟩) (preV2 hnw hKy (va_P_r hP) (va_D_r hD) 0 3 rfl rfl) rfl rfl hl.1 rfl (lv_room (Nat.le_of_ble_eq_true rfl)) dL_law_261 ⟨Nat.le_of_ble_eq_true rfl, Nat.le_of_ble_eq_true rfl⟩) hP hD hS hA (fun r2 u2 H locs e2 hP hS => ?_)
      have hP : va_P (dC, dI) vwCl (xw ax cI cJ (nI (2 ^ q)) (nI q) (nI d) (nI sN) ms (nI cN) mv mw (o_put (nI (2 ^ q)) st (xs (iq + 1)) (xs (iq + 2)) 0).2 fr sr pa nu ++ yw ay cK cL (nI (2 ^ q)) (nI d) (nI sN) ms (nI cN) mv mw pu pl (p_put (nI (2 ^ q)) st (xs (iq + 1)) (xs (iq + 2)) 0).2 fi ot nu) H := hP
      have hD : va_D (fun q : Nat => s.heap.size ≤ q) (xw ax cI cJ (nI (2 ^ q)) (nI q) (nI d) (nI sN) ms (nI cN) mv mw (o_put (nI (2 ^ q)) st (xs (iq + 1)) (xs (iq + 2)) 0).2 fr sr pa nu ++ yw ay cK cL (nI (2 ^ q)) (nI d) (nI sN) ms (nI cN) mv mw pu pl (p_put (nI (2 ^ q)) st (xs (iq + 1)) (xs (iq + 2)) 0).2 fi ot nu) := va_D_addr hD0 rfl
      rw [← put_eq] at hP e2
      exact lv_icmp_eq (tgt := 1025) hx hb dL_law_264 (by decide) (fun _ => kk q d sN cN ms mv mw _ _ _ _ _ _ _ _ _ ⟨h3, h6, hd, hs1, hs2, hc, put_ok h6 hst _ _ _, hnu⟩ H locs hP hS ls hl) (fun cz => absurd (e1.trans e2.symm) cz)
    · skip
      exact absurd c_226 c_253
  · skip
    refine lv_iconst (v := 1) hx hb dL_law_229 (by decide) ?_
    refine lv_goto (tgt := 234) hx hb dL_law_230 (by decide) ?_
    have hP : va_P (dC, dI) vwCl (xw ax cI cJ (nI (2 ^ q)) (nI q) (nI d) (nI sN) ms (nI cN) mv mw st fr sr pa nu ++ yw ay cK cL (nI (2 ^ q)) (nI d) (nI sN) ms (nI cN) mv mw pu pl st fi ot nu) H := hP
    have hD : va_D (fun q : Nat => s.heap.size ≤ q) (xw ax cI cJ (nI (2 ^ q)) (nI q) (nI d) (nI sN) ms (nI cN) mv mw st fr sr pa nu ++ yw ay cK cL (nI (2 ^ q)) (nI d) (nI sN) ms (nI cN) mv mw pu pl st fi ot nu) := va_D_addr hD0 rfl
    refine wx_i (va_runV ⟨hx, hb, hml, hown, hts⟩ (c_X2_put l ) (cwV 3 hts gL_law_X2_put rfl rfl rfl ⟨rfl, kd_X2_put⟩ ⟨Nat.le_of_ble_eq_true rfl, Nat.le_of_ble_eq_true rfl⟩) (preV2 hnw hKx (va_P_l hP) (va_D_l hD) 0 2 rfl rfl) rfl rfl hl.1 rfl (lv_room (Nat.le_of_ble_eq_true rfl)) dL_law_234 ⟨Nat.le_of_ble_eq_true rfl, Nat.le_of_ble_eq_true rfl⟩) hP hD hS hA (fun r1 u1 H locs e1 hP hS => ?_)
    have hP : va_P (dC, dI) vwCl (xw ax cI cJ (nI (2 ^ q)) (nI q) (nI d) (nI sN) ms (nI cN) mv mw (o_put (nI (2 ^ q)) st (xs (iq + 1)) (xs (iq + 2)) 1).2 fr sr pa nu ++ yw ay cK cL (nI (2 ^ q)) (nI d) (nI sN) ms (nI cN) mv mw pu pl st fi ot nu) H := hP
    have hD : va_D (fun q : Nat => s.heap.size ≤ q) (xw ax cI cJ (nI (2 ^ q)) (nI q) (nI d) (nI sN) ms (nI cN) mv mw (o_put (nI (2 ^ q)) st (xs (iq + 1)) (xs (iq + 2)) 1).2 fr sr pa nu ++ yw ay cK cL (nI (2 ^ q)) (nI d) (nI sN) ms (nI cN) mv mw pu pl st fi ot nu) := va_D_addr hD0 rfl
    refine lv_aload_n hx hb dL_law_237 rfl (lv_at hl 2 rfl) ?_
    refine lv_aload_n hx hb dL_law_238 rfl (lv_at hl 0 rfl) ?_
    refine lv_iload_n hx hb dL_law_239 rfl (lv_at hl 3 rfl) ?_
    refine lv_iconst (v := 1) hx hb dL_law_240 (by decide) ?_
    refine lv_iadd hx hb dL_law_241 ?_
    refine va_sld hx hb hX hbl hbA hS (scr_in (k := 1) hi (by omega) hL) dL_law_242 ?_
    refine st_i (v := xs (iq + 1)) (scr_at (k := 1) hi (by omega) hL xs) ?_
    refine lv_aload_n hx hb dL_law_243 rfl (lv_at hl 0 rfl) ?_
    refine lv_iload_n hx hb dL_law_244 rfl (lv_at hl 3 rfl) ?_
    refine lv_iconst (v := 2) hx hb dL_law_245 (by decide) ?_
    refine lv_iadd hx hb dL_law_246 ?_
    refine va_sld hx hb hX hbl hbA hS (scr_in (k := 2) hi (by omega) hL) dL_law_247 ?_
    refine st_i (v := xs (iq + 2)) (scr_at (k := 2) hi (by omega) hL xs) ?_
    refine lv_aload_n hx hb dL_law_248 rfl (lv_at hl 0 rfl) ?_
    refine lv_iload_n hx hb dL_law_249 rfl (lv_at hl 3 rfl) ?_
    refine lv_iconst (v := 3) hx hb dL_law_250 (by decide) ?_
    refine lv_iadd hx hb dL_law_251 ?_
    refine va_sld hx hb hX hbl hbA hS (scr_in (k := 3) hi (by omega) hL) dL_law_252 ?_
    refine st_i (v := xs (iq + 3)) (scr_at (k := 3) hi (by omega) hL xs) ?_
    refine lv_if_eq (tgt := 260) hx hb dL_law_253 (by decide) (fun c_253 => ?_) (fun c_253 => ?_)
    · skip
      exact absurd c_253 c_226
    · skip
      refine lv_iconst (v := 1) hx hb dL_law_256 (by decide) ?_
      refine lv_goto (tgt := 261) hx hb dL_law_257 (by decide) ?_
      refine wy_i (va_runV ⟨hx, hb, hml, hown, hts⟩ (c_X3_put l ) (cwV 3 hts gL_law_X3_put rfl rfl rfl ⟨rfl, kd_X3_put⟩ ⟨Nat.le_of_ble_eq_true rfl, Nat.le_of_ble_eq_true rfl⟩) (preV2 hnw hKy (va_P_r hP) (va_D_r hD) 0 3 rfl rfl) rfl rfl hl.1 rfl (lv_room (Nat.le_of_ble_eq_true rfl)) dL_law_261 ⟨Nat.le_of_ble_eq_true rfl, Nat.le_of_ble_eq_true rfl⟩) hP hD hS hA (fun r2 u2 H locs e2 hP hS => ?_)
      have hP : va_P (dC, dI) vwCl (xw ax cI cJ (nI (2 ^ q)) (nI q) (nI d) (nI sN) ms (nI cN) mv mw (o_put (nI (2 ^ q)) st (xs (iq + 1)) (xs (iq + 2)) 1).2 fr sr pa nu ++ yw ay cK cL (nI (2 ^ q)) (nI d) (nI sN) ms (nI cN) mv mw pu pl (p_put (nI (2 ^ q)) st (xs (iq + 1)) (xs (iq + 2)) 1).2 fi ot nu) H := hP
      have hD : va_D (fun q : Nat => s.heap.size ≤ q) (xw ax cI cJ (nI (2 ^ q)) (nI q) (nI d) (nI sN) ms (nI cN) mv mw (o_put (nI (2 ^ q)) st (xs (iq + 1)) (xs (iq + 2)) 1).2 fr sr pa nu ++ yw ay cK cL (nI (2 ^ q)) (nI d) (nI sN) ms (nI cN) mv mw pu pl (p_put (nI (2 ^ q)) st (xs (iq + 1)) (xs (iq + 2)) 1).2 fi ot nu) := va_D_addr hD0 rfl
      rw [← put_eq] at hP e2
      exact lv_icmp_eq (tgt := 1025) hx hb dL_law_264 (by decide) (fun _ => kk q d sN cN ms mv mw _ _ _ _ _ _ _ _ _ ⟨h3, h6, hd, hs1, hs2, hc, put_ok h6 hst _ _ _, hnu⟩ H locs hP hS ls hl) (fun cz => absurd (e1.trans e2.symm) cz)
set_option maxHeartbeats 4000000 in
set_option maxRecDepth 100000 in
theorem lk_bit {p : Program} {l : Launch} {e : Env} {s : State} {m : MethodId} {below : List Frame} {meth : Method} {c : Code} {dC : Nat → ClassId} {dI : Nat → Nat → Nat} {b L : Nat} {xs : Nat → Int32} {ax ay : Nat → Nat} {cI cJ cK cL : ClassId} {iq : Nat} (C0 : lw_At p s m meth c b L xs) (hL : L ≤ 3072) (hi : iq + 6 ≤ L) (hnw : nw s) (hKx : va_K (dC, dI) vwCl (tyw cI cJ) s) (hKy : va_K (dC, dI) vwCl (tyw cK cL) s) (hD0 : va_D (fun q : Nat => s.heap.size ≤ q) (zw ax ay cI cJ cK cL 0 0 0 0 0 0 0 (fun _ => 0) (fun _ => 0) (fun _ => 0) (fun _ => 0) (fun _ => 0) 0 0 (fun _ => 0) (fun _ => 0))) (kk : LK p l e s m below meth c (dC, dI) b ax ay cI cJ cK cL iq 1025) : LK p l e s m below meth c (dC, dI) b ax ay cI cJ cK cL iq 269 := by
  obtain ⟨hx, hb, hr, hml, hown, hts0, hX, hbl, hlocks, hgv⟩ := C0
  have hown : s.vm.findClass RL = some m.cls := hown
  have hts : ∀ w ∈ wsL_law, w.before #[Value.ref b] s = true := fun w h => hts0 w (wsL_in w h)
  have hA : ∀ q : Nat, s.heap.size ≤ q → (fun q : Nat => s.heap.size ≤ q) q := fun _ h => h
  have hbA : ¬ (fun q : Nat => s.heap.size ≤ q) b := Nat.not_le.mpr hbl
  intro q d sN cN ms mv mw st fr sr pa nu pu pl fi ot I H locs hP hS ls hl
  obtain ⟨h3, h6, hd, hs1, hs2, hc, hst, hnu⟩ := I
  refine lv_aload_n hx hb dL_law_269 rfl (lv_at hl 1 rfl) ?_
  refine lv_aload_n hx hb dL_law_270 rfl (lv_at hl 0 rfl) ?_
  refine lv_iload_n hx hb dL_law_271 rfl (lv_at hl 3 rfl) ?_
  refine lv_iconst (v := 1) hx hb dL_law_272 (by decide) ?_
  refine lv_iadd hx hb dL_law_273 ?_
  refine va_sld hx hb hX hbl hbA hS (scr_in (k := 1) hi (by omega) hL) dL_law_274 ?_
  refine st_i (v := xs (iq + 1)) (scr_at (k := 1) hi (by omega) hL xs) ?_
  refine lv_aload_n hx hb dL_law_275 rfl (lv_at hl 0 rfl) ?_
  refine lv_iload_n hx hb dL_law_276 rfl (lv_at hl 3 rfl) ?_
  refine lv_iconst (v := 2) hx hb dL_law_277 (by decide) ?_
  refine lv_iadd hx hb dL_law_278 ?_
  refine va_sld hx hb hX hbl hbA hS (scr_in (k := 2) hi (by omega) hL) dL_law_279 ?_
  refine st_i (v := xs (iq + 2)) (scr_at (k := 2) hi (by omega) hL xs) ?_
  have hP : va_P (dC, dI) vwCl (xw ax cI cJ (nI (2 ^ q)) (nI q) (nI d) (nI sN) ms (nI cN) mv mw st fr sr pa nu ++ yw ay cK cL (nI (2 ^ q)) (nI d) (nI sN) ms (nI cN) mv mw pu pl st fi ot nu) H := hP
  have hD : va_D (fun q : Nat => s.heap.size ≤ q) (xw ax cI cJ (nI (2 ^ q)) (nI q) (nI d) (nI sN) ms (nI cN) mv mw st fr sr pa nu ++ yw ay cK cL (nI (2 ^ q)) (nI d) (nI sN) ms (nI cN) mv mw pu pl st fi ot nu) := va_D_addr hD0 rfl
  refine ro_i (va_runV ⟨hx, hb, hml, hown, hts⟩ (c_X2_bit l ) (cwV 2 hts gL_law_X2_bit rfl rfl rfl ⟨rfl, kd_X2_bit⟩ ⟨Nat.le_of_ble_eq_true rfl, Nat.le_of_ble_eq_true rfl⟩) (preV1 hnw hKx (va_P_l hP) 0 2 rfl rfl) rfl rfl hl.1 rfl (lv_room (Nat.le_of_ble_eq_true rfl)) dL_law_280 ⟨Nat.le_of_ble_eq_true rfl, Nat.le_of_ble_eq_true rfl⟩) ?_
  refine lv_aload_n hx hb dL_law_283 rfl (lv_at hl 2 rfl) ?_
  refine lv_aload_n hx hb dL_law_284 rfl (lv_at hl 0 rfl) ?_
  refine lv_iload_n hx hb dL_law_285 rfl (lv_at hl 3 rfl) ?_
  refine lv_iconst (v := 1) hx hb dL_law_286 (by decide) ?_
  refine lv_iadd hx hb dL_law_287 ?_
  refine va_sld hx hb hX hbl hbA hS (scr_in (k := 1) hi (by omega) hL) dL_law_288 ?_
  refine st_i (v := xs (iq + 1)) (scr_at (k := 1) hi (by omega) hL xs) ?_
  refine lv_aload_n hx hb dL_law_289 rfl (lv_at hl 0 rfl) ?_
  refine lv_iload_n hx hb dL_law_290 rfl (lv_at hl 3 rfl) ?_
  refine lv_iconst (v := 2) hx hb dL_law_291 (by decide) ?_
  refine lv_iadd hx hb dL_law_292 ?_
  refine va_sld hx hb hX hbl hbA hS (scr_in (k := 2) hi (by omega) hL) dL_law_293 ?_
  refine st_i (v := xs (iq + 2)) (scr_at (k := 2) hi (by omega) hL xs) ?_
  refine ro_i (va_runV ⟨hx, hb, hml, hown, hts⟩ (c_X3_bit l ) (cwV 2 hts gL_law_X3_bit rfl rfl rfl ⟨rfl, kd_X3_bit⟩ ⟨Nat.le_of_ble_eq_true rfl, Nat.le_of_ble_eq_true rfl⟩) (preV1 hnw hKy (va_P_r hP) 0 3 rfl rfl) rfl rfl hl.1 rfl (lv_room (Nat.le_of_ble_eq_true rfl)) dL_law_294 ⟨Nat.le_of_ble_eq_true rfl, Nat.le_of_ble_eq_true rfl⟩) ?_
  exact lv_icmp_eq (tgt := 1025) hx hb dL_law_297 (by decide) (fun _ => kk q d sN cN ms mv mw _ _ _ _ _ _ _ _ _ ⟨h3, h6, hd, hs1, hs2, hc, hst, hnu⟩ H locs hP hS ls hl) (fun cz => absurd (bit_eq _ _ _ _) cz)
set_option maxHeartbeats 4000000 in
set_option maxRecDepth 100000 in
theorem lk_ones {p : Program} {l : Launch} {e : Env} {s : State} {m : MethodId} {below : List Frame} {meth : Method} {c : Code} {dC : Nat → ClassId} {dI : Nat → Nat → Nat} {b L : Nat} {xs : Nat → Int32} {ax ay : Nat → Nat} {cI cJ cK cL : ClassId} {iq : Nat} (C0 : lw_At p s m meth c b L xs) (hL : L ≤ 3072) (hi : iq + 6 ≤ L) (hnw : nw s) (hKx : va_K (dC, dI) vwCl (tyw cI cJ) s) (hKy : va_K (dC, dI) vwCl (tyw cK cL) s) (hD0 : va_D (fun q : Nat => s.heap.size ≤ q) (zw ax ay cI cJ cK cL 0 0 0 0 0 0 0 (fun _ => 0) (fun _ => 0) (fun _ => 0) (fun _ => 0) (fun _ => 0) 0 0 (fun _ => 0) (fun _ => 0))) (kk : LK p l e s m below meth c (dC, dI) b ax ay cI cJ cK cL iq 1025) : LK p l e s m below meth c (dC, dI) b ax ay cI cJ cK cL iq 302 := by
  obtain ⟨hx, hb, hr, hml, hown, hts0, hX, hbl, hlocks, hgv⟩ := C0
  have hown : s.vm.findClass RL = some m.cls := hown
  have hts : ∀ w ∈ wsL_law, w.before #[Value.ref b] s = true := fun w h => hts0 w (wsL_in w h)
  have hA : ∀ q : Nat, s.heap.size ≤ q → (fun q : Nat => s.heap.size ≤ q) q := fun _ h => h
  have hbA : ¬ (fun q : Nat => s.heap.size ≤ q) b := Nat.not_le.mpr hbl
  intro q d sN cN ms mv mw st fr sr pa nu pu pl fi ot I H locs hP hS ls hl
  obtain ⟨h3, h6, hd, hs1, hs2, hc, hst, hnu⟩ := I
  refine lv_aload_n hx hb dL_law_302 rfl (lv_at hl 1 rfl) ?_
  refine lv_aload_n hx hb dL_law_303 rfl (lv_at hl 0 rfl) ?_
  refine lv_iload_n hx hb dL_law_304 rfl (lv_at hl 3 rfl) ?_
  refine lv_iconst (v := 1) hx hb dL_law_305 (by decide) ?_
  refine lv_iadd hx hb dL_law_306 ?_
  refine va_sld hx hb hX hbl hbA hS (scr_in (k := 1) hi (by omega) hL) dL_law_307 ?_
  refine st_i (v := xs (iq + 1)) (scr_at (k := 1) hi (by omega) hL xs) ?_
  have hP : va_P (dC, dI) vwCl (xw ax cI cJ (nI (2 ^ q)) (nI q) (nI d) (nI sN) ms (nI cN) mv mw st fr sr pa nu ++ yw ay cK cL (nI (2 ^ q)) (nI d) (nI sN) ms (nI cN) mv mw pu pl st fi ot nu) H := hP
  have hD : va_D (fun q : Nat => s.heap.size ≤ q) (xw ax cI cJ (nI (2 ^ q)) (nI q) (nI d) (nI sN) ms (nI cN) mv mw st fr sr pa nu ++ yw ay cK cL (nI (2 ^ q)) (nI d) (nI sN) ms (nI cN) mv mw pu pl st fi ot nu) := va_D_addr hD0 rfl
  refine ro_i (va_runV ⟨hx, hb, hml, hown, hts⟩ (c_X2_ones l ) (cwV 1 hts gL_law_X2_ones rfl rfl rfl ⟨rfl, kd_X2_ones⟩ ⟨Nat.le_of_ble_eq_true rfl, Nat.le_of_ble_eq_true rfl⟩) (preV1 hnw hKx (va_P_l hP) 0 2 rfl rfl) rfl rfl hl.1 rfl (lv_room (Nat.le_of_ble_eq_true rfl)) dL_law_308 ⟨Nat.le_of_ble_eq_true rfl, Nat.le_of_ble_eq_true rfl⟩) ?_
  refine lv_aload_n hx hb dL_law_311 rfl (lv_at hl 2 rfl) ?_
  refine lv_aload_n hx hb dL_law_312 rfl (lv_at hl 0 rfl) ?_
  refine lv_iload_n hx hb dL_law_313 rfl (lv_at hl 3 rfl) ?_
  refine lv_iconst (v := 1) hx hb dL_law_314 (by decide) ?_
  refine lv_iadd hx hb dL_law_315 ?_
  refine va_sld hx hb hX hbl hbA hS (scr_in (k := 1) hi (by omega) hL) dL_law_316 ?_
  refine st_i (v := xs (iq + 1)) (scr_at (k := 1) hi (by omega) hL xs) ?_
  refine ro_i (va_runV ⟨hx, hb, hml, hown, hts⟩ (c_X3_ones l ) (cwV 1 hts gL_law_X3_ones rfl rfl rfl ⟨rfl, kd_X3_ones⟩ ⟨Nat.le_of_ble_eq_true rfl, Nat.le_of_ble_eq_true rfl⟩) (preV1 hnw hKy (va_P_r hP) 0 3 rfl rfl) rfl rfl hl.1 rfl (lv_room (Nat.le_of_ble_eq_true rfl)) dL_law_317 ⟨Nat.le_of_ble_eq_true rfl, Nat.le_of_ble_eq_true rfl⟩) ?_
  exact lv_icmp_eq (tgt := 1025) hx hb dL_law_320 (by decide) (fun _ => kk q d sN cN ms mv mw _ _ _ _ _ _ _ _ _ ⟨h3, h6, hd, hs1, hs2, hc, hst, hnu⟩ H locs hP hS ls hl) (fun cz => absurd ((by rw [pw_cl h6]; exact ones_fg h6 hst _)) cz)
set_option maxHeartbeats 4000000 in
set_option maxRecDepth 100000 in
theorem lk_gate {p : Program} {l : Launch} {e : Env} {s : State} {m : MethodId} {below : List Frame} {meth : Method} {c : Code} {dC : Nat → ClassId} {dI : Nat → Nat → Nat} {b L : Nat} {xs : Nat → Int32} {ax ay : Nat → Nat} {cI cJ cK cL : ClassId} {iq : Nat} (C0 : lw_At p s m meth c b L xs) (hL : L ≤ 3072) (hi : iq + 6 ≤ L) (hnw : nw s) (hKx : va_K (dC, dI) vwCl (tyw cI cJ) s) (hKy : va_K (dC, dI) vwCl (tyw cK cL) s) (hD0 : va_D (fun q : Nat => s.heap.size ≤ q) (zw ax ay cI cJ cK cL 0 0 0 0 0 0 0 (fun _ => 0) (fun _ => 0) (fun _ => 0) (fun _ => 0) (fun _ => 0) 0 0 (fun _ => 0) (fun _ => 0))) (kk : LK p l e s m below meth c (dC, dI) b ax ay cI cJ cK cL iq 1025) : LK p l e s m below meth c (dC, dI) b ax ay cI cJ cK cL iq 325 := by
  obtain ⟨hx, hb, hr, hml, hown, hts0, hX, hbl, hlocks, hgv⟩ := C0
  have hown : s.vm.findClass RL = some m.cls := hown
  have hts : ∀ w ∈ wsL_law, w.before #[Value.ref b] s = true := fun w h => hts0 w (wsL_in w h)
  have hA : ∀ q : Nat, s.heap.size ≤ q → (fun q : Nat => s.heap.size ≤ q) q := fun _ h => h
  have hbA : ¬ (fun q : Nat => s.heap.size ≤ q) b := Nat.not_le.mpr hbl
  intro q d sN cN ms mv mw st fr sr pa nu pu pl fi ot I H locs hP hS ls hl
  obtain ⟨h3, h6, hd, hs1, hs2, hc, hst, hnu⟩ := I
  refine lv_aload_n hx hb dL_law_325 rfl (lv_at hl 1 rfl) ?_
  refine lv_aload_n hx hb dL_law_326 rfl (lv_at hl 0 rfl) ?_
  refine lv_iload_n hx hb dL_law_327 rfl (lv_at hl 3 rfl) ?_
  refine lv_iconst (v := 1) hx hb dL_law_328 (by decide) ?_
  refine lv_iadd hx hb dL_law_329 ?_
  refine va_sld hx hb hX hbl hbA hS (scr_in (k := 1) hi (by omega) hL) dL_law_330 ?_
  refine st_i (v := xs (iq + 1)) (scr_at (k := 1) hi (by omega) hL xs) ?_
  refine lv_aload_n hx hb dL_law_331 rfl (lv_at hl 0 rfl) ?_
  refine lv_iload_n hx hb dL_law_332 rfl (lv_at hl 3 rfl) ?_
  refine lv_iconst (v := 2) hx hb dL_law_333 (by decide) ?_
  refine lv_iadd hx hb dL_law_334 ?_
  refine va_sld hx hb hX hbl hbA hS (scr_in (k := 2) hi (by omega) hL) dL_law_335 ?_
  refine st_i (v := xs (iq + 2)) (scr_at (k := 2) hi (by omega) hL xs) ?_
  refine lv_aload_n hx hb dL_law_336 rfl (lv_at hl 0 rfl) ?_
  refine lv_iload_n hx hb dL_law_337 rfl (lv_at hl 3 rfl) ?_
  refine lv_iconst (v := 3) hx hb dL_law_338 (by decide) ?_
  refine lv_iadd hx hb dL_law_339 ?_
  refine va_sld hx hb hX hbl hbA hS (scr_in (k := 3) hi (by omega) hL) dL_law_340 ?_
  refine st_i (v := xs (iq + 3)) (scr_at (k := 3) hi (by omega) hL xs) ?_
  refine lv_aload_n hx hb dL_law_341 rfl (lv_at hl 0 rfl) ?_
  refine lv_iload_n hx hb dL_law_342 rfl (lv_at hl 3 rfl) ?_
  refine lv_iconst (v := 4) hx hb dL_law_343 (by decide) ?_
  refine lv_iadd hx hb dL_law_344 ?_
  refine va_sld hx hb hX hbl hbA hS (scr_in (k := 4) hi (by omega) hL) dL_law_345 ?_
  refine st_i (v := xs (iq + 4)) (scr_at (k := 4) hi (by omega) hL xs) ?_
  refine lv_aload_n hx hb dL_law_346 rfl (lv_at hl 0 rfl) ?_
  refine lv_iload_n hx hb dL_law_347 rfl (lv_at hl 3 rfl) ?_
  refine lv_iconst (v := 5) hx hb dL_law_348 (by decide) ?_
  refine lv_iadd hx hb dL_law_349 ?_
  refine va_sld hx hb hX hbl hbA hS (scr_in (k := 5) hi (by omega) hL) dL_law_350 ?_
  refine st_i (v := xs (iq + 5)) (scr_at (k := 5) hi (by omega) hL xs) ?_
  have hP : va_P (dC, dI) vwCl (xw ax cI cJ (nI (2 ^ q)) (nI q) (nI d) (nI sN) ms (nI cN) mv mw st fr sr pa nu ++ yw ay cK cL (nI (2 ^ q)) (nI d) (nI sN) ms (nI cN) mv mw pu pl st fi ot nu) H := hP
  have hD : va_D (fun q : Nat => s.heap.size ≤ q) (xw ax cI cJ (nI (2 ^ q)) (nI q) (nI d) (nI sN) ms (nI cN) mv mw st fr sr pa nu ++ yw ay cK cL (nI (2 ^ q)) (nI d) (nI sN) ms (nI cN) mv mw pu pl st fi ot nu) := va_D_addr hD0 rfl
  refine wx_i (va_runV ⟨hx, hb, hml, hown, hts⟩ (c_X2_gate l ) (cwV 5 hts gL_law_X2_gate rfl rfl rfl ⟨rfl, kd_X2_gate⟩ ⟨Nat.le_of_ble_eq_true rfl, Nat.le_of_ble_eq_true rfl⟩) (preV2 hnw hKx (va_P_l hP) (va_D_l hD) 0 2 rfl rfl) rfl rfl hl.1 rfl (lv_room (Nat.le_of_ble_eq_true rfl)) dL_law_351 ⟨Nat.le_of_ble_eq_true rfl, Nat.le_of_ble_eq_true rfl⟩) hP hD hS hA (fun r1 u1 H locs e1 hP hS => ?_)
  have hP : va_P (dC, dI) vwCl (xw ax cI cJ (nI (2 ^ q)) (nI q) (nI d) (nI sN) ms (nI cN) mv mw (o_gate (nI (2 ^ q)) st (xs (iq + 1)) (xs (iq + 2)) (xs (iq + 3)) (xs (iq + 4)) (xs (iq + 5))).2 fr sr pa nu ++ yw ay cK cL (nI (2 ^ q)) (nI d) (nI sN) ms (nI cN) mv mw pu pl st fi ot nu) H := hP
  have hD : va_D (fun q : Nat => s.heap.size ≤ q) (xw ax cI cJ (nI (2 ^ q)) (nI q) (nI d) (nI sN) ms (nI cN) mv mw (o_gate (nI (2 ^ q)) st (xs (iq + 1)) (xs (iq + 2)) (xs (iq + 3)) (xs (iq + 4)) (xs (iq + 5))).2 fr sr pa nu ++ yw ay cK cL (nI (2 ^ q)) (nI d) (nI sN) ms (nI cN) mv mw pu pl st fi ot nu) := va_D_addr hD0 rfl
  refine lv_aload_n hx hb dL_law_354 rfl (lv_at hl 2 rfl) ?_
  refine lv_aload_n hx hb dL_law_355 rfl (lv_at hl 0 rfl) ?_
  refine lv_iload_n hx hb dL_law_356 rfl (lv_at hl 3 rfl) ?_
  refine lv_iconst (v := 1) hx hb dL_law_357 (by decide) ?_
  refine lv_iadd hx hb dL_law_358 ?_
  refine va_sld hx hb hX hbl hbA hS (scr_in (k := 1) hi (by omega) hL) dL_law_359 ?_
  refine st_i (v := xs (iq + 1)) (scr_at (k := 1) hi (by omega) hL xs) ?_
  refine lv_aload_n hx hb dL_law_360 rfl (lv_at hl 0 rfl) ?_
  refine lv_iload_n hx hb dL_law_361 rfl (lv_at hl 3 rfl) ?_
  refine lv_iconst (v := 2) hx hb dL_law_362 (by decide) ?_
  refine lv_iadd hx hb dL_law_363 ?_
  refine va_sld hx hb hX hbl hbA hS (scr_in (k := 2) hi (by omega) hL) dL_law_364 ?_
  refine st_i (v := xs (iq + 2)) (scr_at (k := 2) hi (by omega) hL xs) ?_
  refine lv_aload_n hx hb dL_law_365 rfl (lv_at hl 0 rfl) ?_
  refine lv_iload_n hx hb dL_law_366 rfl (lv_at hl 3 rfl) ?_
  refine lv_iconst (v := 3) hx hb dL_law_367 (by decide) ?_
  refine lv_iadd hx hb dL_law_368 ?_
  refine va_sld hx hb hX hbl hbA hS (scr_in (k := 3) hi (by omega) hL) dL_law_369 ?_
  refine st_i (v := xs (iq + 3)) (scr_at (k := 3) hi (by omega) hL xs) ?_
  refine lv_aload_n hx hb dL_law_370 rfl (lv_at hl 0 rfl) ?_
  refine lv_iload_n hx hb dL_law_371 rfl (lv_at hl 3 rfl) ?_
  refine lv_iconst (v := 4) hx hb dL_law_372 (by decide) ?_
  refine lv_iadd hx hb dL_law_373 ?_
  refine va_sld hx hb hX hbl hbA hS (scr_in (k := 4) hi (by omega) hL) dL_law_374 ?_
  refine st_i (v := xs (iq + 4)) (scr_at (k := 4) hi (by omega) hL xs) ?_
  refine lv_aload_n hx hb dL_law_375 rfl (lv_at hl 0 rfl) ?_
  refine lv_iload_n hx hb dL_law_376 rfl (lv_at hl 3 rfl) ?_
  refine lv_iconst (v := 5) hx hb dL_law_377 (by decide) ?_
  refine lv_iadd hx hb dL_law_378 ?_
  refine va_sld hx hb hX hbl hbA hS (scr_in (k := 5) hi (by omega) hL) dL_law_379 ?_
  refine st_i (v := xs (iq + 5)) (scr_at (k := 5) hi (by omega) hL xs) ?_
  refine wy_i (va_runV ⟨hx, hb, hml, hown, hts⟩ (c_X3_gate l ) (cwV 5 hts gL_law_X3_gate rfl rfl rfl ⟨rfl, kd_X3_gate⟩ ⟨Nat.le_of_ble_eq_true rfl, Nat.le_of_ble_eq_true rfl⟩) (preV2 hnw hKy (va_P_r hP) (va_D_r hD) 0 3 rfl rfl) rfl rfl hl.1 rfl (lv_room (Nat.le_of_ble_eq_true rfl)) dL_law_380 ⟨Nat.le_of_ble_eq_true rfl, Nat.le_of_ble_eq_true rfl⟩) hP hD hS hA (fun r2 u2 H locs e2 hP hS => ?_)
  have hP : va_P (dC, dI) vwCl (xw ax cI cJ (nI (2 ^ q)) (nI q) (nI d) (nI sN) ms (nI cN) mv mw (o_gate (nI (2 ^ q)) st (xs (iq + 1)) (xs (iq + 2)) (xs (iq + 3)) (xs (iq + 4)) (xs (iq + 5))).2 fr sr pa nu ++ yw ay cK cL (nI (2 ^ q)) (nI d) (nI sN) ms (nI cN) mv mw pu pl (p_gate (nI (2 ^ q)).toNatClampNeg st (xs (iq + 1)) (xs (iq + 2)) (xs (iq + 3)) (xs (iq + 4)) (xs (iq + 5))).2 fi ot nu) H := hP
  have hD : va_D (fun q : Nat => s.heap.size ≤ q) (xw ax cI cJ (nI (2 ^ q)) (nI q) (nI d) (nI sN) ms (nI cN) mv mw (o_gate (nI (2 ^ q)) st (xs (iq + 1)) (xs (iq + 2)) (xs (iq + 3)) (xs (iq + 4)) (xs (iq + 5))).2 fr sr pa nu ++ yw ay cK cL (nI (2 ^ q)) (nI d) (nI sN) ms (nI cN) mv mw pu pl (p_gate (nI (2 ^ q)).toNatClampNeg st (xs (iq + 1)) (xs (iq + 2)) (xs (iq + 3)) (xs (iq + 4)) (xs (iq + 5))).2 fi ot nu) := va_D_addr hD0 rfl
  rw [pw_cl h6] at hP e2
  rw [← gate_fg h6] at hP e2
  exact lv_icmp_eq (tgt := 1025) hx hb dL_law_383 (by decide) (fun _ => kk q d sN cN ms mv mw _ _ _ _ _ _ _ _ _ ⟨h3, h6, hd, hs1, hs2, hc, gate_ok h6 hst _ _ _ _ _, hnu⟩ H locs hP hS ls hl) (fun cz => absurd (e1.trans e2.symm) cz)
set_option maxHeartbeats 4000000 in
set_option maxRecDepth 100000 in
theorem lk_not {p : Program} {l : Launch} {e : Env} {s : State} {m : MethodId} {below : List Frame} {meth : Method} {c : Code} {dC : Nat → ClassId} {dI : Nat → Nat → Nat} {b L : Nat} {xs : Nat → Int32} {ax ay : Nat → Nat} {cI cJ cK cL : ClassId} {iq : Nat} (C0 : lw_At p s m meth c b L xs) (hL : L ≤ 3072) (hi : iq + 6 ≤ L) (hnw : nw s) (hKx : va_K (dC, dI) vwCl (tyw cI cJ) s) (hKy : va_K (dC, dI) vwCl (tyw cK cL) s) (hD0 : va_D (fun q : Nat => s.heap.size ≤ q) (zw ax ay cI cJ cK cL 0 0 0 0 0 0 0 (fun _ => 0) (fun _ => 0) (fun _ => 0) (fun _ => 0) (fun _ => 0) 0 0 (fun _ => 0) (fun _ => 0))) (kk : LK p l e s m below meth c (dC, dI) b ax ay cI cJ cK cL iq 1025) : LK p l e s m below meth c (dC, dI) b ax ay cI cJ cK cL iq 388 := by
  obtain ⟨hx, hb, hr, hml, hown, hts0, hX, hbl, hlocks, hgv⟩ := C0
  have hown : s.vm.findClass RL = some m.cls := hown
  have hts : ∀ w ∈ wsL_law, w.before #[Value.ref b] s = true := fun w h => hts0 w (wsL_in w h)
  have hA : ∀ q : Nat, s.heap.size ≤ q → (fun q : Nat => s.heap.size ≤ q) q := fun _ h => h
  have hbA : ¬ (fun q : Nat => s.heap.size ≤ q) b := Nat.not_le.mpr hbl
  intro q d sN cN ms mv mw st fr sr pa nu pu pl fi ot I H locs hP hS ls hl
  obtain ⟨h3, h6, hd, hs1, hs2, hc, hst, hnu⟩ := I
  refine lv_aload_n hx hb dL_law_388 rfl (lv_at hl 1 rfl) ?_
  refine lv_aload_n hx hb dL_law_389 rfl (lv_at hl 0 rfl) ?_
  refine lv_iload_n hx hb dL_law_390 rfl (lv_at hl 3 rfl) ?_
  refine lv_iconst (v := 1) hx hb dL_law_391 (by decide) ?_
  refine lv_iadd hx hb dL_law_392 ?_
  refine va_sld hx hb hX hbl hbA hS (scr_in (k := 1) hi (by omega) hL) dL_law_393 ?_
  refine st_i (v := xs (iq + 1)) (scr_at (k := 1) hi (by omega) hL xs) ?_
  refine lv_aload_n hx hb dL_law_394 rfl (lv_at hl 0 rfl) ?_
  refine lv_iload_n hx hb dL_law_395 rfl (lv_at hl 3 rfl) ?_
  refine lv_iconst (v := 2) hx hb dL_law_396 (by decide) ?_
  refine lv_iadd hx hb dL_law_397 ?_
  refine va_sld hx hb hX hbl hbA hS (scr_in (k := 2) hi (by omega) hL) dL_law_398 ?_
  refine st_i (v := xs (iq + 2)) (scr_at (k := 2) hi (by omega) hL xs) ?_
  have hP : va_P (dC, dI) vwCl (xw ax cI cJ (nI (2 ^ q)) (nI q) (nI d) (nI sN) ms (nI cN) mv mw st fr sr pa nu ++ yw ay cK cL (nI (2 ^ q)) (nI d) (nI sN) ms (nI cN) mv mw pu pl st fi ot nu) H := hP
  have hD : va_D (fun q : Nat => s.heap.size ≤ q) (xw ax cI cJ (nI (2 ^ q)) (nI q) (nI d) (nI sN) ms (nI cN) mv mw st fr sr pa nu ++ yw ay cK cL (nI (2 ^ q)) (nI d) (nI sN) ms (nI cN) mv mw pu pl st fi ot nu) := va_D_addr hD0 rfl
  refine wx_i (va_runV ⟨hx, hb, hml, hown, hts⟩ (c_X2_not l ) (cwV 2 hts gL_law_X2_not rfl rfl rfl ⟨rfl, kd_X2_not⟩ ⟨Nat.le_of_ble_eq_true rfl, Nat.le_of_ble_eq_true rfl⟩) (preV2 hnw hKx (va_P_l hP) (va_D_l hD) 0 2 rfl rfl) rfl rfl hl.1 rfl (lv_room (Nat.le_of_ble_eq_true rfl)) dL_law_399 ⟨Nat.le_of_ble_eq_true rfl, Nat.le_of_ble_eq_true rfl⟩) hP hD hS hA (fun r1 u1 H locs e1 hP hS => ?_)
  have hP : va_P (dC, dI) vwCl (xw ax cI cJ (nI (2 ^ q)) (nI q) (nI d) (nI sN) ms (nI cN) mv mw (o_not (nI (2 ^ q)) st (xs (iq + 1)) (xs (iq + 2))).2 fr sr pa nu ++ yw ay cK cL (nI (2 ^ q)) (nI d) (nI sN) ms (nI cN) mv mw pu pl st fi ot nu) H := hP
  have hD : va_D (fun q : Nat => s.heap.size ≤ q) (xw ax cI cJ (nI (2 ^ q)) (nI q) (nI d) (nI sN) ms (nI cN) mv mw (o_not (nI (2 ^ q)) st (xs (iq + 1)) (xs (iq + 2))).2 fr sr pa nu ++ yw ay cK cL (nI (2 ^ q)) (nI d) (nI sN) ms (nI cN) mv mw pu pl st fi ot nu) := va_D_addr hD0 rfl
  refine lv_aload_n hx hb dL_law_402 rfl (lv_at hl 2 rfl) ?_
  refine lv_aload_n hx hb dL_law_403 rfl (lv_at hl 0 rfl) ?_
  refine lv_iload_n hx hb dL_law_404 rfl (lv_at hl 3 rfl) ?_
  refine lv_iconst (v := 1) hx hb dL_law_405 (by decide) ?_
  refine lv_iadd hx hb dL_law_406 ?_
  refine va_sld hx hb hX hbl hbA hS (scr_in (k := 1) hi (by omega) hL) dL_law_407 ?_
  refine st_i (v := xs (iq + 1)) (scr_at (k := 1) hi (by omega) hL xs) ?_
  refine lv_aload_n hx hb dL_law_408 rfl (lv_at hl 0 rfl) ?_
  refine lv_iload_n hx hb dL_law_409 rfl (lv_at hl 3 rfl) ?_
  refine lv_iconst (v := 2) hx hb dL_law_410 (by decide) ?_
  refine lv_iadd hx hb dL_law_411 ?_
  refine va_sld hx hb hX hbl hbA hS (scr_in (k := 2) hi (by omega) hL) dL_law_412 ?_
  refine st_i (v := xs (iq + 2)) (scr_at (k := 2) hi (by omega) hL xs) ?_
  refine wy_i (va_runV ⟨hx, hb, hml, hown, hts⟩ (c_X3_not l ) (cwV 2 hts gL_law_X3_not rfl rfl rfl ⟨rfl, kd_X3_not⟩ ⟨Nat.le_of_ble_eq_true rfl, Nat.le_of_ble_eq_true rfl⟩) (preV2 hnw hKy (va_P_r hP) (va_D_r hD) 0 3 rfl rfl) rfl rfl hl.1 rfl (lv_room (Nat.le_of_ble_eq_true rfl)) dL_law_413 ⟨Nat.le_of_ble_eq_true rfl, Nat.le_of_ble_eq_true rfl⟩) hP hD hS hA (fun r2 u2 H locs e2 hP hS => ?_)
  have hP : va_P (dC, dI) vwCl (xw ax cI cJ (nI (2 ^ q)) (nI q) (nI d) (nI sN) ms (nI cN) mv mw (o_not (nI (2 ^ q)) st (xs (iq + 1)) (xs (iq + 2))).2 fr sr pa nu ++ yw ay cK cL (nI (2 ^ q)) (nI d) (nI sN) ms (nI cN) mv mw pu pl (p_not (nI (2 ^ q)).toNatClampNeg st (xs (iq + 1)) (xs (iq + 2))).2 fi ot nu) H := hP
  have hD : va_D (fun q : Nat => s.heap.size ≤ q) (xw ax cI cJ (nI (2 ^ q)) (nI q) (nI d) (nI sN) ms (nI cN) mv mw (o_not (nI (2 ^ q)) st (xs (iq + 1)) (xs (iq + 2))).2 fr sr pa nu ++ yw ay cK cL (nI (2 ^ q)) (nI d) (nI sN) ms (nI cN) mv mw pu pl (p_not (nI (2 ^ q)).toNatClampNeg st (xs (iq + 1)) (xs (iq + 2))).2 fi ot nu) := va_D_addr hD0 rfl
  rw [pw_cl h6] at hP e2
  rw [← not_fg h6] at hP e2
  exact lv_icmp_eq (tgt := 1025) hx hb dL_law_416 (by decide) (fun _ => kk q d sN cN ms mv mw _ _ _ _ _ _ _ _ _ ⟨h3, h6, hd, hs1, hs2, hc, not_ok h6 hst _ _, hnu⟩ H locs hP hS ls hl) (fun cz => absurd (e1.trans e2.symm) cz)
set_option maxHeartbeats 4000000 in
set_option maxRecDepth 100000 in
theorem lk_later {p : Program} {l : Launch} {e : Env} {s : State} {m : MethodId} {below : List Frame} {meth : Method} {c : Code} {dC : Nat → ClassId} {dI : Nat → Nat → Nat} {b L : Nat} {xs : Nat → Int32} {ax ay : Nat → Nat} {cI cJ cK cL : ClassId} {iq : Nat} (C0 : lw_At p s m meth c b L xs) (hL : L ≤ 3072) (hi : iq + 6 ≤ L) (hnw : nw s) (hKx : va_K (dC, dI) vwCl (tyw cI cJ) s) (hKy : va_K (dC, dI) vwCl (tyw cK cL) s) (hD0 : va_D (fun q : Nat => s.heap.size ≤ q) (zw ax ay cI cJ cK cL 0 0 0 0 0 0 0 (fun _ => 0) (fun _ => 0) (fun _ => 0) (fun _ => 0) (fun _ => 0) 0 0 (fun _ => 0) (fun _ => 0))) (kk : LK p l e s m below meth c (dC, dI) b ax ay cI cJ cK cL iq 1025) : LK p l e s m below meth c (dC, dI) b ax ay cI cJ cK cL iq 421 := by
  obtain ⟨hx, hb, hr, hml, hown, hts0, hX, hbl, hlocks, hgv⟩ := C0
  have hown : s.vm.findClass RL = some m.cls := hown
  have hts : ∀ w ∈ wsL_law, w.before #[Value.ref b] s = true := fun w h => hts0 w (wsL_in w h)
  have hA : ∀ q : Nat, s.heap.size ≤ q → (fun q : Nat => s.heap.size ≤ q) q := fun _ h => h
  have hbA : ¬ (fun q : Nat => s.heap.size ≤ q) b := Nat.not_le.mpr hbl
  intro q d sN cN ms mv mw st fr sr pa nu pu pl fi ot I H locs hP hS ls hl
  obtain ⟨h3, h6, hd, hs1, hs2, hc, hst, hnu⟩ := I
  refine lv_aload_n hx hb dL_law_421 rfl (lv_at hl 1 rfl) ?_
  refine lv_aload_n hx hb dL_law_422 rfl (lv_at hl 0 rfl) ?_
  refine lv_iload_n hx hb dL_law_423 rfl (lv_at hl 3 rfl) ?_
  refine lv_iconst (v := 1) hx hb dL_law_424 (by decide) ?_
  refine lv_iadd hx hb dL_law_425 ?_
  refine va_sld hx hb hX hbl hbA hS (scr_in (k := 1) hi (by omega) hL) dL_law_426 ?_
  refine st_i (v := xs (iq + 1)) (scr_at (k := 1) hi (by omega) hL xs) ?_
  refine lv_aload_n hx hb dL_law_427 rfl (lv_at hl 0 rfl) ?_
  refine lv_iload_n hx hb dL_law_428 rfl (lv_at hl 3 rfl) ?_
  refine lv_iconst (v := 2) hx hb dL_law_429 (by decide) ?_
  refine lv_iadd hx hb dL_law_430 ?_
  refine va_sld hx hb hX hbl hbA hS (scr_in (k := 2) hi (by omega) hL) dL_law_431 ?_
  refine st_i (v := xs (iq + 2)) (scr_at (k := 2) hi (by omega) hL xs) ?_
  refine lv_aload_n hx hb dL_law_432 rfl (lv_at hl 0 rfl) ?_
  refine lv_iload_n hx hb dL_law_433 rfl (lv_at hl 3 rfl) ?_
  refine lv_iconst (v := 3) hx hb dL_law_434 (by decide) ?_
  refine lv_iadd hx hb dL_law_435 ?_
  refine va_sld hx hb hX hbl hbA hS (scr_in (k := 3) hi (by omega) hL) dL_law_436 ?_
  refine st_i (v := xs (iq + 3)) (scr_at (k := 3) hi (by omega) hL xs) ?_
  have hP : va_P (dC, dI) vwCl (xw ax cI cJ (nI (2 ^ q)) (nI q) (nI d) (nI sN) ms (nI cN) mv mw st fr sr pa nu ++ yw ay cK cL (nI (2 ^ q)) (nI d) (nI sN) ms (nI cN) mv mw pu pl st fi ot nu) H := hP
  have hD : va_D (fun q : Nat => s.heap.size ≤ q) (xw ax cI cJ (nI (2 ^ q)) (nI q) (nI d) (nI sN) ms (nI cN) mv mw st fr sr pa nu ++ yw ay cK cL (nI (2 ^ q)) (nI d) (nI sN) ms (nI cN) mv mw pu pl st fi ot nu) := va_D_addr hD0 rfl
  refine wx_i (va_runV ⟨hx, hb, hml, hown, hts⟩ (c_X2_later l ) (cwV 3 hts gL_law_X2_later rfl rfl rfl ⟨rfl, kd_X2_later⟩ ⟨Nat.le_of_ble_eq_true rfl, Nat.le_of_ble_eq_true rfl⟩) (preV2 hnw hKx (va_P_l hP) (va_D_l hD) 0 2 rfl rfl) rfl rfl hl.1 rfl (lv_room (Nat.le_of_ble_eq_true rfl)) dL_law_437 ⟨Nat.le_of_ble_eq_true rfl, Nat.le_of_ble_eq_true rfl⟩) hP hD hS hA (fun r1 u1 H locs e1 hP hS => ?_)
  have hP : va_P (dC, dI) vwCl (xw ax cI cJ (nI (2 ^ q)) (nI q) (nI d) (nI sN) ms (nI cN) mv mw (o_later (nI (2 ^ q)) st (xs (iq + 1)) (xs (iq + 2)) (xs (iq + 3))).2 fr sr pa nu ++ yw ay cK cL (nI (2 ^ q)) (nI d) (nI sN) ms (nI cN) mv mw pu pl st fi ot nu) H := hP
  have hD : va_D (fun q : Nat => s.heap.size ≤ q) (xw ax cI cJ (nI (2 ^ q)) (nI q) (nI d) (nI sN) ms (nI cN) mv mw (o_later (nI (2 ^ q)) st (xs (iq + 1)) (xs (iq + 2)) (xs (iq + 3))).2 fr sr pa nu ++ yw ay cK cL (nI (2 ^ q)) (nI d) (nI sN) ms (nI cN) mv mw pu pl st fi ot nu) := va_D_addr hD0 rfl
  refine lv_aload_n hx hb dL_law_440 rfl (lv_at hl 2 rfl) ?_
  refine lv_aload_n hx hb dL_law_441 rfl (lv_at hl 0 rfl) ?_
  refine lv_iload_n hx hb dL_law_442 rfl (lv_at hl 3 rfl) ?_
  refine lv_iconst (v := 1) hx hb dL_law_443 (by decide) ?_
  refine lv_iadd hx hb dL_law_444 ?_
  refine va_sld hx hb hX hbl hbA hS (scr_in (k := 1) hi (by omega) hL) dL_law_445 ?_
  refine st_i (v := xs (iq + 1)) (scr_at (k := 1) hi (by omega) hL xs) ?_
  refine lv_aload_n hx hb dL_law_446 rfl (lv_at hl 0 rfl) ?_
  refine lv_iload_n hx hb dL_law_447 rfl (lv_at hl 3 rfl) ?_
  refine lv_iconst (v := 2) hx hb dL_law_448 (by decide) ?_
  refine lv_iadd hx hb dL_law_449 ?_
  refine va_sld hx hb hX hbl hbA hS (scr_in (k := 2) hi (by omega) hL) dL_law_450 ?_
  refine st_i (v := xs (iq + 2)) (scr_at (k := 2) hi (by omega) hL xs) ?_
  refine lv_aload_n hx hb dL_law_451 rfl (lv_at hl 0 rfl) ?_
  refine lv_iload_n hx hb dL_law_452 rfl (lv_at hl 3 rfl) ?_
  refine lv_iconst (v := 3) hx hb dL_law_453 (by decide) ?_
  refine lv_iadd hx hb dL_law_454 ?_
  refine va_sld hx hb hX hbl hbA hS (scr_in (k := 3) hi (by omega) hL) dL_law_455 ?_
  refine st_i (v := xs (iq + 3)) (scr_at (k := 3) hi (by omega) hL xs) ?_
  refine wy_i (va_runV ⟨hx, hb, hml, hown, hts⟩ (c_X3_later l (pw_ne h6)) (cwV 3 hts gL_law_X3_later rfl rfl rfl ⟨rfl, kd_X3_later⟩ ⟨Nat.le_of_ble_eq_true rfl, Nat.le_of_ble_eq_true rfl⟩) (preV2 hnw hKy (va_P_r hP) (va_D_r hD) 0 3 rfl rfl) rfl rfl hl.1 rfl (lv_room (Nat.le_of_ble_eq_true rfl)) dL_law_456 ⟨Nat.le_of_ble_eq_true rfl, Nat.le_of_ble_eq_true rfl⟩) hP hD hS hA (fun r2 u2 H locs e2 hP hS => ?_)
  have hP : va_P (dC, dI) vwCl (xw ax cI cJ (nI (2 ^ q)) (nI q) (nI d) (nI sN) ms (nI cN) mv mw (o_later (nI (2 ^ q)) st (xs (iq + 1)) (xs (iq + 2)) (xs (iq + 3))).2 fr sr pa nu ++ yw ay cK cL (nI (2 ^ q)) (nI d) (nI sN) ms (nI cN) mv mw pu pl (p_later (nI (2 ^ q)) (nI (2 ^ q)).toNatClampNeg st (xs (iq + 1)) (xs (iq + 2)) (xs (iq + 3))).2 fi ot nu) H := hP
  have hD : va_D (fun q : Nat => s.heap.size ≤ q) (xw ax cI cJ (nI (2 ^ q)) (nI q) (nI d) (nI sN) ms (nI cN) mv mw (o_later (nI (2 ^ q)) st (xs (iq + 1)) (xs (iq + 2)) (xs (iq + 3))).2 fr sr pa nu ++ yw ay cK cL (nI (2 ^ q)) (nI d) (nI sN) ms (nI cN) mv mw pu pl (p_later (nI (2 ^ q)) (nI (2 ^ q)).toNatClampNeg st (xs (iq + 1)) (xs (iq + 2)) (xs (iq + 3))).2 fi ot nu) := va_D_addr hD0 rfl
  rw [pw_cl h6] at hP e2
  rw [← later_fg h6 hst] at hP e2
  exact lv_icmp_eq (tgt := 1025) hx hb dL_law_459 (by decide) (fun _ => kk q d sN cN ms mv mw _ _ _ _ _ _ _ _ _ ⟨h3, h6, hd, hs1, hs2, hc, later_ok h6 hst _ _ _, hnu⟩ H locs hP hS ls hl) (fun cz => absurd (e1.trans e2.symm) cz)
set_option maxHeartbeats 4000000 in
set_option maxRecDepth 100000 in
theorem lk_flip {p : Program} {l : Launch} {e : Env} {s : State} {m : MethodId} {below : List Frame} {meth : Method} {c : Code} {dC : Nat → ClassId} {dI : Nat → Nat → Nat} {b L : Nat} {xs : Nat → Int32} {ax ay : Nat → Nat} {cI cJ cK cL : ClassId} {iq : Nat} (C0 : lw_At p s m meth c b L xs) (hL : L ≤ 3072) (hi : iq + 6 ≤ L) (hnw : nw s) (hKx : va_K (dC, dI) vwCl (tyw cI cJ) s) (hKy : va_K (dC, dI) vwCl (tyw cK cL) s) (hD0 : va_D (fun q : Nat => s.heap.size ≤ q) (zw ax ay cI cJ cK cL 0 0 0 0 0 0 0 (fun _ => 0) (fun _ => 0) (fun _ => 0) (fun _ => 0) (fun _ => 0) 0 0 (fun _ => 0) (fun _ => 0))) (kk : LK p l e s m below meth c (dC, dI) b ax ay cI cJ cK cL iq 1025) : LK p l e s m below meth c (dC, dI) b ax ay cI cJ cK cL iq 464 := by
  obtain ⟨hx, hb, hr, hml, hown, hts0, hX, hbl, hlocks, hgv⟩ := C0
  have hown : s.vm.findClass RL = some m.cls := hown
  have hts : ∀ w ∈ wsL_law, w.before #[Value.ref b] s = true := fun w h => hts0 w (wsL_in w h)
  have hA : ∀ q : Nat, s.heap.size ≤ q → (fun q : Nat => s.heap.size ≤ q) q := fun _ h => h
  have hbA : ¬ (fun q : Nat => s.heap.size ≤ q) b := Nat.not_le.mpr hbl
  intro q d sN cN ms mv mw st fr sr pa nu pu pl fi ot I H locs hP hS ls hl
  obtain ⟨h3, h6, hd, hs1, hs2, hc, hst, hnu⟩ := I
  refine lv_aload_n hx hb dL_law_464 rfl (lv_at hl 1 rfl) ?_
  refine lv_aload_n hx hb dL_law_465 rfl (lv_at hl 0 rfl) ?_
  refine lv_iload_n hx hb dL_law_466 rfl (lv_at hl 3 rfl) ?_
  refine lv_iconst (v := 1) hx hb dL_law_467 (by decide) ?_
  refine lv_iadd hx hb dL_law_468 ?_
  refine va_sld hx hb hX hbl hbA hS (scr_in (k := 1) hi (by omega) hL) dL_law_469 ?_
  refine st_i (v := xs (iq + 1)) (scr_at (k := 1) hi (by omega) hL xs) ?_
  refine lv_aload_n hx hb dL_law_470 rfl (lv_at hl 0 rfl) ?_
  refine lv_iload_n hx hb dL_law_471 rfl (lv_at hl 3 rfl) ?_
  refine lv_iconst (v := 2) hx hb dL_law_472 (by decide) ?_
  refine lv_iadd hx hb dL_law_473 ?_
  refine va_sld hx hb hX hbl hbA hS (scr_in (k := 2) hi (by omega) hL) dL_law_474 ?_
  refine st_i (v := xs (iq + 2)) (scr_at (k := 2) hi (by omega) hL xs) ?_
  refine lv_i2l hx hb dL_law_475 rfl ?_
  refine lv_bipush (v := 32) hx hb dL_law_476 (by decide) ?_
  refine lv_lshl hx hb dL_law_478 rfl ?_
  refine lv_aload_n hx hb dL_law_479 rfl (lv_at hl 0 rfl) ?_
  refine lv_iload_n hx hb dL_law_480 rfl (lv_at hl 3 rfl) ?_
  refine lv_iconst (v := 3) hx hb dL_law_481 (by decide) ?_
  refine lv_iadd hx hb dL_law_482 ?_
  refine va_sld hx hb hX hbl hbA hS (scr_in (k := 3) hi (by omega) hL) dL_law_483 ?_
  refine st_i (v := xs (iq + 3)) (scr_at (k := 3) hi (by omega) hL xs) ?_
  refine lv_i2l hx hb dL_law_484 rfl ?_
  refine lv_ldc2 (v := 4294967295) hx hb hown (hts (.constantLong RL 50 (4294967295)) (by decide +kernel)) dL_law_485 ?_
  refine lv_land hx hb dL_law_488 ?_
  refine lv_lor hx hb dL_law_489 ?_
  refine lv_aload_n hx hb dL_law_490 rfl (lv_at hl 0 rfl) ?_
  refine lv_iload_n hx hb dL_law_491 rfl (lv_at hl 3 rfl) ?_
  refine lv_iconst (v := 4) hx hb dL_law_492 (by decide) ?_
  refine lv_iadd hx hb dL_law_493 ?_
  refine va_sld hx hb hX hbl hbA hS (scr_in (k := 4) hi (by omega) hL) dL_law_494 ?_
  refine st_i (v := xs (iq + 4)) (scr_at (k := 4) hi (by omega) hL xs) ?_
  have hP : va_P (dC, dI) vwCl (xw ax cI cJ (nI (2 ^ q)) (nI q) (nI d) (nI sN) ms (nI cN) mv mw st fr sr pa nu ++ yw ay cK cL (nI (2 ^ q)) (nI d) (nI sN) ms (nI cN) mv mw pu pl st fi ot nu) H := hP
  have hD : va_D (fun q : Nat => s.heap.size ≤ q) (xw ax cI cJ (nI (2 ^ q)) (nI q) (nI d) (nI sN) ms (nI cN) mv mw st fr sr pa nu ++ yw ay cK cL (nI (2 ^ q)) (nI d) (nI sN) ms (nI cN) mv mw pu pl st fi ot nu) := va_D_addr hD0 rfl
  refine wx_i (va_runV ⟨hx, hb, hml, hown, hts⟩ (c_X2_flip l ) (cwV 3 hts gL_law_X2_flip rfl rfl rfl ⟨rfl, kd_X2_flip⟩ ⟨Nat.le_of_ble_eq_true rfl, Nat.le_of_ble_eq_true rfl⟩) (preV2 hnw hKx (va_P_l hP) (va_D_l hD) 0 2 rfl rfl) rfl rfl hl.1 rfl (lv_room (Nat.le_of_ble_eq_true rfl)) dL_law_495 ⟨Nat.le_of_ble_eq_true rfl, Nat.le_of_ble_eq_true rfl⟩) hP hD hS hA (fun r1 u1 H locs e1 hP hS => ?_)
  have hP : va_P (dC, dI) vwCl (xw ax cI cJ (nI (2 ^ q)) (nI q) (nI d) (nI sN) ms (nI cN) mv mw (o_flip (nI (2 ^ q)) st (xs (iq + 1)) (((xs (iq + 2)).toInt64 <<< ((32 : Int32).toInt64 &&& 63)) ||| ((xs (iq + 3)).toInt64 &&& 4294967295)) (xs (iq + 4))).2 fr sr pa nu ++ yw ay cK cL (nI (2 ^ q)) (nI d) (nI sN) ms (nI cN) mv mw pu pl st fi ot nu) H := hP
  have hD : va_D (fun q : Nat => s.heap.size ≤ q) (xw ax cI cJ (nI (2 ^ q)) (nI q) (nI d) (nI sN) ms (nI cN) mv mw (o_flip (nI (2 ^ q)) st (xs (iq + 1)) (((xs (iq + 2)).toInt64 <<< ((32 : Int32).toInt64 &&& 63)) ||| ((xs (iq + 3)).toInt64 &&& 4294967295)) (xs (iq + 4))).2 fr sr pa nu ++ yw ay cK cL (nI (2 ^ q)) (nI d) (nI sN) ms (nI cN) mv mw pu pl st fi ot nu) := va_D_addr hD0 rfl
  refine lv_aload_n hx hb dL_law_498 rfl (lv_at hl 2 rfl) ?_
  refine lv_aload_n hx hb dL_law_499 rfl (lv_at hl 0 rfl) ?_
  refine lv_iload_n hx hb dL_law_500 rfl (lv_at hl 3 rfl) ?_
  refine lv_iconst (v := 1) hx hb dL_law_501 (by decide) ?_
  refine lv_iadd hx hb dL_law_502 ?_
  refine va_sld hx hb hX hbl hbA hS (scr_in (k := 1) hi (by omega) hL) dL_law_503 ?_
  refine st_i (v := xs (iq + 1)) (scr_at (k := 1) hi (by omega) hL xs) ?_
  refine lv_aload_n hx hb dL_law_504 rfl (lv_at hl 0 rfl) ?_
  refine lv_iload_n hx hb dL_law_505 rfl (lv_at hl 3 rfl) ?_
  refine lv_iconst (v := 2) hx hb dL_law_506 (by decide) ?_
  refine lv_iadd hx hb dL_law_507 ?_
  refine va_sld hx hb hX hbl hbA hS (scr_in (k := 2) hi (by omega) hL) dL_law_508 ?_
  refine st_i (v := xs (iq + 2)) (scr_at (k := 2) hi (by omega) hL xs) ?_
  refine lv_i2l hx hb dL_law_509 rfl ?_
  refine lv_bipush (v := 32) hx hb dL_law_510 (by decide) ?_
  refine lv_lshl hx hb dL_law_512 rfl ?_
  refine lv_aload_n hx hb dL_law_513 rfl (lv_at hl 0 rfl) ?_
  refine lv_iload_n hx hb dL_law_514 rfl (lv_at hl 3 rfl) ?_
  refine lv_iconst (v := 3) hx hb dL_law_515 (by decide) ?_
  refine lv_iadd hx hb dL_law_516 ?_
  refine va_sld hx hb hX hbl hbA hS (scr_in (k := 3) hi (by omega) hL) dL_law_517 ?_
  refine st_i (v := xs (iq + 3)) (scr_at (k := 3) hi (by omega) hL xs) ?_
  refine lv_i2l hx hb dL_law_518 rfl ?_
  refine lv_ldc2 (v := 4294967295) hx hb hown (hts (.constantLong RL 50 (4294967295)) (by decide +kernel)) dL_law_519 ?_
  refine lv_land hx hb dL_law_522 ?_
  refine lv_lor hx hb dL_law_523 ?_
  refine lv_aload_n hx hb dL_law_524 rfl (lv_at hl 0 rfl) ?_
  refine lv_iload_n hx hb dL_law_525 rfl (lv_at hl 3 rfl) ?_
  refine lv_iconst (v := 4) hx hb dL_law_526 (by decide) ?_
  refine lv_iadd hx hb dL_law_527 ?_
  refine va_sld hx hb hX hbl hbA hS (scr_in (k := 4) hi (by omega) hL) dL_law_528 ?_
  refine st_i (v := xs (iq + 4)) (scr_at (k := 4) hi (by omega) hL xs) ?_
  refine wy_i (va_runV ⟨hx, hb, hml, hown, hts⟩ (c_X3_flip l ) (cwV 3 hts gL_law_X3_flip rfl rfl rfl ⟨rfl, kd_X3_flip⟩ ⟨Nat.le_of_ble_eq_true rfl, Nat.le_of_ble_eq_true rfl⟩) (preV2 hnw hKy (va_P_r hP) (va_D_r hD) 0 3 rfl rfl) rfl rfl hl.1 rfl (lv_room (Nat.le_of_ble_eq_true rfl)) dL_law_529 ⟨Nat.le_of_ble_eq_true rfl, Nat.le_of_ble_eq_true rfl⟩) hP hD hS hA (fun r2 u2 H locs e2 hP hS => ?_)
  have hP : va_P (dC, dI) vwCl (xw ax cI cJ (nI (2 ^ q)) (nI q) (nI d) (nI sN) ms (nI cN) mv mw (o_flip (nI (2 ^ q)) st (xs (iq + 1)) (((xs (iq + 2)).toInt64 <<< ((32 : Int32).toInt64 &&& 63)) ||| ((xs (iq + 3)).toInt64 &&& 4294967295)) (xs (iq + 4))).2 fr sr pa nu ++ yw ay cK cL (nI (2 ^ q)) (nI d) (nI sN) ms (nI cN) mv mw pu pl (p_flip (nI (2 ^ q)) st (xs (iq + 1)) (((xs (iq + 2)).toInt64 <<< ((32 : Int32).toInt64 &&& 63)) ||| ((xs (iq + 3)).toInt64 &&& 4294967295)) (xs (iq + 4))).2 fi ot nu) H := hP
  have hD : va_D (fun q : Nat => s.heap.size ≤ q) (xw ax cI cJ (nI (2 ^ q)) (nI q) (nI d) (nI sN) ms (nI cN) mv mw (o_flip (nI (2 ^ q)) st (xs (iq + 1)) (((xs (iq + 2)).toInt64 <<< ((32 : Int32).toInt64 &&& 63)) ||| ((xs (iq + 3)).toInt64 &&& 4294967295)) (xs (iq + 4))).2 fr sr pa nu ++ yw ay cK cL (nI (2 ^ q)) (nI d) (nI sN) ms (nI cN) mv mw pu pl (p_flip (nI (2 ^ q)) st (xs (iq + 1)) (((xs (iq + 2)).toInt64 <<< ((32 : Int32).toInt64 &&& 63)) ||| ((xs (iq + 3)).toInt64 &&& 4294967295)) (xs (iq + 4))).2 fi ot nu) := va_D_addr hD0 rfl
  rw [← flip_fg h6] at hP e2
  exact lv_icmp_eq (tgt := 1025) hx hb dL_law_532 (by decide) (fun _ => kk q d sN cN ms mv mw _ _ _ _ _ _ _ _ _ ⟨h3, h6, hd, hs1, hs2, hc, flip_ok h6 hst _ _ _, hnu⟩ H locs hP hS ls hl) (fun cz => absurd (e1.trans e2.symm) cz)
set_option maxHeartbeats 4000000 in
set_option maxRecDepth 100000 in
theorem lk_both {p : Program} {l : Launch} {e : Env} {s : State} {m : MethodId} {below : List Frame} {meth : Method} {c : Code} {dC : Nat → ClassId} {dI : Nat → Nat → Nat} {b L : Nat} {xs : Nat → Int32} {ax ay : Nat → Nat} {cI cJ cK cL : ClassId} {iq : Nat} (C0 : lw_At p s m meth c b L xs) (hL : L ≤ 3072) (hi : iq + 6 ≤ L) (hnw : nw s) (hKx : va_K (dC, dI) vwCl (tyw cI cJ) s) (hKy : va_K (dC, dI) vwCl (tyw cK cL) s) (hD0 : va_D (fun q : Nat => s.heap.size ≤ q) (zw ax ay cI cJ cK cL 0 0 0 0 0 0 0 (fun _ => 0) (fun _ => 0) (fun _ => 0) (fun _ => 0) (fun _ => 0) 0 0 (fun _ => 0) (fun _ => 0))) (kk : LK p l e s m below meth c (dC, dI) b ax ay cI cJ cK cL iq 1025) : LK p l e s m below meth c (dC, dI) b ax ay cI cJ cK cL iq 537 := by
  obtain ⟨hx, hb, hr, hml, hown, hts0, hX, hbl, hlocks, hgv⟩ := C0
  have hown : s.vm.findClass RL = some m.cls := hown
  have hts : ∀ w ∈ wsL_law, w.before #[Value.ref b] s = true := fun w h => hts0 w (wsL_in w h)
  have hA : ∀ q : Nat, s.heap.size ≤ q → (fun q : Nat => s.heap.size ≤ q) q := fun _ h => h
  have hbA : ¬ (fun q : Nat => s.heap.size ≤ q) b := Nat.not_le.mpr hbl
  intro q d sN cN ms mv mw st fr sr pa nu pu pl fi ot I H locs hP hS ls hl
  obtain ⟨h3, h6, hd, hs1, hs2, hc, hst, hnu⟩ := I
  refine lv_aload_n hx hb dL_law_537 rfl (lv_at hl 1 rfl) ?_
  refine lv_aload_n hx hb dL_law_538 rfl (lv_at hl 0 rfl) ?_
  refine lv_iload_n hx hb dL_law_539 rfl (lv_at hl 3 rfl) ?_
  refine lv_iconst (v := 1) hx hb dL_law_540 (by decide) ?_
  refine lv_iadd hx hb dL_law_541 ?_
  refine va_sld hx hb hX hbl hbA hS (scr_in (k := 1) hi (by omega) hL) dL_law_542 ?_
  refine st_i (v := xs (iq + 1)) (scr_at (k := 1) hi (by omega) hL xs) ?_
  refine lv_aload_n hx hb dL_law_543 rfl (lv_at hl 0 rfl) ?_
  refine lv_iload_n hx hb dL_law_544 rfl (lv_at hl 3 rfl) ?_
  refine lv_iconst (v := 2) hx hb dL_law_545 (by decide) ?_
  refine lv_iadd hx hb dL_law_546 ?_
  refine va_sld hx hb hX hbl hbA hS (scr_in (k := 2) hi (by omega) hL) dL_law_547 ?_
  refine st_i (v := xs (iq + 2)) (scr_at (k := 2) hi (by omega) hL xs) ?_
  refine lv_aload_n hx hb dL_law_548 rfl (lv_at hl 0 rfl) ?_
  refine lv_iload_n hx hb dL_law_549 rfl (lv_at hl 3 rfl) ?_
  refine lv_iconst (v := 3) hx hb dL_law_550 (by decide) ?_
  refine lv_iadd hx hb dL_law_551 ?_
  refine va_sld hx hb hX hbl hbA hS (scr_in (k := 3) hi (by omega) hL) dL_law_552 ?_
  refine st_i (v := xs (iq + 3)) (scr_at (k := 3) hi (by omega) hL xs) ?_
  have hP : va_P (dC, dI) vwCl (xw ax cI cJ (nI (2 ^ q)) (nI q) (nI d) (nI sN) ms (nI cN) mv mw st fr sr pa nu ++ yw ay cK cL (nI (2 ^ q)) (nI d) (nI sN) ms (nI cN) mv mw pu pl st fi ot nu) H := hP
  have hD : va_D (fun q : Nat => s.heap.size ≤ q) (xw ax cI cJ (nI (2 ^ q)) (nI q) (nI d) (nI sN) ms (nI cN) mv mw st fr sr pa nu ++ yw ay cK cL (nI (2 ^ q)) (nI d) (nI sN) ms (nI cN) mv mw pu pl st fi ot nu) := va_D_addr hD0 rfl
  refine ro_i (va_runV ⟨hx, hb, hml, hown, hts⟩ (c_X2_both l ) (cwV 3 hts gL_law_X2_both rfl rfl rfl ⟨rfl, kd_X2_both⟩ ⟨Nat.le_of_ble_eq_true rfl, Nat.le_of_ble_eq_true rfl⟩) (preV1 hnw hKx (va_P_l hP) 0 2 rfl rfl) rfl rfl hl.1 rfl (lv_room (Nat.le_of_ble_eq_true rfl)) dL_law_553 ⟨Nat.le_of_ble_eq_true rfl, Nat.le_of_ble_eq_true rfl⟩) ?_
  refine lv_aload_n hx hb dL_law_556 rfl (lv_at hl 2 rfl) ?_
  refine lv_aload_n hx hb dL_law_557 rfl (lv_at hl 0 rfl) ?_
  refine lv_iload_n hx hb dL_law_558 rfl (lv_at hl 3 rfl) ?_
  refine lv_iconst (v := 1) hx hb dL_law_559 (by decide) ?_
  refine lv_iadd hx hb dL_law_560 ?_
  refine va_sld hx hb hX hbl hbA hS (scr_in (k := 1) hi (by omega) hL) dL_law_561 ?_
  refine st_i (v := xs (iq + 1)) (scr_at (k := 1) hi (by omega) hL xs) ?_
  refine lv_aload_n hx hb dL_law_562 rfl (lv_at hl 0 rfl) ?_
  refine lv_iload_n hx hb dL_law_563 rfl (lv_at hl 3 rfl) ?_
  refine lv_iconst (v := 2) hx hb dL_law_564 (by decide) ?_
  refine lv_iadd hx hb dL_law_565 ?_
  refine va_sld hx hb hX hbl hbA hS (scr_in (k := 2) hi (by omega) hL) dL_law_566 ?_
  refine st_i (v := xs (iq + 2)) (scr_at (k := 2) hi (by omega) hL xs) ?_
  refine lv_aload_n hx hb dL_law_567 rfl (lv_at hl 0 rfl) ?_
  refine lv_iload_n hx hb dL_law_568 rfl (lv_at hl 3 rfl) ?_
  refine lv_iconst (v := 3) hx hb dL_law_569 (by decide) ?_
  refine lv_iadd hx hb dL_law_570 ?_
  refine va_sld hx hb hX hbl hbA hS (scr_in (k := 3) hi (by omega) hL) dL_law_571 ?_
  refine st_i (v := xs (iq + 3)) (scr_at (k := 3) hi (by omega) hL xs) ?_
  refine ro_i (va_runV ⟨hx, hb, hml, hown, hts⟩ (c_X3_both l ) (cwV 3 hts gL_law_X3_both rfl rfl rfl ⟨rfl, kd_X3_both⟩ ⟨Nat.le_of_ble_eq_true rfl, Nat.le_of_ble_eq_true rfl⟩) (preV1 hnw hKy (va_P_r hP) 0 3 rfl rfl) rfl rfl hl.1 rfl (lv_room (Nat.le_of_ble_eq_true rfl)) dL_law_572 ⟨Nat.le_of_ble_eq_true rfl, Nat.le_of_ble_eq_true rfl⟩) ?_
  exact lv_icmp_eq (tgt := 1025) hx hb dL_law_575 (by decide) (fun _ => kk q d sN cN ms mv mw _ _ _ _ _ _ _ _ _ ⟨h3, h6, hd, hs1, hs2, hc, hst, hnu⟩ H locs hP hS ls hl) (fun cz => absurd ((by rw [pw_cl h6]; exact both_fg h6 _ _ _ _)) cz)
set_option maxHeartbeats 4000000 in
set_option maxRecDepth 100000 in
theorem lk_together {p : Program} {l : Launch} {e : Env} {s : State} {m : MethodId} {below : List Frame} {meth : Method} {c : Code} {dC : Nat → ClassId} {dI : Nat → Nat → Nat} {b L : Nat} {xs : Nat → Int32} {ax ay : Nat → Nat} {cI cJ cK cL : ClassId} {iq : Nat} (C0 : lw_At p s m meth c b L xs) (hL : L ≤ 3072) (hi : iq + 6 ≤ L) (hnw : nw s) (hKx : va_K (dC, dI) vwCl (tyw cI cJ) s) (hKy : va_K (dC, dI) vwCl (tyw cK cL) s) (hD0 : va_D (fun q : Nat => s.heap.size ≤ q) (zw ax ay cI cJ cK cL 0 0 0 0 0 0 0 (fun _ => 0) (fun _ => 0) (fun _ => 0) (fun _ => 0) (fun _ => 0) 0 0 (fun _ => 0) (fun _ => 0))) (kk : LK p l e s m below meth c (dC, dI) b ax ay cI cJ cK cL iq 1025) : LK p l e s m below meth c (dC, dI) b ax ay cI cJ cK cL iq 580 := by
  obtain ⟨hx, hb, hr, hml, hown, hts0, hX, hbl, hlocks, hgv⟩ := C0
  have hown : s.vm.findClass RL = some m.cls := hown
  have hts : ∀ w ∈ wsL_law, w.before #[Value.ref b] s = true := fun w h => hts0 w (wsL_in w h)
  have hA : ∀ q : Nat, s.heap.size ≤ q → (fun q : Nat => s.heap.size ≤ q) q := fun _ h => h
  have hbA : ¬ (fun q : Nat => s.heap.size ≤ q) b := Nat.not_le.mpr hbl
  intro q d sN cN ms mv mw st fr sr pa nu pu pl fi ot I H locs hP hS ls hl
  obtain ⟨h3, h6, hd, hs1, hs2, hc, hst, hnu⟩ := I
  refine lv_aload_n hx hb dL_law_580 rfl (lv_at hl 1 rfl) ?_
  refine lv_aload_n hx hb dL_law_581 rfl (lv_at hl 0 rfl) ?_
  refine lv_iload_n hx hb dL_law_582 rfl (lv_at hl 3 rfl) ?_
  refine lv_iconst (v := 1) hx hb dL_law_583 (by decide) ?_
  refine lv_iadd hx hb dL_law_584 ?_
  refine va_sld hx hb hX hbl hbA hS (scr_in (k := 1) hi (by omega) hL) dL_law_585 ?_
  refine st_i (v := xs (iq + 1)) (scr_at (k := 1) hi (by omega) hL xs) ?_
  refine lv_aload_n hx hb dL_law_586 rfl (lv_at hl 0 rfl) ?_
  refine lv_iload_n hx hb dL_law_587 rfl (lv_at hl 3 rfl) ?_
  refine lv_iconst (v := 2) hx hb dL_law_588 (by decide) ?_
  refine lv_iadd hx hb dL_law_589 ?_
  refine va_sld hx hb hX hbl hbA hS (scr_in (k := 2) hi (by omega) hL) dL_law_590 ?_
  refine st_i (v := xs (iq + 2)) (scr_at (k := 2) hi (by omega) hL xs) ?_
  have hP : va_P (dC, dI) vwCl (xw ax cI cJ (nI (2 ^ q)) (nI q) (nI d) (nI sN) ms (nI cN) mv mw st fr sr pa nu ++ yw ay cK cL (nI (2 ^ q)) (nI d) (nI sN) ms (nI cN) mv mw pu pl st fi ot nu) H := hP
  have hD : va_D (fun q : Nat => s.heap.size ≤ q) (xw ax cI cJ (nI (2 ^ q)) (nI q) (nI d) (nI sN) ms (nI cN) mv mw st fr sr pa nu ++ yw ay cK cL (nI (2 ^ q)) (nI d) (nI sN) ms (nI cN) mv mw pu pl st fi ot nu) := va_D_addr hD0 rfl
  refine ro_i (va_runV ⟨hx, hb, hml, hown, hts⟩ (c_X2_together l ) (cwV 2 hts gL_law_X2_together rfl rfl rfl ⟨rfl, kd_X2_together⟩ ⟨Nat.le_of_ble_eq_true rfl, Nat.le_of_ble_eq_true rfl⟩) (preV1 hnw hKx (va_P_l hP) 0 2 rfl rfl) rfl rfl hl.1 rfl (lv_room (Nat.le_of_ble_eq_true rfl)) dL_law_591 ⟨Nat.le_of_ble_eq_true rfl, Nat.le_of_ble_eq_true rfl⟩) ?_
  refine lv_aload_n hx hb dL_law_594 rfl (lv_at hl 2 rfl) ?_
  refine lv_aload_n hx hb dL_law_595 rfl (lv_at hl 0 rfl) ?_
  refine lv_iload_n hx hb dL_law_596 rfl (lv_at hl 3 rfl) ?_
  refine lv_iconst (v := 1) hx hb dL_law_597 (by decide) ?_
  refine lv_iadd hx hb dL_law_598 ?_
  refine va_sld hx hb hX hbl hbA hS (scr_in (k := 1) hi (by omega) hL) dL_law_599 ?_
  refine st_i (v := xs (iq + 1)) (scr_at (k := 1) hi (by omega) hL xs) ?_
  refine lv_aload_n hx hb dL_law_600 rfl (lv_at hl 0 rfl) ?_
  refine lv_iload_n hx hb dL_law_601 rfl (lv_at hl 3 rfl) ?_
  refine lv_iconst (v := 2) hx hb dL_law_602 (by decide) ?_
  refine lv_iadd hx hb dL_law_603 ?_
  refine va_sld hx hb hX hbl hbA hS (scr_in (k := 2) hi (by omega) hL) dL_law_604 ?_
  refine st_i (v := xs (iq + 2)) (scr_at (k := 2) hi (by omega) hL xs) ?_
  refine ro_i (va_runV ⟨hx, hb, hml, hown, hts⟩ (c_X3_together l (fun p0 q0 r0 s0 y0 y1 y2 y3 y4 => tog_lo (pw_le h6) _ _ p0 q0 r0 s0 (by rw [← pw_cl h6]; exact y0) (by rw [← pw_cl h6]; exact y1) (by rw [← pw_cl h6]; exact y2) (by rw [← pw_cl h6]; exact y3) y4)) (cwV 2 hts gL_law_X3_together rfl rfl rfl ⟨rfl, kd_X3_together⟩ ⟨Nat.le_of_ble_eq_true rfl, Nat.le_of_ble_eq_true rfl⟩) (preV1 hnw hKy (va_P_r hP) 0 3 rfl rfl) rfl rfl hl.1 rfl (lv_room (Nat.le_of_ble_eq_true rfl)) dL_law_605 ⟨Nat.le_of_ble_eq_true rfl, Nat.le_of_ble_eq_true rfl⟩) ?_
  exact lv_icmp_eq (tgt := 1025) hx hb dL_law_608 (by decide) (fun _ => kk q d sN cN ms mv mw _ _ _ _ _ _ _ _ _ ⟨h3, h6, hd, hs1, hs2, hc, hst, hnu⟩ H locs hP hS ls hl) (fun cz => absurd ((by rw [pw_cl h6]; exact tog_eq (pw_le h6) _ _ _)) cz)
set_option maxHeartbeats 4000000 in
set_option maxRecDepth 100000 in
theorem lk_miss {p : Program} {l : Launch} {e : Env} {s : State} {m : MethodId} {below : List Frame} {meth : Method} {c : Code} {dC : Nat → ClassId} {dI : Nat → Nat → Nat} {b L : Nat} {xs : Nat → Int32} {ax ay : Nat → Nat} {cI cJ cK cL : ClassId} {iq : Nat} (C0 : lw_At p s m meth c b L xs) (hL : L ≤ 3072) (hi : iq + 6 ≤ L) (hnw : nw s) (hKx : va_K (dC, dI) vwCl (tyw cI cJ) s) (hKy : va_K (dC, dI) vwCl (tyw cK cL) s) (hD0 : va_D (fun q : Nat => s.heap.size ≤ q) (zw ax ay cI cJ cK cL 0 0 0 0 0 0 0 (fun _ => 0) (fun _ => 0) (fun _ => 0) (fun _ => 0) (fun _ => 0) 0 0 (fun _ => 0) (fun _ => 0))) (kk : LK p l e s m below meth c (dC, dI) b ax ay cI cJ cK cL iq 1025) : LK p l e s m below meth c (dC, dI) b ax ay cI cJ cK cL iq 613 := by
  obtain ⟨hx, hb, hr, hml, hown, hts0, hX, hbl, hlocks, hgv⟩ := C0
  have hown : s.vm.findClass RL = some m.cls := hown
  have hts : ∀ w ∈ wsL_law, w.before #[Value.ref b] s = true := fun w h => hts0 w (wsL_in w h)
  have hA : ∀ q : Nat, s.heap.size ≤ q → (fun q : Nat => s.heap.size ≤ q) q := fun _ h => h
  have hbA : ¬ (fun q : Nat => s.heap.size ≤ q) b := Nat.not_le.mpr hbl
  intro q d sN cN ms mv mw st fr sr pa nu pu pl fi ot I H locs hP hS ls hl
  obtain ⟨h3, h6, hd, hs1, hs2, hc, hst, hnu⟩ := I
  refine lv_aload_n hx hb dL_law_613 rfl (lv_at hl 1 rfl) ?_
  refine lv_aload_n hx hb dL_law_614 rfl (lv_at hl 0 rfl) ?_
  refine lv_iload_n hx hb dL_law_615 rfl (lv_at hl 3 rfl) ?_
  refine lv_iconst (v := 1) hx hb dL_law_616 (by decide) ?_
  refine lv_iadd hx hb dL_law_617 ?_
  refine va_sld hx hb hX hbl hbA hS (scr_in (k := 1) hi (by omega) hL) dL_law_618 ?_
  refine st_i (v := xs (iq + 1)) (scr_at (k := 1) hi (by omega) hL xs) ?_
  refine lv_aload_n hx hb dL_law_619 rfl (lv_at hl 0 rfl) ?_
  refine lv_iload_n hx hb dL_law_620 rfl (lv_at hl 3 rfl) ?_
  refine lv_iconst (v := 2) hx hb dL_law_621 (by decide) ?_
  refine lv_iadd hx hb dL_law_622 ?_
  refine va_sld hx hb hX hbl hbA hS (scr_in (k := 2) hi (by omega) hL) dL_law_623 ?_
  refine st_i (v := xs (iq + 2)) (scr_at (k := 2) hi (by omega) hL xs) ?_
  refine lv_aload_n hx hb dL_law_624 rfl (lv_at hl 0 rfl) ?_
  refine lv_iload_n hx hb dL_law_625 rfl (lv_at hl 3 rfl) ?_
  refine lv_iconst (v := 3) hx hb dL_law_626 (by decide) ?_
  refine lv_iadd hx hb dL_law_627 ?_
  refine va_sld hx hb hX hbl hbA hS (scr_in (k := 3) hi (by omega) hL) dL_law_628 ?_
  refine st_i (v := xs (iq + 3)) (scr_at (k := 3) hi (by omega) hL xs) ?_
  refine lv_aload_n hx hb dL_law_629 rfl (lv_at hl 0 rfl) ?_
  refine lv_iload_n hx hb dL_law_630 rfl (lv_at hl 3 rfl) ?_
  refine lv_iconst (v := 4) hx hb dL_law_631 (by decide) ?_
  refine lv_iadd hx hb dL_law_632 ?_
  refine va_sld hx hb hX hbl hbA hS (scr_in (k := 4) hi (by omega) hL) dL_law_633 ?_
  refine st_i (v := xs (iq + 4)) (scr_at (k := 4) hi (by omega) hL xs) ?_
  have hP : va_P (dC, dI) vwCl (xw ax cI cJ (nI (2 ^ q)) (nI q) (nI d) (nI sN) ms (nI cN) mv mw st fr sr pa nu ++ yw ay cK cL (nI (2 ^ q)) (nI d) (nI sN) ms (nI cN) mv mw pu pl st fi ot nu) H := hP
  have hD : va_D (fun q : Nat => s.heap.size ≤ q) (xw ax cI cJ (nI (2 ^ q)) (nI q) (nI d) (nI sN) ms (nI cN) mv mw st fr sr pa nu ++ yw ay cK cL (nI (2 ^ q)) (nI d) (nI sN) ms (nI cN) mv mw pu pl st fi ot nu) := va_D_addr hD0 rfl
  refine wx_i (va_runV ⟨hx, hb, hml, hown, hts⟩ (c_X2_miss l (pw_le h6)) (cwV 4 hts gL_law_X2_miss rfl rfl rfl ⟨rfl, kd_X2_miss⟩ ⟨Nat.le_of_ble_eq_true rfl, Nat.le_of_ble_eq_true rfl⟩) (preV2 hnw hKx (va_P_l hP) (va_D_l hD) 0 2 rfl rfl) rfl rfl hl.1 rfl (lv_room (Nat.le_of_ble_eq_true rfl)) dL_law_634 ⟨Nat.le_of_ble_eq_true rfl, Nat.le_of_ble_eq_true rfl⟩) hP hD hS hA (fun r1 u1 H locs e1 hP hS => ?_)
  have hP : va_P (dC, dI) vwCl (xw ax cI cJ (nI (2 ^ q)) (nI q) (nI d) (nI sN) ms (o_miss (2 ^ q) (nI q) (nI cN) mv mw (xs (iq + 1)) (xs (iq + 2)) (xs (iq + 3)) (xs (iq + 4))).2.1 (o_miss (2 ^ q) (nI q) (nI cN) mv mw (xs (iq + 1)) (xs (iq + 2)) (xs (iq + 3)) (xs (iq + 4))).2.2.1 (o_miss (2 ^ q) (nI q) (nI cN) mv mw (xs (iq + 1)) (xs (iq + 2)) (xs (iq + 3)) (xs (iq + 4))).2.2.2 st u1.1 u1.2 pa nu ++ yw ay cK cL (nI (2 ^ q)) (nI d) (nI sN) ms (nI cN) mv mw pu pl st fi ot nu) H := hP
  have hD : va_D (fun q : Nat => s.heap.size ≤ q) (xw ax cI cJ (nI (2 ^ q)) (nI q) (nI d) (nI sN) ms (o_miss (2 ^ q) (nI q) (nI cN) mv mw (xs (iq + 1)) (xs (iq + 2)) (xs (iq + 3)) (xs (iq + 4))).2.1 (o_miss (2 ^ q) (nI q) (nI cN) mv mw (xs (iq + 1)) (xs (iq + 2)) (xs (iq + 3)) (xs (iq + 4))).2.2.1 (o_miss (2 ^ q) (nI q) (nI cN) mv mw (xs (iq + 1)) (xs (iq + 2)) (xs (iq + 3)) (xs (iq + 4))).2.2.2 st u1.1 u1.2 pa nu ++ yw ay cK cL (nI (2 ^ q)) (nI d) (nI sN) ms (nI cN) mv mw pu pl st fi ot nu) := va_D_addr hD0 rfl
  refine lv_aload_n hx hb dL_law_637 rfl (lv_at hl 2 rfl) ?_
  refine lv_aload_n hx hb dL_law_638 rfl (lv_at hl 0 rfl) ?_
  refine lv_iload_n hx hb dL_law_639 rfl (lv_at hl 3 rfl) ?_
  refine lv_iconst (v := 1) hx hb dL_law_640 (by decide) ?_
  refine lv_iadd hx hb dL_law_641 ?_
  refine va_sld hx hb hX hbl hbA hS (scr_in (k := 1) hi (by omega) hL) dL_law_642 ?_
  refine st_i (v := xs (iq + 1)) (scr_at (k := 1) hi (by omega) hL xs) ?_
  refine lv_aload_n hx hb dL_law_643 rfl (lv_at hl 0 rfl) ?_
  refine lv_iload_n hx hb dL_law_644 rfl (lv_at hl 3 rfl) ?_
  refine lv_iconst (v := 2) hx hb dL_law_645 (by decide) ?_
  refine lv_iadd hx hb dL_law_646 ?_
  refine va_sld hx hb hX hbl hbA hS (scr_in (k := 2) hi (by omega) hL) dL_law_647 ?_
  refine st_i (v := xs (iq + 2)) (scr_at (k := 2) hi (by omega) hL xs) ?_
  refine lv_aload_n hx hb dL_law_648 rfl (lv_at hl 0 rfl) ?_
  refine lv_iload_n hx hb dL_law_649 rfl (lv_at hl 3 rfl) ?_
  refine lv_iconst (v := 3) hx hb dL_law_650 (by decide) ?_
  refine lv_iadd hx hb dL_law_651 ?_
  refine va_sld hx hb hX hbl hbA hS (scr_in (k := 3) hi (by omega) hL) dL_law_652 ?_
  refine st_i (v := xs (iq + 3)) (scr_at (k := 3) hi (by omega) hL xs) ?_
  refine lv_aload_n hx hb dL_law_653 rfl (lv_at hl 0 rfl) ?_
  refine lv_iload_n hx hb dL_law_654 rfl (lv_at hl 3 rfl) ?_
  refine lv_iconst (v := 4) hx hb dL_law_655 (by decide) ?_
  refine lv_iadd hx hb dL_law_656 ?_
  refine va_sld hx hb hX hbl hbA hS (scr_in (k := 4) hi (by omega) hL) dL_law_657 ?_
  refine st_i (v := xs (iq + 4)) (scr_at (k := 4) hi (by omega) hL xs) ?_
  refine wy_i (va_runV ⟨hx, hb, hml, hown, hts⟩ (c_X3_miss l h6) (cwV 4 hts gL_law_X3_miss rfl rfl rfl ⟨rfl, kd_X3_miss⟩ ⟨Nat.le_of_ble_eq_true rfl, Nat.le_of_ble_eq_true rfl⟩) (preV2 hnw hKy (va_P_r hP) (va_D_r hD) 0 3 rfl rfl) rfl rfl hl.1 rfl (lv_room (Nat.le_of_ble_eq_true rfl)) dL_law_658 ⟨Nat.le_of_ble_eq_true rfl, Nat.le_of_ble_eq_true rfl⟩) hP hD hS hA (fun r2 u2 H locs e2 hP hS => ?_)
  have hP : va_P (dC, dI) vwCl (xw ax cI cJ (nI (2 ^ q)) (nI q) (nI d) (nI sN) ms (o_miss (2 ^ q) (nI q) (nI cN) mv mw (xs (iq + 1)) (xs (iq + 2)) (xs (iq + 3)) (xs (iq + 4))).2.1 (o_miss (2 ^ q) (nI q) (nI cN) mv mw (xs (iq + 1)) (xs (iq + 2)) (xs (iq + 3)) (xs (iq + 4))).2.2.1 (o_miss (2 ^ q) (nI q) (nI cN) mv mw (xs (iq + 1)) (xs (iq + 2)) (xs (iq + 3)) (xs (iq + 4))).2.2.2 st u1.1 u1.2 pa nu ++ yw ay cK cL (nI (2 ^ q)) (nI d) (nI sN) ms (p_miss q (nI cN) mv mw (xs (iq + 1)) (xs (iq + 2)) (xs (iq + 3)) (xs (iq + 4))).2.1 (p_miss q (nI cN) mv mw (xs (iq + 1)) (xs (iq + 2)) (xs (iq + 3)) (xs (iq + 4))).2.2.1 (p_miss q (nI cN) mv mw (xs (iq + 1)) (xs (iq + 2)) (xs (iq + 3)) (xs (iq + 4))).2.2.2 pu pl st u2.1 u2.2 nu) H := hP
  have hD : va_D (fun q : Nat => s.heap.size ≤ q) (xw ax cI cJ (nI (2 ^ q)) (nI q) (nI d) (nI sN) ms (o_miss (2 ^ q) (nI q) (nI cN) mv mw (xs (iq + 1)) (xs (iq + 2)) (xs (iq + 3)) (xs (iq + 4))).2.1 (o_miss (2 ^ q) (nI q) (nI cN) mv mw (xs (iq + 1)) (xs (iq + 2)) (xs (iq + 3)) (xs (iq + 4))).2.2.1 (o_miss (2 ^ q) (nI q) (nI cN) mv mw (xs (iq + 1)) (xs (iq + 2)) (xs (iq + 3)) (xs (iq + 4))).2.2.2 st u1.1 u1.2 pa nu ++ yw ay cK cL (nI (2 ^ q)) (nI d) (nI sN) ms (p_miss q (nI cN) mv mw (xs (iq + 1)) (xs (iq + 2)) (xs (iq + 3)) (xs (iq + 4))).2.1 (p_miss q (nI cN) mv mw (xs (iq + 1)) (xs (iq + 2)) (xs (iq + 3)) (xs (iq + 4))).2.2.1 (p_miss q (nI cN) mv mw (xs (iq + 1)) (xs (iq + 2)) (xs (iq + 3)) (xs (iq + 4))).2.2.2 pu pl st u2.1 u2.2 nu) := va_D_addr hD0 rfl
  rw [← miss_fg h3 h6 hc] at hP e2
  obtain ⟨c2, k1, k2⟩ := miss_c (q := q) hc (nI q) mv mw (xs (iq + 1)) (xs (iq + 2)) (xs (iq + 3)) (xs (iq + 4))
  rw [k2] at hP
  exact lv_icmp_eq (tgt := 1025) hx hb dL_law_661 (by decide) (fun _ => kk q d sN c2 ms _ _ _ _ _ _ _ _ _ _ _ ⟨h3, h6, hd, hs1, hs2, k1, hst, hnu⟩ H locs hP hS ls hl) (fun cz => absurd (e1.trans e2.symm) cz)
