/-! the calls of class and reference, alike; and what stays true -/
theorem stOK_upd {n : Nat} {st : Nat → Int64} (h : stOK n st) (k : Nat) {x : Int64} (hx : rv n x) : stOK n (vp_updL st k x) := by
  intro t ht
  unfold vp_updL
  split
  · exact hx
  · exact h t ht
theorem set_eq {q : Nat} (hq : q ≤ 6) {st : Nat → Int64} {t : Int32} {r r2 : Int64} (h : r &&& f_low (nI (2 ^ q)) = r2) : o_set (nI (2 ^ q)) st t r = p_set (2 ^ q) st t r2 := by
  unfold o_set p_set
  rw [h, ones_eq (pw_le hq) (r := r2) (by rw [← h]; exact rv_low (pw_le hq) r)]
theorem set_ok {q : Nat} (hq : q ≤ 6) {st : Nat → Int64} (hst : stOK (2 ^ q) st) (t : Int32) (r : Int64) : stOK (2 ^ q) (o_set (nI (2 ^ q)) st t r).2 := stOK_upd hst _ (rv_low (pw_le hq) r)
theorem strm_nat {t : Int32} (h : strm t) : t.toNatClampNeg < 12 := by
  obtain ⟨j, -, h1, rfl⟩ := rng_nat (a := 0) (b := 11) (by omega) (by omega) h
  rw [nI_cl (by omega)]; omega
theorem src_fg {q : Nat} (h3 : 3 ≤ q) (h6 : q ≤ 6) {s v : Int32} (h : srcs s ∧ (0 ≤ v ∧ v ≤ nI (2 ^ q))) : f_src (nI (2 ^ q)) (nI q) s v = g_srow q s v (2 ^ q) ∧ g_srow q s v (2 ^ q) &&& f_low (nI (2 ^ q)) = g_srow q s v (2 ^ q) := by
  obtain ⟨a, -, ha, rfl⟩ := rng_nat (a := 0) (b := 3) (by omega) (by omega) h.1
  obtain ⟨b, -, hb, rfl⟩ := rng_nat (a := 0) (b := 2 ^ q) (by have := pw_le h6; omega) (Nat.zero_le _) h.2
  exact src_eq h3 h6 (by omega) hb
theorem source_eq {q : Nat} (h3 : 3 ≤ q) (h6 : q ≤ 6) (st : Nat → Int64) (t s v : Int32) : o_source (nI (2 ^ q)) (nI q) st t s v = p_source q st t s v := by
  unfold o_source p_source
  split
  · split
    · rename_i h
      obtain ⟨e1, e2⟩ := src_fg h3 h6 h
      exact set_eq h6 (by rw [e1, e2])
    · rfl
  · rfl
theorem source_ok {q : Nat} (h6 : q ≤ 6) {st : Nat → Int64} (hst : stOK (2 ^ q) st) (fg t s v : Int32) : stOK (2 ^ q) (o_source (nI (2 ^ q)) fg st t s v).2 := by
  unfold o_source
  split
  · split
    · exact set_ok h6 hst _ _
    · exact hst
  · exact hst
theorem put_eq (ln : Int32) (st : Nat → Int64) (t i b : Int32) : o_put ln st t i b = p_put ln st t i b := by unfold o_put p_put; rw [f_g_bit]
theorem put_ok {q : Nat} (h6 : q ≤ 6) {st : Nat → Int64} (hst : stOK (2 ^ q) st) (t i b : Int32) : stOK (2 ^ q) (o_put (nI (2 ^ q)) st t i b).2 := by
  unfold o_put
  split
  · rename_i h
    refine stOK_upd hst _ ?_
    have hr := hst _ (strm_nat h.1)
    split
    · intro k hk; rw [tb_and, hr k hk]; rfl
    · have hn := pw_le h6
      have hp := pw_pos q
      have h2 := h.2
      rw [show (1 : Int32) = nI 1 from rfl, pk_sub hp] at h2
      obtain ⟨j, -, hj, rfl⟩ := rng_nat (a := 0) (b := 2 ^ q - 1) (by omega) (Nat.zero_le _) h2
      intro k hk
      rw [tb_or, hr k hk]
      by_cases z : k < 64
      · rw [tb_one (by omega) z]; simp; omega
      · rw [tb_big (by omega)]; rfl
  · exact hst
theorem bit_eq (ln : Int32) (st : Nat → Int64) (t i : Int32) : o_bit ln st t i = p_bit ln st t i := by unfold o_bit p_bit; rw [f_g_bit]
theorem ones_fg {q : Nat} (h6 : q ≤ 6) {st : Nat → Int64} (hst : stOK (2 ^ q) st) (t : Int32) : o_ones st t = p_ones (2 ^ q) st t := by
  unfold o_ones p_ones
  split
  · rename_i h; exact ones_eq (pw_le h6) (hst _ (strm_nat h))
  · rfl
theorem g56 : ∀ k, k < 7 → ((nI k = 5 ∨ nI k = 6) ↔ ¬ nI k ≤ 4) := by decide +kernel
theorem gate_fg {q : Nat} (h6 : q ≤ 6) (st : Nat → Int64) (g a b c t : Int32) : o_gate (nI (2 ^ q)) st g a b c t = p_gate (2 ^ q) st g a b c t := by
  unfold o_gate p_gate
  by_cases h : 0 ≤ g ∧ g ≤ 6
  · rw [if_pos h, if_pos h]
    obtain ⟨k, -, hk, rfl⟩ := rng_nat (a := 0) (b := 6) (by omega) (by omega) h
    have h56 := g56 k (by omega)
    by_cases hC : strm t ∧ strm a ∧ strm b ∧ (nI k = 5 ∨ nI k = 6 → strm c)
    · have hC2 : strm t ∧ strm a ∧ strm b ∧ (¬ nI k ≤ 4 → strm c) := ⟨hC.1, hC.2.1, hC.2.2.1, fun z => hC.2.2.2 (h56.mpr z)⟩
      rw [if_pos hC, if_pos hC2]
      have ec : (if nI k = 5 ∨ nI k = 6 then st c.toNatClampNeg else 0) = (if nI k ≤ 4 then 0 else st c.toNatClampNeg) := by
        by_cases z : nI k ≤ 4
        · rw [if_pos z, if_neg (fun w => (h56.mp w) z)]
        · rw [if_neg z, if_pos (h56.mpr z)]
      rw [ec]
      exact set_eq h6 (gate_eq (by omega) (pw_le h6) _ _ _)
    · rw [if_neg hC, if_neg (fun w : strm t ∧ strm a ∧ strm b ∧ (¬ nI k ≤ 4 → strm c) => hC ⟨w.1, w.2.1, w.2.2.1, fun z => w.2.2.2 (h56.mp z)⟩)]
  · rw [if_neg h, if_neg h]
theorem gate_ok {q : Nat} (h6 : q ≤ 6) {st : Nat → Int64} (hst : stOK (2 ^ q) st) (g a b c t : Int32) : stOK (2 ^ q) (o_gate (nI (2 ^ q)) st g a b c t).2 := by
  unfold o_gate
  split
  · split
    · exact set_ok h6 hst _ _
    · exact hst
  · exact hst
theorem not_fg {q : Nat} (h6 : q ≤ 6) (st : Nat → Int64) (a t : Int32) : o_not (nI (2 ^ q)) st a t = p_not (2 ^ q) st a t := by
  unfold o_not p_not
  split
  · refine set_eq h6 ?_
    have e := gate_eq (k := 3) (by omega) (pw_le h6) (st a.toNatClampNeg) 0 0
    rw [show f_gated (nI 3) (st a.toNatClampNeg) 0 0 = (st a.toNatClampNeg ^^^ 0) ^^^ (-1) from rfl, Int64.xor_zero] at e
    exact e
  · rfl
theorem not_ok {q : Nat} (h6 : q ≤ 6) {st : Nat → Int64} (hst : stOK (2 ^ q) st) (a t : Int32) : stOK (2 ^ q) (o_not (nI (2 ^ q)) st a t).2 := by
  unfold o_not
  split
  · exact set_ok h6 hst _ _
  · exact hst
theorem m64_nat {k : Int32} (h : -64 ≤ k ∧ k ≤ 64) : ∃ j, j < 129 ∧ k = nI j - 64 := by
  have h1 := Int32.le_iff_toInt_le.mp h.1
  have h2 := Int32.le_iff_toInt_le.mp h.2
  rw [show (-64 : Int32).toInt = -64 by decide] at h1
  rw [show (64 : Int32).toInt = 64 by decide] at h2
  refine ⟨(k.toInt + 64).toNat, by omega, ?_⟩
  apply Int32.toInt_inj.mp
  rw [show (64 : Int32) = nI 64 from rfl, pk_sub_toInt (by omega) (by omega)]
  omega
theorem g_sh_rv {q : Nat} (h6 : q ≤ 6) {r : Int64} (hr : rv (2 ^ q) r) {b : Nat} (hb : b < 2 ^ q) : rv (2 ^ q) (g_sh (nI (2 ^ q)) r (nI b) (2 ^ q)) := by
  rw [← sh_eq (pw_le h6) hb hr]; exact rv_low (pw_le h6) _
theorem later_fg {q : Nat} (h6 : q ≤ 6) {st : Nat → Int64} (hst : stOK (2 ^ q) st) (a k t : Int32) : o_later (nI (2 ^ q)) st a k t = p_later (nI (2 ^ q)) (2 ^ q) st a k t := by
  unfold o_later p_later
  split
  · rename_i h
    split
    · rename_i hk
      obtain ⟨j, hj, rfl⟩ := m64_nat hk
      obtain ⟨r1, r2, r3⟩ := rnd_l q (by omega) j hj
      have e := shift_eq h6 (hst _ (strm_nat h.1)) r1 r2 r3
      refine set_eq h6 ?_
      rw [e, r3, r2]
      exact rv_and (pw_le h6) (g_sh_rv h6 (hst _ (strm_nat h.1)) r1)
    · rfl
  · rfl
theorem later_ok {q : Nat} (h6 : q ≤ 6) {st : Nat → Int64} (hst : stOK (2 ^ q) st) (a k t : Int32) : stOK (2 ^ q) (o_later (nI (2 ^ q)) st a k t).2 := by
  unfold o_later
  split
  · split
    · exact set_ok h6 hst _ _
    · exact hst
  · exact hst
theorem flip_fg {q : Nat} (h6 : q ≤ 6) (st : Nat → Int64) (t : Int32) (x : Int64) (n : Int32) : o_flip (nI (2 ^ q)) st t x n = p_flip (nI (2 ^ q)) st t x n := by
  unfold o_flip p_flip
  split
  · split
    · rename_i h
      have hn := pw_le h6
      obtain ⟨m, -, hm, rfl⟩ := rng_nat (a := 0) (b := 2 ^ q) (by omega) (Nat.zero_le _) h
      rw [nI_cl (show m < 2 ^ 31 by omega), flip_ct (by omega), flip_eq (by omega)]
    · rfl
  · rfl
theorem flip_ok {q : Nat} (h6 : q ≤ 6) {st : Nat → Int64} (hst : stOK (2 ^ q) st) (t : Int32) (x : Int64) (n : Int32) : stOK (2 ^ q) (o_flip (nI (2 ^ q)) st t x n).2 := by
  unfold o_flip
  split
  · rename_i ht
    split
    · rename_i h
      have hn := pw_le h6
      obtain ⟨m, -, hm, rfl⟩ := rng_nat (a := 0) (b := 2 ^ q) (by omega) (Nat.zero_le _) h
      refine stOK_upd hst _ (fun k hk => ?_)
      rw [tb_xor, hst _ (strm_nat ht) k hk, rv_low (n := m) (by omega) x k (by omega)]
      rfl
    · exact hst
  · exact hst
theorem both_fg {q : Nat} (h6 : q ≤ 6) (st : Nat → Int64) (a b s : Int32) : o_both (nI (2 ^ q)) st a b s = p_both (2 ^ q) st a b s := by
  unfold o_both p_both
  split
  · split
    · rename_i h
      obtain ⟨k, -, hk, rfl⟩ := rng_nat (a := 0) (b := 3) (by omega) (by omega) h
      exact sort_eq (by omega) (pw_le h6) _ _
    · rfl
  · rfl
theorem where_fg (mi mv mw s : Int32) : o_where mi mv mw s = p_where mi mv mw s := by
  unfold o_where p_where
  split
  · rfl
  · by_cases h0 : s = 0
    · subst h0; rw [if_pos (by decide), if_pos rfl, if_pos rfl]
    · by_cases h1 : s = 1
      · subst h1; rw [if_pos (by decide), if_neg (by decide), if_neg (by decide), if_pos rfl]
      · have hn : ¬ (0 ≤ s ∧ s ≤ 1) := by
          intro h
          obtain ⟨j, -, hj, rfl⟩ := rng_nat (a := 0) (b := 1) (by omega) (by omega) h
          rcases (show j = 0 ∨ j = 1 by omega) with rfl | rfl
          · exact h0 rfl
          · exact h1 rfl
        rw [if_neg hn, if_neg h0, if_neg h1]
theorem machine_fg {q : Nat} (h6 : q ≤ 6) (ms : Int32) (st : Nat → Int64) (a k t : Int32) : o_machine (nI (2 ^ q)) ms st a k t = p_machine (2 ^ q) ms st a k t := by
  unfold o_machine p_machine
  split
  · split
    · rename_i h
      obtain ⟨j, h0, h5, rfl⟩ := mach_nat h
      rw [pw_cl h6, mrow_fg h0 h5, mst_fg h0 h5, set_eq h6 (rv_and (pw_le h6) (mrow_rv (pw_le h6) _ _))]
      rfl
    · rfl
  · rfl
theorem machine_ok {q : Nat} (h6 : q ≤ 6) {st : Nat → Int64} (hst : stOK (2 ^ q) st) (ms a k t : Int32) : stOK (2 ^ q) (o_machine (nI (2 ^ q)) ms st a k t).2.1 := by
  unfold o_machine
  split
  · split
    · exact set_ok h6 hst _ _
    · exact hst
  · exact hst
theorem part_fg {d s : Nat} (hd : d ≤ 4) {nu : Nat → Int32} (hnu : nuOK nu) (hs : 1 ≤ s) (hs2 : s ≤ 1000) (m j p : Int32) : o_part d (nI s) nu m j p = p_part d (nI s) nu m j p := by
  unfold o_part p_part
  split
  · rename_i h
    split
    · rename_i hj
      obtain ⟨mm, h1, h2, rfl⟩ := rng_nat (a := d) (b := 10) (by omega) (by omega) h.1
      obtain ⟨jj, -, h3, rfl⟩ := rng_nat (a := 0) (b := mm) (by omega) (by omega) hj
      rw [nI_cl (show jj < 2 ^ 31 by omega), nI_cl (show mm < 2 ^ 31 by omega), terms_eq hd h1 h2 h3 hnu hs hs2]
    · rfl
  · rfl
theorem make_fg {q d s : Nat} (h3 : 3 ≤ q) (h6 : q ≤ 6) (hd : d ≤ 4) {nu : Nat → Int32} (hnu : nuOK nu) (hs : 1 ≤ s) (hs2 : s ≤ 1000) (st : Nat → Int64) (t sc v m : Int32) : o_make d (nI (2 ^ q)) (nI q) (nI s) nu st t sc v m = p_make q d (nI s) nu st t sc v m := by
  unfold o_make p_make
  split
  · split
    · rename_i h
      obtain ⟨mm, h1, h2, rfl⟩ := rng_nat (a := d) (b := 10) (by omega) (by omega) h.2.2
      rw [nI_cl (show mm < 2 ^ 31 by omega), pw_cl h6]
      have hi := may_iff (nu := nu) hd h1 h2 hs hs2
      obtain ⟨e1, e2⟩ := src_fg h3 h6 ⟨h.1, h.2.1⟩
      by_cases c : f_may d nu (nI s) mm
      · rw [if_pos c, if_neg (hi.mpr c), e1, form_eq h3 h6 hd h1 h2 hnu hs hs2 _ _ (Nat.le_refl _)]
        exact set_eq h6 (rv_and (pw_le h6) (form_rv h6 nu _ _))
      · rw [if_neg c, if_pos (Decidable.not_not.mp (fun w => c (hi.mp w)))]
    · rfl
  · rfl
theorem make_ok {q d : Nat} (h6 : q ≤ 6) {st : Nat → Int64} (hst : stOK (2 ^ q) st) (fg sc : Int32) (nu : Nat → Int32) (t s v m : Int32) : stOK (2 ^ q) (o_make d (nI (2 ^ q)) fg sc nu st t s v m).2 := by
  unfold o_make
  split
  · split
    · split
      · exact set_ok h6 hst _ _
      · exact hst
    · exact hst
  · exact hst
theorem diff_fg {q k : Nat} (h6 : q ≤ 6) (hk : k < 4) (fr sr : Nat → Int64) (v w : Nat) : f_diff (2 ^ q) (nI k) fr sr v w = g_diff (2 ^ q) (nI k) fr sr v w := by
  unfold f_diff g_diff
  rw [gate_eq (by omega) (pw_le h6), ones_eq (pw_le h6) (g_gr_rv (by omega) (pw_le h6) _ _ _)]
  split
  · rfl
  · exact Int32.zero_sub _
theorem mis_fg {q : Nat} (h3 : 3 ≤ q) (h6 : q ≤ 6) {g s u k : Int32} (h : (0 ≤ g ∧ g ≤ 3) ∧ srcs s ∧ srcs u ∧ (0 ≤ k ∧ k ≤ 63)) (mv mw : Int32) : f_mis (2 ^ q) (nI q) g s u k mv mw = g_mis q g s u k mv mw := by
  obtain ⟨a, -, ha, rfl⟩ := rng_nat (a := 0) (b := 3) (by omega) (by omega) h.1
  obtain ⟨b, -, hb, rfl⟩ := rng_nat (a := 0) (b := 63) (by omega) (by omega) h.2.2.2
  have hn := pw_le h6
  have hv : ∀ v, v < 2 ^ q + 1 → (0 : Int32) ≤ nI v ∧ nI v ≤ nI (2 ^ q) := fun v hv => ⟨nI_pos' (by omega), (nI_leI (by omega) (by omega)).mpr (by omega)⟩
  obtain ⟨r1, r2, r3⟩ := rnd_m q (by omega) b (by omega)
  unfold f_mis g_mis
  rw [f_gm_cong (fr2 := fun v => g_srow q s (nI v) (2 ^ q)) (sr2 := fun v => g_sh (nI (2 ^ q)) (g_srow q u (nI v) (2 ^ q)) (remI (nI b) (nI (2 ^ q))) (2 ^ q)) (fun v h1 => (src_fg h3 h6 ⟨h.2.1, hv v h1⟩).1) (fun v h1 => by
    obtain ⟨e1, e2⟩ := src_fg h3 h6 ⟨h.2.2.1, hv v h1⟩
    show f_shifted _ _ _ = g_sh _ _ _ _
    rw [e1]
    exact shift_eq h6 (by rw [← e2]; exact rv_low hn _) r1 r2 r3)]
  show f_gmv (2 ^ q) _ _ (2 ^ q + 1) = f_gmv (2 ^ q) _ _ (2 ^ q + 1)
  exact f_gmv_cong (fun v w _ _ => diff_fg h6 (by omega) _ _ v w) _ (Nat.le_refl _)
theorem miss_fg {q c : Nat} (h3 : 3 ≤ q) (h6 : q ≤ 6) (hc : c ≤ 60) (mv mw g s u k : Int32) : o_miss (2 ^ q) (nI q) (nI c) mv mw g s u k = p_miss q (nI c) mv mw g s u k := by
  unfold o_miss p_miss
  split
  · rename_i h
    rw [mis_fg h3 h6 h]
    by_cases z : c = 60
    · subst z; rw [if_neg (by decide), if_pos (by decide)]
    · have l1 : nI c < 60 := (nI_ltI (a := c) (b := 60) (by omega) (by omega)).mpr (by omega)
      have l2 : ¬ nI c = 60 := fun w => z ((nI_eq (a := c) (b := 60) (by omega) (by omega)).mp w)
      rw [if_pos l1, if_neg l2]
  · rfl
theorem miss_c {q c : Nat} (hc : c ≤ 60) (fg mv mw g s u k : Int32) : ∃ c2, c2 ≤ 60 ∧ (o_miss (2 ^ q) fg (nI c) mv mw g s u k).2.1 = nI c2 := by
  unfold o_miss
  split
  · split
    · rename_i h
      have := (nI_ltI (a := c) (b := 60) (by omega) (by omega)).mp h
      exact ⟨c + 1, by omega, nI_1 c⟩
    · exact ⟨c, hc, rfl⟩
  · exact ⟨c, hc, rfl⟩
theorem term_ok {dg : Int32} {nu : Nat → Int32} (hnu : nuOK nu) (i v : Int32) : nuOK (o_term dg nu i v).2 := by
  unfold o_term
  split
  · split
    · rename_i h
      intro k hk
      show -1000 ≤ (upd nu i.toNatClampNeg v k).toInt ∧ (upd nu i.toNatClampNeg v k).toInt ≤ 1000
      unfold upd
      split
      · have h1 := Int32.le_iff_toInt_le.mp h.1
        have h2 := Int32.le_iff_toInt_le.mp h.2
        rw [show (-1000 : Int32).toInt = -1000 by decide] at h1
        rw [show (1000 : Int32).toInt = 1000 by decide] at h2
        exact ⟨h1, h2⟩
      · exact hnu k hk
    · exact hnu
  · exact hnu
/-- degree's new numbers are as told -/
theorem degree_ok {d s : Nat} (hd : d ≤ 4) (hs : 1 ≤ s) (hs2 : s ≤ 1000) {nu : Nat → Int32} (hnu : nuOK nu) (n sc : Int32) : ∃ d2 s2, d2 ≤ 4 ∧ 1 ≤ s2 ∧ s2 ≤ 1000 ∧ (o_degree (nI d) (nI s) nu n sc).2.1 = nI d2 ∧ (o_degree (nI d) (nI s) nu n sc).2.2.1 = nI s2 ∧ nuOK (o_degree (nI d) (nI s) nu n sc).2.2.2 := by
  unfold o_degree
  split
  · rename_i h
    obtain ⟨d2, -, h1, rfl⟩ := rng_nat (a := 0) (b := 4) (by omega) (by omega) h.1
    obtain ⟨s2, h2, h3, rfl⟩ := rng_nat (a := 1) (b := 1000) (by omega) (by omega) h.2
    refine ⟨d2, s2, h1, h2, h3, rfl, rfl, fun i hi => ?_⟩
    show -1000 ≤ (if _ then (0 : Int32) else nu i).toInt ∧ (if _ then (0 : Int32) else nu i).toInt ≤ 1000
    split
    · decide
    · exact hnu i hi
  · exact ⟨d, s, hd, hs, hs2, rfl, rfl, hnu⟩
theorem len_q {n : Int32} (h : lens n) : ∃ q, 3 ≤ q ∧ q ≤ 6 ∧ n = nI (2 ^ q) ∧ f_bci (n - 1) = nI q := by
  rcases h with rfl | rfl | rfl | rfl
  · exact ⟨3, by omega, by omega, rfl, by decide⟩
  · exact ⟨4, by omega, by omega, rfl, by decide⟩
  · exact ⟨5, by omega, by omega, rfl, by decide⟩
  · exact ⟨6, by omega, by omega, rfl, by decide⟩
theorem length_ok {q : Nat} (h3 : 3 ≤ q) (h6 : q ≤ 6) {st : Nat → Int64} (hst : stOK (2 ^ q) st) (n : Int32) : ∃ q2, 3 ≤ q2 ∧ q2 ≤ 6 ∧ (o_length (nI (2 ^ q)) (nI q) st n).2.1 = nI (2 ^ q2) ∧ (o_length (nI (2 ^ q)) (nI q) st n).2.2.1 = nI q2 ∧ stOK (2 ^ q2) (o_length (nI (2 ^ q)) (nI q) st n).2.2.2 := by
  unfold o_length
  split
  · rename_i h
    obtain ⟨q2, a1, a2, a3, a4⟩ := len_q h
    refine ⟨q2, a1, a2, a3, a4, fun t ht => ?_⟩
    show rv _ (if t < 12 then 0 else st t)
    rw [if_pos ht]
    exact rv_0 _
  · exact ⟨q, h3, h6, rfl, rfl, hst⟩
theorem length_fg (ln fg : Int32) (st : Nat → Int64) (n : Int32) : (p_length ln st n).1 = (o_length ln fg st n).1 ∧ (p_length ln st n).2.1 = (o_length ln fg st n).2.1 ∧ (p_length ln st n).2.2 = (o_length ln fg st n).2.2.2 := by
  unfold p_length o_length
  split
  · exact ⟨rfl, rfl, rfl⟩
  · exact ⟨rfl, rfl, rfl⟩
