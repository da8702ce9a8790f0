/-! for ever, by trying all; digest -/
set_option maxRecDepth 100000 in
theorem ev_3_1 : ∀ v, v < 9 → cmOK (g_own (nI 8) (nI 2) (nI v) 2) (f_all (nI 8) (nI 2) (nI v) 2) ∧ f_common (f_absL (g_own (nI 8) (nI 2) (nI v) 2)) (f_all (nI 8) (nI 2) (nI v) 2) = g_G (g_own (nI 8) (nI 2) (nI v) 2) (f_all (nI 8) (nI 2) (nI v) 2) := by decide +kernel
set_option maxRecDepth 100000 in
theorem ev_3_2 : ∀ v, v < 9 → cmOK (g_own (nI 8) (nI 4) (nI v) 4) (f_all (nI 8) (nI 4) (nI v) 4) ∧ f_common (f_absL (g_own (nI 8) (nI 4) (nI v) 4)) (f_all (nI 8) (nI 4) (nI v) 4) = g_G (g_own (nI 8) (nI 4) (nI v) 4) (f_all (nI 8) (nI 4) (nI v) 4) := by decide +kernel
set_option maxRecDepth 100000 in
theorem ev_3_3 : ∀ v, v < 9 → cmOK (g_own (nI 8) (nI 6) (nI v) 6) (f_all (nI 8) (nI 6) (nI v) 6) ∧ f_common (f_absL (g_own (nI 8) (nI 6) (nI v) 6)) (f_all (nI 8) (nI 6) (nI v) 6) = g_G (g_own (nI 8) (nI 6) (nI v) 6) (f_all (nI 8) (nI 6) (nI v) 6) := by decide +kernel
set_option maxRecDepth 100000 in
theorem ev_3_4 : ∀ v, v < 9 → cmOK (g_own (nI 8) (nI 8) (nI v) 8) (f_all (nI 8) (nI 8) (nI v) 8) ∧ f_common (f_absL (g_own (nI 8) (nI 8) (nI v) 8)) (f_all (nI 8) (nI 8) (nI v) 8) = g_G (g_own (nI 8) (nI 8) (nI v) 8) (f_all (nI 8) (nI 8) (nI v) 8) := by decide +kernel
set_option maxRecDepth 100000 in
theorem ev_4_1 : ∀ v, v < 17 → cmOK (g_own (nI 16) (nI 2) (nI v) 2) (f_all (nI 16) (nI 2) (nI v) 2) ∧ f_common (f_absL (g_own (nI 16) (nI 2) (nI v) 2)) (f_all (nI 16) (nI 2) (nI v) 2) = g_G (g_own (nI 16) (nI 2) (nI v) 2) (f_all (nI 16) (nI 2) (nI v) 2) := by decide +kernel
set_option maxRecDepth 100000 in
theorem ev_4_2 : ∀ v, v < 17 → cmOK (g_own (nI 16) (nI 4) (nI v) 4) (f_all (nI 16) (nI 4) (nI v) 4) ∧ f_common (f_absL (g_own (nI 16) (nI 4) (nI v) 4)) (f_all (nI 16) (nI 4) (nI v) 4) = g_G (g_own (nI 16) (nI 4) (nI v) 4) (f_all (nI 16) (nI 4) (nI v) 4) := by decide +kernel
set_option maxRecDepth 100000 in
theorem ev_4_3 : ∀ v, v < 17 → cmOK (g_own (nI 16) (nI 6) (nI v) 6) (f_all (nI 16) (nI 6) (nI v) 6) ∧ f_common (f_absL (g_own (nI 16) (nI 6) (nI v) 6)) (f_all (nI 16) (nI 6) (nI v) 6) = g_G (g_own (nI 16) (nI 6) (nI v) 6) (f_all (nI 16) (nI 6) (nI v) 6) := by decide +kernel
set_option maxRecDepth 100000 in
theorem ev_4_4 : ∀ v, v < 17 → cmOK (g_own (nI 16) (nI 8) (nI v) 8) (f_all (nI 16) (nI 8) (nI v) 8) ∧ f_common (f_absL (g_own (nI 16) (nI 8) (nI v) 8)) (f_all (nI 16) (nI 8) (nI v) 8) = g_G (g_own (nI 16) (nI 8) (nI v) 8) (f_all (nI 16) (nI 8) (nI v) 8) := by decide +kernel
set_option maxRecDepth 100000 in
theorem ev_5_1 : ∀ v, v < 33 → cmOK (g_own (nI 32) (nI 2) (nI v) 2) (f_all (nI 32) (nI 2) (nI v) 2) ∧ f_common (f_absL (g_own (nI 32) (nI 2) (nI v) 2)) (f_all (nI 32) (nI 2) (nI v) 2) = g_G (g_own (nI 32) (nI 2) (nI v) 2) (f_all (nI 32) (nI 2) (nI v) 2) := by decide +kernel
set_option maxRecDepth 100000 in
theorem ev_5_2 : ∀ v, v < 33 → cmOK (g_own (nI 32) (nI 4) (nI v) 4) (f_all (nI 32) (nI 4) (nI v) 4) ∧ f_common (f_absL (g_own (nI 32) (nI 4) (nI v) 4)) (f_all (nI 32) (nI 4) (nI v) 4) = g_G (g_own (nI 32) (nI 4) (nI v) 4) (f_all (nI 32) (nI 4) (nI v) 4) := by decide +kernel
set_option maxRecDepth 100000 in
theorem ev_5_3 : ∀ v, v < 33 → cmOK (g_own (nI 32) (nI 6) (nI v) 6) (f_all (nI 32) (nI 6) (nI v) 6) ∧ f_common (f_absL (g_own (nI 32) (nI 6) (nI v) 6)) (f_all (nI 32) (nI 6) (nI v) 6) = g_G (g_own (nI 32) (nI 6) (nI v) 6) (f_all (nI 32) (nI 6) (nI v) 6) := by decide +kernel
set_option maxRecDepth 100000 in
theorem ev_5_4 : ∀ v, v < 33 → cmOK (g_own (nI 32) (nI 8) (nI v) 8) (f_all (nI 32) (nI 8) (nI v) 8) ∧ f_common (f_absL (g_own (nI 32) (nI 8) (nI v) 8)) (f_all (nI 32) (nI 8) (nI v) 8) = g_G (g_own (nI 32) (nI 8) (nI v) 8) (f_all (nI 32) (nI 8) (nI v) 8) := by decide +kernel
set_option maxRecDepth 100000 in
theorem ev_6_1 : ∀ v, v < 65 → cmOK (g_own (nI 64) (nI 2) (nI v) 2) (f_all (nI 64) (nI 2) (nI v) 2) ∧ f_common (f_absL (g_own (nI 64) (nI 2) (nI v) 2)) (f_all (nI 64) (nI 2) (nI v) 2) = g_G (g_own (nI 64) (nI 2) (nI v) 2) (f_all (nI 64) (nI 2) (nI v) 2) := by decide +kernel
set_option maxRecDepth 100000 in
theorem ev_6_2 : ∀ v, v < 65 → cmOK (g_own (nI 64) (nI 4) (nI v) 4) (f_all (nI 64) (nI 4) (nI v) 4) ∧ f_common (f_absL (g_own (nI 64) (nI 4) (nI v) 4)) (f_all (nI 64) (nI 4) (nI v) 4) = g_G (g_own (nI 64) (nI 4) (nI v) 4) (f_all (nI 64) (nI 4) (nI v) 4) := by decide +kernel
set_option maxRecDepth 100000 in
theorem ev_6_3 : ∀ v, v < 65 → cmOK (g_own (nI 64) (nI 6) (nI v) 6) (f_all (nI 64) (nI 6) (nI v) 6) ∧ f_common (f_absL (g_own (nI 64) (nI 6) (nI v) 6)) (f_all (nI 64) (nI 6) (nI v) 6) = g_G (g_own (nI 64) (nI 6) (nI v) 6) (f_all (nI 64) (nI 6) (nI v) 6) := by decide +kernel
set_option maxRecDepth 100000 in
theorem ev_6_4 : ∀ v, v < 65 → cmOK (g_own (nI 64) (nI 8) (nI v) 8) (f_all (nI 64) (nI 8) (nI v) 8) ∧ f_common (f_absL (g_own (nI 64) (nI 8) (nI v) 8)) (f_all (nI 64) (nI 8) (nI v) 8) = g_G (g_own (nI 64) (nI 8) (nI v) 8) (f_all (nI 64) (nI 8) (nI v) 8) := by decide +kernel
theorem ev_all {q h v : Nat} (h3 : 3 ≤ q) (h6 : q ≤ 6) (h0 : 0 < h) (h5 : h < 5) (hv : v ≤ 2 ^ q) : cmOK (g_own (nI (2 ^ q)) (nI (2 * h)) (nI v) (2 * h)) (f_all (nI (2 ^ q)) (nI (2 * h)) (nI v) (2 * h)) ∧ f_common (f_absL (g_own (nI (2 ^ q)) (nI (2 * h)) (nI v) (2 * h))) (f_all (nI (2 ^ q)) (nI (2 * h)) (nI v) (2 * h)) = g_G (g_own (nI (2 ^ q)) (nI (2 * h)) (nI v) (2 * h)) (f_all (nI (2 ^ q)) (nI (2 * h)) (nI v) (2 * h)) := by
  rcases (show q = 3 ∨ q = 4 ∨ q = 5 ∨ q = 6 by omega) with rfl | rfl | rfl | rfl <;> rcases (show h = 1 ∨ h = 2 ∨ h = 3 ∨ h = 4 by omega) with rfl | rfl | rfl | rfl
  · exact ev_3_1 v (by omega)
  · exact ev_3_2 v (by omega)
  · exact ev_3_3 v (by omega)
  · exact ev_3_4 v (by omega)
  · exact ev_4_1 v (by omega)
  · exact ev_4_2 v (by omega)
  · exact ev_4_3 v (by omega)
  · exact ev_4_4 v (by omega)
  · exact ev_5_1 v (by omega)
  · exact ev_5_2 v (by omega)
  · exact ev_5_3 v (by omega)
  · exact ev_5_4 v (by omega)
  · exact ev_6_1 v (by omega)
  · exact ev_6_2 v (by omega)
  · exact ev_6_3 v (by omega)
  · exact ev_6_4 v (by omega)
theorem ev_cm {q : Nat} (h3 : 3 ≤ q) (h6 : q ≤ 6) {k v p : Int32} (hC : mach k ∧ (0 ≤ v ∧ v ≤ nI (2 ^ q)) ∧ (0 ≤ p ∧ p ≤ 1)) : cmOK (g_own (nI (2 ^ q)) k v k.toNatClampNeg) (f_all (nI (2 ^ q)) k v k.toNatClampNeg) := by
  obtain ⟨h, h0, h5, rfl⟩ := mach_nat hC.1
  obtain ⟨j, -, hj, rfl⟩ := rng_nat (a := 0) (b := 2 ^ q) (by have := pw_le h6; omega) (Nat.zero_le _) hC.2.1
  rw [nI_cl (show 2 * h < 2 ^ 31 by omega)]
  exact (ev_all h3 h6 h0 h5 hj).1
theorem ever_eq {q : Nat} (h3 : 3 ≤ q) (h6 : q ≤ 6) (k v p : Int32) : o_ever (nI (2 ^ q)) k v p = p_ever (nI (2 ^ q)) k v p := by
  unfold o_ever p_ever
  split
  · rename_i hC
    obtain ⟨h, h0, h5, rfl⟩ := mach_nat hC.1
    obtain ⟨j, -, hj, rfl⟩ := rng_nat (a := 0) (b := 2 ^ q) (by have := pw_le h6; omega) (Nat.zero_le _) hC.2.1
    rw [nI_cl (show 2 * h < 2 ^ 31 by omega)]
    unfold f_terms
    rw [own_fg, (ev_all h3 h6 h0 h5 hj).2]
  · rfl
/-- the streams have no bits from n on -/
def stOK (n : Nat) (st : Nat → Int64) : Prop := ∀ t, t < 12 → rv n (st t)
theorem dg1_eq {n : Nat} (hn : n ≤ 64) {st : Nat → Int64} (h : stOK n st) (x : Int64) : ∀ t, t ≤ 12 → f_dg1 x st t = p_dg1 n x st t
  | 0, _ => rfl
  | t + 1, ht => by rw [f_dg1, p_dg1, dg1_eq hn h x t (by omega), ones_eq hn (h t (by omega))]
theorem digest_eq {n : Nat} (hn : n ≤ 64) {st : Nat → Int64} (h : stOK n st) (ln dg sc ms mi : Int32) (nu : Nat → Int32) : o_digest ln dg sc ms mi st nu = p_digest n ln dg sc ms mi st nu := by
  unfold o_digest p_digest
  rw [dg1_eq hn h _ 12 (Nat.le_refl _)]
