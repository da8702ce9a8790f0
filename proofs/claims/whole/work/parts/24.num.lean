/-! Euclid, parts, floors -/
theorem remL_lN {a b : Nat} (ha : a < 2 ^ 63) (h0 : 0 < b) (hb : b < 2 ^ 63) : remL (lN a) (lN b) = lN (a % b) := pk_lRem ha h0 hb
theorem lN_ne {b : Nat} (h0 : 0 < b) (hb : b < 2 ^ 63) : ¬ lN b = 0 := fun h => absurd ((pk_lEQ (a := b) (b := 0) hb (by omega)).mp h) (by omega)
theorem gcd_st (A B : Nat) : Nat.gcd B (A % B) = Nat.gcd A B := by rw [Nat.gcd_comm B (A % B), ← Nat.gcd_rec B A, Nat.gcd_comm]
theorem half_st {A B n : Nat} (hBA : B ≤ A) (h0 : 0 < B) (h : A * B < 2 ^ (n + 1)) : B * (A % B) < 2 ^ n := by
  have h1 : A % B < B := Nat.mod_lt _ h0
  have h2 : B * 1 ≤ B * (A / B) := Nat.mul_le_mul_left B ((Nat.one_le_div_iff h0).mpr hBA)
  have h3 : B * (A / B) + A % B = A := Nat.div_add_mod A B
  have h4 : 2 * (A % B) ≤ A := by omega
  have h5 : 2 * (A % B) * B ≤ A * B := Nat.mul_le_mul_right B h4
  rw [Nat.pow_succ] at h
  have h6 : 2 * (A % B) * B = 2 * (B * (A % B)) := by rw [Nat.mul_assoc, Nat.mul_comm (A % B) B]
  omega
theorem f_cd_A : ∀ n A B : Nat, B ≤ A → A < 2 ^ 63 → A * B < 2 ^ n → f_cd (n + 1) (lN A) (lN B) = lN (Nat.gcd A B)
  | n, A, B, hBA, hA, h => by
    rw [f_cd]
    rcases Nat.eq_zero_or_pos B with z | z
    · subst z; rw [if_pos (show lN 0 = 0 from rfl), Nat.gcd_zero_right]
    · rw [if_neg (lN_ne z (by omega)), remL_lN hA z (by omega)]
      cases n with
      | zero =>
        have h7 : 1 * 1 ≤ A * B := Nat.mul_le_mul (by omega) z
        omega
      | succ n => rw [f_cd_A n B (A % B) (Nat.le_of_lt (Nat.mod_lt _ z)) (by omega) (half_st hBA z h), gcd_st]
theorem f_cd_gcd {A B : Nat} (hA : A < 2 ^ 63) (hB : B < 2 ^ 63) (h : A * B < 2 ^ 98) : f_cd 100 (lN A) (lN B) = lN (Nat.gcd A B) := by
  rcases Nat.lt_or_ge A B with z | z
  · rw [f_cd, if_neg (lN_ne (by omega) hB), remL_lN hA (by omega) hB, Nat.mod_eq_of_lt z, f_cd_A 98 B A (by omega) hB (by rw [Nat.mul_comm]; exact h), Nat.gcd_comm]
  · exact f_cd_A 99 A B z hA (Nat.lt_of_lt_of_le h (by decide))
theorem abs_fg (a : Int64) : f_absL a = g_abs a := by
  unfold f_absL g_abs
  by_cases h : 0 < a
  · rw [if_pos h, if_pos (by rw [Int64.le_iff_toInt_le]; rw [Int64.lt_iff_toInt_lt] at h; omega)]
  · rw [if_neg h]
    by_cases z : 0 ≤ a
    · rw [if_pos z]
      have : a = 0 := Int64.toInt_inj.mp (by rw [Int64.lt_iff_toInt_lt] at h; rw [Int64.le_iff_toInt_le] at z; omega)
      rw [this]; rfl
    · rw [if_neg z]
theorem g_abs_nat {u : Int64} (h : u.toInt.natAbs < 2 ^ 63) : g_abs u = lN u.toInt.natAbs := by
  apply Int64.toInt_inj.mp
  rw [pk_lT h]
  unfold g_abs
  have e0 : (0 : Int64).toInt = 0 := by decide
  by_cases z : 0 ≤ u
  · rw [if_pos z]; rw [Int64.le_iff_toInt_le, e0] at z; omega
  · rw [if_neg z]; rw [Int64.le_iff_toInt_le, e0] at z
    rw [Int64.toInt_neg, fb_bmodL (by omega) (by omega)]; omega
theorem gG_pos {u : Int64} {Y : Nat} (h0 : 0 < Y) : 0 < Nat.gcd u.toInt.natAbs Y := Nat.gcd_pos_of_pos_right _ h0
theorem lN_abs {Y : Nat} (hY : Y < 2 ^ 63) : (lN Y).toInt.natAbs = Y := by rw [pk_lT hY]; rfl
theorem cmOK_of {u : Int64} {Y : Nat} (hu : u.toInt.natAbs < 2 ^ 63) (h0 : 0 < Y) (hY : Y < 2 ^ 63) : cmOK u (lN Y) := by
  have e := lN_abs hY
  refine ⟨g_abs_nat hu, hu, by rw [e], by rw [e]; exact hY, ?_⟩
  unfold g_G
  rw [e]
  exact lN_ne (gG_pos h0) (Nat.lt_of_le_of_lt (Nat.gcd_le_right _ h0) hY)
theorem cdv_eq {u : Int64} {Y : Nat} (hu : u.toInt.natAbs < 2 ^ 60) (h0 : 0 < Y) (hY : Y < 2 ^ 38) : f_common (f_absL u) (lN Y) = g_G u (lN Y) := by
  unfold f_common g_G
  have hp : u.toInt.natAbs * Y < 2 ^ 98 := Nat.lt_of_lt_of_le (Nat.mul_lt_mul'' hu hY) (by decide)
  rw [abs_fg, g_abs_nat (by omega), lN_abs (by omega), f_cd_gcd (by omega) (by omega) hp]
  have g0 := gG_pos (u := u) h0
  have g1 : Nat.gcd u.toInt.natAbs Y ≤ Y := Nat.gcd_le_right _ h0
  by_cases z : 1 < Nat.gcd u.toInt.natAbs Y
  · have q1 : (1 : Int64) < lN (Nat.gcd u.toInt.natAbs Y) := (pk_lLT (a := 1) (by omega) (by omega)).mpr z
    rw [if_pos q1]
  · have q1 : ¬ (1 : Int64) < lN (Nat.gcd u.toInt.natAbs Y) := fun h => z ((pk_lLT (a := 1) (by omega) (by omega)).mp h)
    rw [if_neg q1, show Nat.gcd u.toInt.natAbs Y = 1 by omega]; rfl
/-- what dividing by the greatest common divisor gives -/
theorem divG {u : Int64} {Y : Nat} (h0 : 0 < Y) (hY : Y < 2 ^ 38) : ∃ (G : Nat) (a b : Int), 0 < G ∧ u.toInt = G * a ∧ (Y : Int) = G * b ∧ (u / g_G u (lN Y)).toInt = a ∧ (lN Y / g_G u (lN Y)).toInt = b := by
  have e := lN_abs (Y := Y) (by omega)
  have g0 := gG_pos (u := u) h0
  have g1 : Nat.gcd u.toInt.natAbs Y ≤ Y := Nat.gcd_le_right _ h0
  have d1 : (Nat.gcd u.toInt.natAbs Y : Int) ∣ u.toInt := Int.ofNat_dvd_left.mpr (Nat.gcd_dvd_left _ _)
  have d2 : (Nat.gcd u.toInt.natAbs Y : Int) ∣ (Y : Int) := Int.natCast_dvd_natCast.mpr (Nat.gcd_dvd_right _ _)
  have eg : g_G u (lN Y) = lN (Nat.gcd u.toInt.natAbs Y) := by unfold g_G; rw [e]
  rw [eg]
  generalize Nat.gcd u.toInt.natAbs Y = g at g0 g1 d1 d2
  obtain ⟨a, ha⟩ := d1
  obtain ⟨b, hb⟩ := d2
  have et : (lN g).toInt = (g : Int) := pk_lT (by omega)
  have hm : lN g ≠ -1 := fun q => by
    have := congrArg Int64.toInt q
    rw [et, show (-1 : Int64).toInt = -1 by decide] at this
    omega
  have hg : (g : Int) ≠ 0 := by omega
  refine ⟨g, a, b, g0, ha, hb, ?_, ?_⟩
  · rw [Int64.toInt_div_of_ne_right _ _ hm, et, ha]
    exact Int.mul_tdiv_cancel_left a hg
  · rw [Int64.toInt_div_of_ne_right _ _ hm, et, pk_lT (by omega), hb]
    exact Int.mul_tdiv_cancel_left b hg
set_option maxRecDepth 100000 in
theorem tab_ways : ∀ j, j < 11 → ∀ k, k < 5 → k ≤ j → f_ways (nI j) (nI k) k = g_chosen (nI j) k ∧ g_chosen (nI j) k = lN (g_chosen (nI j) k).toInt.toNat ∧ (g_chosen (nI j) k).toInt.toNat ≤ 210 := by decide +kernel
set_option maxRecDepth 100000 in
theorem tab_wb0 : ∀ m, m < 11 → ∀ k, k < 5 → 0 ≤ m → k ≤ 0 → f_wb (nI m) (nI k) (0 + 1) = g_low (nI m) (0 + 1) / g_chosen (nI m) k ∧ f_wb (nI m) (nI k) (0 + 1) = lN (f_wb (nI m) (nI k) (0 + 1)).toInt.toNat ∧ (f_wb (nI m) (nI k) (0 + 1)).toInt.toNat ≤ 11340000 := by decide +kernel
theorem tab_wb1 : ∀ m, m < 11 → ∀ k, k < 5 → 1 ≤ m → k ≤ 1 → f_wb (nI m) (nI k) (1 + 1) = g_low (nI m) (1 + 1) / g_chosen (nI m) k ∧ f_wb (nI m) (nI k) (1 + 1) = lN (f_wb (nI m) (nI k) (1 + 1)).toInt.toNat ∧ (f_wb (nI m) (nI k) (1 + 1)).toInt.toNat ≤ 11340000 := by decide +kernel
theorem tab_wb2 : ∀ m, m < 11 → ∀ k, k < 5 → 2 ≤ m → k ≤ 2 → f_wb (nI m) (nI k) (2 + 1) = g_low (nI m) (2 + 1) / g_chosen (nI m) k ∧ f_wb (nI m) (nI k) (2 + 1) = lN (f_wb (nI m) (nI k) (2 + 1)).toInt.toNat ∧ (f_wb (nI m) (nI k) (2 + 1)).toInt.toNat ≤ 11340000 := by decide +kernel
theorem tab_wb3 : ∀ m, m < 11 → ∀ k, k < 5 → 3 ≤ m → k ≤ 3 → f_wb (nI m) (nI k) (3 + 1) = g_low (nI m) (3 + 1) / g_chosen (nI m) k ∧ f_wb (nI m) (nI k) (3 + 1) = lN (f_wb (nI m) (nI k) (3 + 1)).toInt.toNat ∧ (f_wb (nI m) (nI k) (3 + 1)).toInt.toNat ≤ 11340000 := by decide +kernel
theorem tab_wb4 : ∀ m, m < 11 → ∀ k, k < 5 → 4 ≤ m → k ≤ 4 → f_wb (nI m) (nI k) (4 + 1) = g_low (nI m) (4 + 1) / g_chosen (nI m) k ∧ f_wb (nI m) (nI k) (4 + 1) = lN (f_wb (nI m) (nI k) (4 + 1)).toInt.toNat ∧ (f_wb (nI m) (nI k) (4 + 1)).toInt.toNat ≤ 11340000 := by decide +kernel
theorem tab_wb (d : Nat) (hd : d < 5) (m : Nat) (hm : m < 11) (k : Nat) (hk : k < 5) (h1 : d ≤ m) (h2 : k ≤ d) : f_wb (nI m) (nI k) (d + 1) = g_low (nI m) (d + 1) / g_chosen (nI m) k ∧ f_wb (nI m) (nI k) (d + 1) = lN (f_wb (nI m) (nI k) (d + 1)).toInt.toNat ∧ (f_wb (nI m) (nI k) (d + 1)).toInt.toNat ≤ 11340000 := by
  rcases (show d = 0 ∨ d = 1 ∨ d = 2 ∨ d = 3 ∨ d = 4 by omega) with rfl | rfl | rfl | rfl | rfl
  · exact tab_wb0 m hm k hk h1 h2
  · exact tab_wb1 m hm k hk h1 h2
  · exact tab_wb2 m hm k hk h1 h2
  · exact tab_wb3 m hm k hk h1 h2
  · exact tab_wb4 m hm k hk h1 h2
set_option maxRecDepth 100000 in
theorem tab_low : ∀ d, d < 5 → ∀ m, m < 11 → d ≤ m → f_wb (nI m) (-1) (d + 1) = g_low (nI m) (d + 1) ∧ g_low (nI m) (d + 1) = lN (g_low (nI m) (d + 1)).toInt.toNat ∧ 0 < (g_low (nI m) (d + 1)).toInt.toNat ∧ (g_low (nI m) (d + 1)).toInt.toNat ≤ 11340000 := by decide +kernel
theorem up_eq {d m j : Nat} (hd : d ≤ 4) (hdm : d ≤ m) (hm : m ≤ 10) (hj : j ≤ m) (nu : Nat → Int32) : f_up d nu (nI m) j = g_U d nu m j := by
  unfold f_up g_U
  have h : ∀ k, k ≤ min d j + 1 → f_pa d nu (nI m) (nI j) k = g_pu nu (g_low (nI m) (d + 1)) (nI m) (nI j) k := by
    intro k
    induction k with
    | zero => intro _; rfl
    | succ k ih =>
      intro hk
      rw [f_pa, g_pu, ih (by omega), (tab_ways j (by omega) k (by omega) (by omega)).1, (tab_wb d (by omega) m (by omega) k (by omega) hdm (by omega)).1]
  exact h _ (Nat.le_refl _)
theorem pb_eq {d m s : Nat} (hd : d ≤ 4) (hdm : d ≤ m) (hm : m ≤ 10) (hs : 1 ≤ s) (hs2 : s ≤ 1000) : ∃ Y, 0 < Y ∧ Y < 2 ^ 38 ∧ f_pb d (nI s) (nI m) = lN Y ∧ g_Y d (nI s) m = lN Y := by
  obtain ⟨t1, t2, t3, t4⟩ := tab_low d (by omega) m (by omega) hdm
  generalize (g_low (nI m) (d + 1)).toInt.toNat = w at t2 t3 t4
  have hb : s * w ≤ 1000 * 11340000 := Nat.mul_le_mul hs2 t4
  refine ⟨s * w, Nat.mul_pos hs t3, by omega, ?_, ?_⟩
  · unfold f_pb; rw [t1, t2, nI_l (by omega), lN_mul]
  · unfold g_Y; rw [t2, nI_l (by omega), lN_mul, Nat.mul_comm]
theorem term_bd {a b : Nat} {x : Int32} (ha : a ≤ 210) (hb : b ≤ 11340000) (h1 : -1000 ≤ x.toInt) (h2 : x.toInt ≤ 1000) : -2381400000000 ≤ (lN a * x.toInt64 * lN b).toInt ∧ (lN a * x.toInt64 * lN b).toInt ≤ 2381400000000 := by
  have ea : (lN a).toInt = (a : Int) := pk_lT (by omega)
  have eb : (lN b).toInt = (b : Int) := pk_lT (by omega)
  have ex : x.toInt64.toInt = x.toInt := Int32.toInt_toInt64 x
  have k1 : (a : Int) * x.toInt ≤ 210 * 1000 := by
    rcases Int.le_total 0 x.toInt with z | z
    · exact Int.mul_le_mul (by omega) h2 z (by omega)
    · exact Int.le_trans (Int.mul_nonpos_of_nonneg_of_nonpos (by omega) z) (by omega)
  have k2 : -(210 * 1000) ≤ (a : Int) * x.toInt := by
    have : (a : Int) * (-x.toInt) ≤ 210 * 1000 := by
      rcases Int.le_total 0 (-x.toInt) with z | z
      · exact Int.mul_le_mul (by omega) (by omega) z (by omega)
      · exact Int.le_trans (Int.mul_nonpos_of_nonneg_of_nonpos (by omega) z) (by omega)
    rw [Int.mul_neg] at this
    omega
  have m1 : (lN a * x.toInt64).toInt = (a : Int) * x.toInt := by rw [fb_mulL (by rw [ea, ex]; omega) (by rw [ea, ex]; omega), ea, ex]
  generalize hy : (a : Int) * x.toInt = y at k1 k2 m1
  have k3 : y * b ≤ 210 * 1000 * 11340000 := by
    rcases Int.le_total 0 y with z | z
    · exact Int.mul_le_mul k1 (by omega) (by omega) (by omega)
    · exact Int.le_trans (Int.mul_nonpos_of_nonpos_of_nonneg z (by omega)) (by omega)
  have k4 : -(210 * 1000 * 11340000) ≤ y * b := by
    have : (-y) * b ≤ 210 * 1000 * 11340000 := by
      rcases Int.le_total 0 (-y) with z | z
      · exact Int.mul_le_mul (by omega) (by omega) (by omega) (by omega)
      · exact Int.le_trans (Int.mul_nonpos_of_nonpos_of_nonneg z (by omega)) (by omega)
    rw [Int.neg_mul] at this
    omega
  rw [fb_mulL (by rw [m1, eb]; omega) (by rw [m1, eb]; omega), m1, eb]
  omega
theorem up_bd {d m j : Nat} (hd : d ≤ 4) (hdm : d ≤ m) (hm : m ≤ 10) (hj : j ≤ m) {nu : Nat → Int32} (hnu : ∀ i, i < 5 → -1000 ≤ (nu i).toInt ∧ (nu i).toInt ≤ 1000) : (f_up d nu (nI m) j).toInt.natAbs < 2 ^ 44 := by
  unfold f_up
  have h : ∀ k : Nat, k ≤ min d j + 1 → -(k * 2381400000000 : Int) ≤ (f_pa d nu (nI m) (nI j) k).toInt ∧ (f_pa d nu (nI m) (nI j) k).toInt ≤ k * 2381400000000 := by
    intro k
    induction k with
    | zero => intro _; show _ ≤ (0 : Int64).toInt ∧ (0 : Int64).toInt ≤ _; decide
    | succ k ih =>
      intro hk
      obtain ⟨i1, i2⟩ := ih (by omega)
      obtain ⟨w1, w2, w3⟩ := tab_ways j (by omega) k (by omega) (by omega)
      obtain ⟨-, v2, v3⟩ := tab_wb d (by omega) m (by omega) k (by omega) hdm (by omega)
      obtain ⟨n1, n2⟩ := hnu k (by omega)
      rw [f_pa, w1, w2, v2]
      obtain ⟨t1, t2⟩ := term_bd w3 v3 n1 n2
      rw [fb_addL (by omega) (by omega)]
      omega
  obtain ⟨h1, h2⟩ := h _ (Nat.le_refl _)
  generalize (f_pa d nu (nI m) (nI j) (min d j + 1)).toInt = z at h1 h2
  omega
