/-! together, ever, digest -/
theorem ct4 (a b : Int64) : ∀ n, fb_ct (fun i => sb 0 (tb a i) (tb b i)) n + fb_ct (fun i => sb 1 (tb a i) (tb b i)) n + fb_ct (fun i => sb 2 (tb a i) (tb b i)) n + fb_ct (fun i => sb 3 (tb a i) (tb b i)) n = n
  | 0 => rfl
  | n + 1 => by
    have ih := ct4 a b n
    rw [fb_ct_succ, fb_ct_succ, fb_ct_succ, fb_ct_succ]
    have h : ∀ x y : Bool, (if sb 0 x y then 1 else 0) + (if sb 1 x y then 1 else 0) + (if sb 2 x y then 1 else 0) + (if sb 3 x y then 1 else 0) = (1 : Nat) := by decide
    have h2 := h (tb a n) (tb b n)
    omega
theorem sq_bd {a b : Nat} (ha : a ≤ 64) (hb : b ≤ 64) : a * b ≤ 4096 := Nat.mul_le_mul ha hb
theorem nI_sub_le {a b : Nat} (ha : a ≤ 4096) (hb : b ≤ 4096) : nI a - nI b ≤ 0 ↔ a ≤ b := by
  rw [Int32.le_iff_toInt_le, pk_sub_toInt (by omega) (by omega), show (0 : Int32).toInt = 0 by decide]
  omega
theorem nI_sub_lt {a b : Nat} (ha : a ≤ 4096) (hb : b ≤ 4096) : nI a - nI b < 0 ↔ a < b := by
  rw [Int32.lt_iff_toInt_lt, pk_sub_toInt (by omega) (by omega), show (0 : Int32).toInt = 0 by decide]
  omega
theorem nI_sub_eq {a b : Nat} (ha : a ≤ 4096) (hb : b ≤ 4096) : nI a - nI b = 0 ↔ a = b := by
  rw [← Int32.toInt_inj, pk_sub_toInt (by omega) (by omega), show (0 : Int32).toInt = 0 by decide]
  omega
theorem below_fg {n p q r s : Nat} (hn : p + q + r + s = n) (h : n ≤ 64) : f_below (nI n) (nI p) (nI q) (nI r) (nI s) = g_below (nI n) (nI p) (nI q) (nI r) (nI s) := by
  have e1 : (if nI p - nI s < 0 then (0 : Int32) else nI p - nI s) = (if nI p ≤ nI s then 0 else nI p - nI s) := by
    by_cases c : p < s
    · rw [if_pos ((nI_sub_lt (by omega) (by omega)).mpr c), if_pos ((nI_leI (by omega) (by omega)).mpr (by omega))]
    · rw [if_neg (fun z => c ((nI_sub_lt (by omega) (by omega)).mp z))]
      by_cases c2 : p = s
      · rw [c2, if_pos (Int32.le_refl _)]; exact Int32.sub_self _
      · rw [if_neg (fun z => by have := (nI_leI (a := p) (b := s) (by omega) (by omega)).mp z; omega)]
  have e2 : (if nI p + nI r < nI p + nI q then nI p + nI r else nI p + nI q) = (if nI r ≤ nI q then nI p + nI r else nI p + nI q) := by
    rw [nI_add, nI_add]
    by_cases c : r < q
    · rw [if_pos ((nI_ltI (by omega) (by omega)).mpr (by omega)), if_pos ((nI_leI (by omega) (by omega)).mpr (by omega))]
    · rw [if_neg (fun z => by have := (nI_ltI (a := p + r) (b := p + q) (by omega) (by omega)).mp z; omega)]
      by_cases c2 : r = q
      · rw [c2, if_pos (Int32.le_refl _)]
      · rw [if_neg (fun z => by have := (nI_leI (a := r) (b := q) (by omega) (by omega)).mp z; omega)]
  unfold f_below g_below
  rw [e1, e2]
theorem pos_mul {a b : Nat} (h : 0 < a * b) : 0 < a ∧ 0 < b := ⟨Nat.pos_of_mul_pos_right h, Nat.pos_of_mul_pos_left h⟩
theorem below_ne {n p q r s : Nat} (hn : p + q + r + s = n) (h : n ≤ 64) (hd : ¬ nI p * nI s - nI q * nI r = 0) : ¬ g_below (nI n) (nI p) (nI q) (nI r) (nI s) = 0 := by
  have b1 := sq_bd (a := p) (b := s) (by omega) (by omega)
  have b2 := sq_bd (a := q) (b := r) (by omega) (by omega)
  have b3 := sq_bd (a := p + q) (b := p + r) (by omega) (by omega)
  rw [pk_mul, pk_mul, nI_sub_eq b1 b2] at hd
  unfold g_below
  rw [pk_mul, pk_mul, nI_add, nI_add, pk_mul]
  by_cases c : p * s ≤ q * r
  · rw [if_pos ((nI_sub_le b1 b2).mpr c)]
    have hqr : 0 < q * r := by omega
    have hq : 0 < q := Nat.pos_of_mul_pos_right hqr
    have hr : 0 < r := Nat.pos_of_mul_pos_left hqr
    by_cases c2 : p ≤ s
    · rw [if_pos ((nI_leI (by omega) (by omega)).mpr c2), Int32.mul_zero, Int32.sub_zero]
      exact nI_ne0 (Nat.mul_pos (by omega) (by omega)) (by omega)
    · rw [if_neg (fun z => c2 ((nI_leI (by omega) (by omega)).mp z)), pk_sub (by omega), pk_mul]
      obtain ⟨t, rfl⟩ : ∃ t, p = s + t := ⟨p - s, by omega⟩
      rw [show s + t - s = t by omega]
      have e : (s + t + q) * (s + t + r) = n * t + (q + s) * (r + s) := by
        rw [← hn]
        simp only [Nat.mul_add, Nat.add_mul]
        have k1 := Nat.mul_comm s t
        have k2 := Nat.mul_comm q t
        have k3 := Nat.mul_comm r t
        have k4 := Nat.mul_comm q s
        have k5 := Nat.mul_comm r s
        omega
      rw [pk_sub (by rw [e]; omega), e, Nat.add_sub_cancel_left]
      exact nI_ne0 (Nat.mul_pos (by omega) (by omega)) (by omega)
  · rw [if_neg (fun z => c ((nI_sub_le b1 b2).mp z))]
    have hps : 0 < p * s := by omega
    have hp : 0 < p := Nat.pos_of_mul_pos_right hps
    have hs : 0 < s := Nat.pos_of_mul_pos_left hps
    by_cases c2 : r ≤ q
    · rw [if_pos ((nI_leI (by omega) (by omega)).mpr c2), pk_mul]
      have e : n * (p + r) = (p + q) * (p + r) + (r + s) * (p + r) := by rw [← Nat.add_mul]; congr 1; omega
      rw [pk_sub (by rw [e]; omega), e, Nat.add_sub_cancel_left]
      have b4 := sq_bd (a := r + s) (b := p + r) (by omega) (by omega)
      exact nI_ne0 (Nat.mul_pos (by omega) (by omega)) (by omega)
    · rw [if_neg (fun z => c2 ((nI_leI (by omega) (by omega)).mp z)), pk_mul]
      have e : n * (p + q) = (p + q) * (p + r) + (q + s) * (p + q) := by rw [Nat.mul_comm (p + q) (p + r), ← Nat.add_mul]; congr 1; omega
      rw [pk_sub (by rw [e]; omega), e, Nat.add_sub_cancel_left]
      have b4 := sq_bd (a := q + s) (b := p + q) (by omega) (by omega)
      exact nI_ne0 (Nat.mul_pos (by omega) (by omega)) (by omega)
theorem tog_fg {n p q r s : Nat} (hn : p + q + r + s = n) (h : n ≤ 64) : f_tog (nI n) (nI p) (nI q) (nI r) (nI s) = g_tog (nI n) (nI p) (nI q) (nI r) (nI s) := by
  unfold f_tog g_tog
  rw [below_fg hn h]
  by_cases c : nI p * nI s - nI q * nI r = 0
  · rw [if_pos (Or.inl c), if_pos c]
  · rw [if_neg (fun z => z.elim c (below_ne hn h c)), if_neg c]
theorem tog_eq {n : Nat} (hn : n ≤ 64) (st : Nat → Int64) (a b : Int32) : o_together (nI n) st a b = p_together (nI n) n st a b := by
  unfold o_together p_together
  split
  · rw [show (0 : Int32) = nI 0 from rfl, show (1 : Int32) = nI 1 from rfl, show (2 : Int32) = nI 2 from rfl, show (3 : Int32) = nI 3 from rfl]
    rw [f_sort_ct (by omega) hn, f_sort_ct (by omega) hn, f_sort_ct (by omega) hn, f_sort_ct (by omega) hn, g_bo_ct (by omega) _ _ n hn, g_bo_ct (by omega) _ _ n hn, g_bo_ct (by omega) _ _ n hn, g_bo_ct (by omega) _ _ n hn]
    exact tog_fg (ct4 _ _ n) hn
  · rfl
theorem tog_lo {n : Nat} (hn : n ≤ 64) (a b : Int64) (p q r s : Int32) (e0 : p = g_bo a b 0 n) (e1 : q = g_bo a b 1 n) (e2 : r = g_bo a b 2 n) (e3 : s = g_bo a b 3 n) (h : ¬ p * s - q * r = 0) : ¬ g_below (nI n) p q r s = 0 := by
  rw [show (0 : Int32) = nI 0 from rfl, g_bo_ct (by omega) _ _ n hn] at e0
  rw [show (1 : Int32) = nI 1 from rfl, g_bo_ct (by omega) _ _ n hn] at e1
  rw [show (2 : Int32) = nI 2 from rfl, g_bo_ct (by omega) _ _ n hn] at e2
  rw [show (3 : Int32) = nI 3 from rfl, g_bo_ct (by omega) _ _ n hn] at e3
  subst e0 e1 e2 e3
  exact below_ne (ct4 _ _ n) hn h
theorem own_fg (ln k v : Int32) : ∀ j, f_own ln k v j = g_own ln k v j
  | 0 => rfl
  | j + 1 => by
    rw [f_own, g_own, own_fg ln k v j]
    by_cases c : nI j < k / 2
    · rw [if_pos c, if_neg (Int32.not_le.mpr c), Int64.add_zero]
    · rw [if_neg c, if_pos (Int32.not_lt.mp c)]
