/-! the reference's methods as functions -/
theorem in32 {lo hi : Int64} {a l h : Int32} (e1 : l.toInt64 = lo) (e2 : h.toInt64 = hi) : (lo ≤ a.toInt64 ∧ a.toInt64 ≤ hi) ↔ (l ≤ a ∧ a ≤ h) := by
  subst e1; subst e2
  exact and_congr (fa_wide_le l a) (fa_wide_le a h)
def g_ones (r : Int64) : Nat → Int32
  | 0 => 0
  | k + 1 => g_ones r k + g_bitOf r (nI k)
def g_rl (i : Int32) : Nat → Int32
  | 0 => i
  | j + 1 => g_rl i j / 2
def g_rv (i : Int32) : Nat → Int32
  | 0 => 0
  | j + 1 => 2 * g_rv i j + remI (g_rl i j) 2
def g_regn (taps r : Int32) : Int32 := if remI r 2 = 1 then (r / 2) ^^^ taps else r / 2
def g_reg (taps : Int32) : Nat → Int32
  | 0 => 1
  | k + 1 => g_regn taps (g_reg taps k)
def g_isv (q : Nat) (s v : Int32) (k : Nat) (r : Int32) : Int32 := if s = 0 then bI (nI k < v) else if s = 1 then bI (g_rv (nI k) q < v) else if s = 2 then bI (v * nI k / nI (2 ^ q) < v * (nI k + 1) / nI (2 ^ q)) else if nI k = nI (2 ^ q) - 1 then bI (nI (2 ^ q) ≤ v) else bI (r ≤ v)
theorem g_isv_r {q : Nat} {s v : Int32} {k : Nat} {r r2 : Int32} (h : ¬ s = 0 → ¬ s = 1 → ¬ s = 2 → r = r2) : g_isv q s v k r = g_isv q s v k r2 := by
  unfold g_isv
  by_cases h0 : s = 0
  · rw [if_pos h0, if_pos h0]
  by_cases h1 : s = 1
  · rw [if_neg h0, if_neg h0, if_pos h1, if_pos h1]
  by_cases h2 : s = 2
  · rw [if_neg h0, if_neg h0, if_neg h1, if_neg h1, if_pos h2, if_pos h2]
  · rw [h h0 h1 h2]
def g_srow (q : Nat) (s v : Int32) : Nat → Int64
  | 0 => 0
  | k + 1 => g_srow q s v k ||| (if g_isv q s v k (g_reg (f_taps (nI (2 ^ q))) k) = 0 then 0 else shlL 1 (nI k))
def g_gr (g : Int32) (a b c : Int64) : Nat → Int64
  | 0 => 0
  | k + 1 => g_gr g a b c k ||| shlL (g_gated g (g_bitOf a (nI k)) (g_bitOf b (nI k)) (g_bitOf c (nI k))).toInt64 (nI k)
def g_sh (ln : Int32) (r : Int64) (b : Int32) : Nat → Int64
  | 0 => 0
  | k + 1 => g_sh ln r b k ||| shlL (g_bitOf r (remI (nI k + b) ln)).toInt64 (nI k)
def g_bx (s x y : Int32) : Int32 := if s = 0 then x * y else if s = 1 then x * (1 - y) else if s = 2 then (1 - x) * y else (1 - x) * (1 - y)
def g_bo (a b : Int64) (s : Int32) : Nat → Int32
  | 0 => 0
  | k + 1 => g_bo a b s k + g_bx s (g_bitOf a (nI k)) (g_bitOf b (nI k))
def g_low (m : Int32) : Nat → Int64
  | 0 => 1
  | k + 1 => g_low m k * g_chosen m k
def g_pu (nu : Nat → Int32) (low : Int64) (m j : Int32) : Nat → Int64
  | 0 => 0
  | k + 1 => g_pu nu low m j k + g_chosen j k * (nu k).toInt64 * (low / g_chosen m k)
def g_U (d : Nat) (nu : Nat → Int32) (mm j : Nat) : Int64 := g_pu nu (g_low (nI mm) (d + 1)) (nI mm) (nI j) (min d j + 1)
def g_Y (d : Nat) (sc : Int32) (mm : Nat) : Int64 := g_low (nI mm) (d + 1) * sc.toInt64
def g_G (u y : Int64) : Int64 := lN (Nat.gcd u.toInt.natAbs y.toInt.natAbs)
/-- what the reference's common() asks of its numbers -/
abbrev cmOK (u y : Int64) : Prop := g_abs u = lN u.toInt.natAbs ∧ u.toInt.natAbs < 2 ^ 63 ∧ y = lN y.toInt.natAbs ∧ y.toInt.natAbs < 2 ^ 63 ∧ ¬ g_G u y = 0
abbrev g_okP (d : Nat) (nu : Nat → Int32) (sc : Int32) (mm j : Nat) : Prop := ¬ g_U d nu mm j / g_G (g_U d nu mm j) (g_Y d sc mm) < 0 ∧ ¬ g_Y d sc mm / g_G (g_U d nu mm j) (g_Y d sc mm) < g_U d nu mm j / g_G (g_U d nu mm j) (g_Y d sc mm)
abbrev g_mv (d : Nat) (nu : Nat → Int32) (sc : Int32) (mm k : Nat) : Int32 := bI (∀ i, i < k → g_okP d nu sc mm i)
theorem ch_ne : ∀ mm, mm < 11 → ∀ k, k < 5 → k ≤ mm → ¬ g_chosen (nI mm) k = 0 := by decide +kernel
theorem pw_end {j q : Nat} (hj : j ≤ q) (hq : q ≤ 6) (h : nI (2 ^ q) ≤ nI (2 ^ j)) : j = q := by
  have h6 : 2 ^ q ≤ 2 ^ 6 := Nat.pow_le_pow_right (by omega) hq
  have h7 : 2 ^ j ≤ 2 ^ 6 := Nat.pow_le_pow_right (by omega) (by omega)
  have h1 := (nI_leI (a := 2 ^ q) (b := 2 ^ j) (by omega) (by omega)).mp h
  have h2 := (Nat.pow_le_pow_iff_right (a := 2) (by omega)).mp h1
  omega
theorem pw_go {j q : Nat} (hj : j ≤ q) (hq : q ≤ 6) (h : ¬ nI (2 ^ q) ≤ nI (2 ^ j)) : j < q := by
  rcases Nat.lt_or_ge j q with z | z
  · exact z
  · exact absurd (by rw [show j = q by omega]; exact Int32.le_refl _) h
theorem pw_le {q : Nat} (hq : q ≤ 6) : 2 ^ q ≤ 64 := Nat.pow_le_pow_right (n := 2) (by omega) hq
theorem pw_pos (q : Nat) : 0 < 2 ^ q := Nat.pow_pos (by omega)
theorem pw_ne {q : Nat} (hq : q ≤ 6) : ¬ nI (2 ^ q) = 0 := nI_ne0 (pw_pos q) (by have := pw_le hq; omega)
theorem pw_cl {q : Nat} (hq : q ≤ 6) : (nI (2 ^ q)).toNatClampNeg = 2 ^ q := nI_cl (by have := pw_le hq; omega)
theorem updL_same (f : Nat → Int64) (k : Nat) : vp_updL f k (f k) = f := by
  funext j; unfold vp_updL; split
  · rename_i h; rw [h]
  · rfl
theorem updL_twice (f : Nat → Int64) (k : Nat) (x y : Int64) : vp_updL (vp_updL f k x) k y = vp_updL f k y := by
  funext j; unfold vp_updL; split <;> rfl
theorem g_bitOf_01 (r : Int64) (i : Int32) : g_bitOf r i = 0 ∨ g_bitOf r i = 1 := by
  unfold g_bitOf
  obtain ⟨x, hx, e⟩ := wb_of32 (ushrL r i).toInt32
  rw [e]
  have h := pk_andN hx (m := 1) 1 (by decide)
  rw [h]
  rcases (show x % 2 ^ 1 = 0 ∨ x % 2 ^ 1 = 1 by omega) with q | q <;> rw [q]
  · exact Or.inl rfl
  · exact Or.inr rfl
