/-! the class's Rows, Form and private methods as functions -/
def f_round (ln i : Int32) : Int32 := i &&& (ln - 1)
def f_turn (i : Int32) : Nat → Int32
  | 0 => 0
  | k + 1 => (f_turn i k <<< ((1 : Int32) &&& 31)) ||| ((i >>> (nI k &&& 31)) &&& 1)
def f_shifted (ln : Int32) (r : Int64) (k : Int32) : Int64 := (ushrL r (f_round ln k) ||| shlL r (ln - f_round ln k)) &&& f_low ln
def f_tRow (fg : Int32) : Nat → Int64
  | 0 => 0
  | k + 1 => f_tRow fg k ||| shlL 1 (f_turn (nI k) fg.toNatClampNeg)
def f_sRow (fg v : Int32) : Nat → Int64
  | 0 => 0
  | k + 1 => if (v * (nI k + 1)) >>> (fg &&& 31) ≤ (v * nI k) >>> (fg &&& 31) then f_sRow fg v k else f_sRow fg v k ||| shlL 1 (nI k)
def f_taps (ln : Int32) : Int32 := if ln = 8 then 6 else if ln = 16 then 12 else if ln = 32 then 20 else 48
def f_regn (taps r : Int32) : Int32 := if r &&& 1 = 1 then (r >>> ((1 : Int32) &&& 31)) ^^^ taps else r >>> ((1 : Int32) &&& 31)
def f_reg (taps : Int32) : Nat → Int32
  | 0 => 1
  | k + 1 => f_regn taps (f_reg taps k)
def f_rRow (taps v : Int32) : Nat → Int64
  | 0 => 0
  | k + 1 => if v < f_reg taps k then f_rRow taps v k else f_rRow taps v k ||| shlL 1 (nI k)
def f_register (ln v : Int32) : Int64 := if v < ln then f_rRow (f_taps ln) v (ln - 1).toNatClampNeg else f_rRow (f_taps ln) v (ln - 1).toNatClampNeg ||| shlL 1 (ln - 1)
def f_src (ln fg s v : Int32) : Int64 := if s = 0 then f_low v else if s = 1 then f_tRow fg v.toNatClampNeg else if s = 2 then f_sRow fg v ln.toNatClampNeg else f_register ln v
def f_wb (m lo : Int32) : Nat → Int64
  | 0 => 1
  | k + 1 => if nI k = lo then f_wb m lo k else f_wb m lo k * f_ways m (nI k) k
def f_pb (d : Nat) (sc m : Int32) : Int64 := sc.toInt64 * f_wb m (-1) (d + 1)
def f_pa (d : Nat) (nu : Nat → Int32) (m j : Int32) : Nat → Int64
  | 0 => 0
  | k + 1 => f_pa d nu m j k + f_ways j (nI k) k * (nu k).toInt64 * f_wb m (nI k) (d + 1)
/-- the j-th part's upper number -/
def f_up (d : Nat) (nu : Nat → Int32) (m : Int32) (j : Nat) : Int64 := f_pa d nu m (nI j) (min d j + 1)
abbrev f_ok (d : Nat) (nu : Nat → Int32) (sc m : Int32) (j : Nat) : Prop := ¬ f_up d nu m j < 0 ∧ f_up d nu m j ≤ f_pb d sc m
def f_th (d : Nat) (nu : Nat → Int32) (v ln : Int32) : Nat → Int64
  | 0 => 0
  | k + 1 => f_th d nu v ln k + (nu k).toInt64 * f_power v.toInt64 k * f_power ln.toInt64 (nI d - nI k).toNatClampNeg
def f_max1 (x : Int64) : Int64 := if 1 < x then x else 1
theorem f_max1_ne (x : Int64) : ¬ f_max1 x = 0 := by
  unfold f_max1
  split
  · rename_i h
    intro q
    rw [q] at h
    exact absurd h (by decide)
  · decide
def f_at (d : Nat) (nu : Nat → Int32) (sc v ln : Int32) : Int32 := (f_floorDiv (1000 * f_th d nu v ln (d + 1)) (f_max1 (sc.toInt64 * f_power ln.toInt64 d))).toInt32
def f_sort (ln : Int32) (a b : Int64) (s : Int32) : Int32 := f_bc (((if s = 0 ∨ s = 1 then a else a ^^^ (-1)) &&& (if s = 0 ∨ s = 2 then b else b ^^^ (-1))) &&& f_low ln)
def f_due (ln g v w : Int32) : Int32 := if g = 0 then v * w else if g = 1 then ln * (v + w) - v * w else if g = 2 then ln * (v + w) - 2 * v * w else ln * ln - (ln * (v + w) - 2 * v * w)
/-- the machine: state and own bits -/
def f_mst (r : Int64) (k : Int32) : Nat → Int32
  | 0 => k / 2 - 1
  | i + 1 => if f_bitOf r (nI i) = 1 then (if k - 1 < f_mst r k i + 1 then k - 1 else f_mst r k i + 1) else (if f_mst r k i - 1 < 0 then 0 else f_mst r k i - 1)
def f_mrow (r : Int64) (k : Int32) : Nat → Int64
  | 0 => 0
  | i + 1 => if k / 2 ≤ f_mst r k (i + 1) then f_mrow r k i ||| shlL 1 (nI i) else f_mrow r k i
def f_jn (ln : Int32) (r : Int64) (i : Int32) : Nat → Int32
  | 0 => 0
  | k + 1 => f_jn ln r i k + f_bitOf r (f_round ln (i + nI k))
def f_form (ln fg : Int32) (pa : Nat → Int64) (pb : Int64) (r : Int64) (m : Nat) : Nat → Int64
  | 0 => 0
  | i + 1 => if pa (f_jn ln r (nI i) m).toNatClampNeg * ln.toInt64 ≤ (f_turn (nI i) fg.toNatClampNeg).toInt64 * pb then f_form ln fg pa pb r m i else f_form ln fg pa pb r m i ||| shlL 1 (nI i)
theorem nI_nlt_go {k n : Nat} (hk : k ≤ n + 1) (hn : n < 2 ^ 30) (h : ¬ nI n < nI k) : k ≤ n := by
  have := mt (nI_ltI (a := n) (b := k) (by omega) (by omega)).mpr h
  omega
theorem nI_nlt_end {k n : Nat} (hk : k ≤ n + 1) (hn : n < 2 ^ 30) (h : nI n < nI k) : k = n + 1 := by
  have := (nI_ltI (a := n) (b := k) (by omega) (by omega)).mp h
  omega
theorem nI_cl_sub {a b : Nat} (h : b ≤ a) (ha : a < 2 ^ 31) : (nI a - nI b).toNatClampNeg = a - b := by rw [pk_sub h, nI_clamp (by omega)]
theorem nI_cl {a : Nat} (ha : a < 2 ^ 31) : (nI a).toNatClampNeg = a := nI_clamp ha
/-- one place of the search for the greatest miss -/
def f_diff (n : Nat) (g : Int32) (fr sr : Nat → Int64) (v w : Nat) : Int32 := if 0 ≤ f_bc (f_gated g (fr v) (sr w) 0 &&& f_low (nI n)) * nI n - f_due (nI n) g (nI v) (nI w) then f_bc (f_gated g (fr v) (sr w) 0 &&& f_low (nI n)) * nI n - f_due (nI n) g (nI v) (nI w) else 0 - (f_bc (f_gated g (fr v) (sr w) 0 &&& f_low (nI n)) * nI n - f_due (nI n) g (nI v) (nI w))
def f_gms (dd : Int32) (v w : Nat) (t : Int32 × Int32 × Int32) : Int32 × Int32 × Int32 := if dd ≤ t.1 then t else (dd, nI v, nI w)
def f_gmr (n : Nat) (df : Nat → Nat → Int32) (v : Nat) (t : Int32 × Int32 × Int32) : Nat → Int32 × Int32 × Int32
  | 0 => t
  | w + 1 => f_gms (df v w) v w (f_gmr n df v t w)
def f_gmv (n : Nat) (df : Nat → Nat → Int32) (t : Int32 × Int32 × Int32) : Nat → Int32 × Int32 × Int32
  | 0 => t
  | v + 1 => f_gmr n df v (f_gmv n df t v) (n + 1)
def f_gm (n : Nat) (g : Int32) (fr sr : Nat → Int64) (mv mw : Int32) (v w : Nat) : Int32 × Int32 × Int32 := f_gmr n (f_diff n g fr sr) v (f_gmv n (f_diff n g fr sr) (-1, mv, mw) v) w
theorem f_gm_step {n : Nat} {g : Int32} {fr sr : Nat → Int64} {mv mw : Int32} {v w : Nat} (_ : w ≤ n) : f_gm n g fr sr mv mw v (w + 1) = f_gms (f_diff n g fr sr v w) v w (f_gm n g fr sr mv mw v w) := rfl
theorem f_gm_row (n : Nat) (g : Int32) (fr sr : Nat → Int64) (mv mw : Int32) (v : Nat) : f_gm n g fr sr mv mw (v + 1) 0 = f_gm n g fr sr mv mw v (n + 1) := rfl
theorem f_bitOf_01 (r : Int64) (i : Int32) : f_bitOf r i = 0 ∨ f_bitOf r i = 1 := by
  unfold f_bitOf
  obtain ⟨x, hx, e⟩ := wb_of (ushrL r i)
  rw [e, wb_a1 hx, lN_i]
  rcases (show x % 2 = 0 ∨ x % 2 = 1 by omega) with q | q <;> rw [q]
  · exact Or.inl rfl
  · exact Or.inr rfl
theorem f_jn_nat (ln : Int32) (r : Int64) (i : Int32) : ∀ k : Nat, ∃ j : Nat, j ≤ k ∧ f_jn ln r i k = nI j
  | 0 => ⟨0, Nat.le_refl 0, rfl⟩
  | k + 1 => by
    obtain ⟨j, h1, h2⟩ := f_jn_nat ln r i k
    rcases f_bitOf_01 r (f_round ln (i + nI k)) with q | q
    · exact ⟨j, by omega, by rw [f_jn, h2, q]; exact nI_add j 0⟩
    · exact ⟨j + 1, by omega, by rw [f_jn, h2, q]; exact nI_add j 1⟩
theorem f_jn_in {ln : Int32} {r : Int64} {i : Int32} {k N : Nat} (h : k < N) (hN : N < 2 ^ 31 := by omega) : vp_in (f_jn ln r i k) N := by
  obtain ⟨j, h1, h2⟩ := f_jn_nat ln r i k
  rw [h2]
  exact vp_in_nI (by omega) hN
theorem sd_step {d k : Nat} {nu u : Nat → Int32} (hd : d < k) (hu : ∀ i, u i = if d < i ∧ i < k then 0 else nu i) (i : Nat) : upd u k 0 i = if d < i ∧ i < k + 1 then 0 else nu i := by
  unfold upd
  by_cases q : i = k
  · rw [if_pos q, if_pos (by omega)]
  · rw [if_neg q, hu i]
    by_cases z : d < i ∧ i < k
    · rw [if_pos z, if_pos (by omega)]
    · rw [if_neg z, if_neg (by omega)]
