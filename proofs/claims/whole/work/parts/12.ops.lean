/-! what the reference's calls answer, and what they leave -/
def p_length (ln : Int32) (st : Nat → Int64) (n : Int32) : Int32 × Int32 × (Nat → Int64) := if lens n then (ln, n, fun i => if i < 12 then 0 else st i) else (-102, ln, st)
def p_set (n : Nat) (st : Nat → Int64) (t : Int32) (row : Int64) : Int32 × (Nat → Int64) := (g_ones row n, vp_updL st t.toNatClampNeg row)
def p_source (q : Nat) (st : Nat → Int64) (t s v : Int32) : Int32 × (Nat → Int64) := if strm t then (if srcs s ∧ (0 ≤ v ∧ v ≤ nI (2 ^ q)) then p_set (2 ^ q) st t (g_srow q s v (2 ^ q)) else (-102, st)) else (-101, st)
def p_put (ln : Int32) (st : Nat → Int64) (t i b : Int32) : Int32 × (Nat → Int64) := if strm t ∧ (0 ≤ i ∧ i ≤ ln - 1) then (g_bitOf (st t.toNatClampNeg) i, vp_updL st t.toNatClampNeg (if b = 0 then st t.toNatClampNeg &&& (shlL 1 i ^^^ (-1)) else st t.toNatClampNeg ||| shlL 1 i)) else (-101, st)
def p_bit (ln : Int32) (st : Nat → Int64) (t i : Int32) : Int32 := if strm t ∧ (0 ≤ i ∧ i ≤ ln - 1) then g_bitOf (st t.toNatClampNeg) i else -101
def p_ones (n : Nat) (st : Nat → Int64) (t : Int32) : Int32 := if strm t then g_ones (st t.toNatClampNeg) n else -101
def p_gate (n : Nat) (st : Nat → Int64) (g a b c t : Int32) : Int32 × (Nat → Int64) := if 0 ≤ g ∧ g ≤ 6 then (if strm t ∧ strm a ∧ strm b ∧ (¬ g ≤ 4 → strm c) then p_set n st t (g_gr g (st a.toNatClampNeg) (st b.toNatClampNeg) (if g ≤ 4 then 0 else st c.toNatClampNeg) n) else (-101, st)) else (-102, st)
def p_not (n : Nat) (st : Nat → Int64) (a t : Int32) : Int32 × (Nat → Int64) := if strm a ∧ strm t then p_set n st t (g_gr 3 (st a.toNatClampNeg) 0 0 n) else (-101, st)
def p_later (ln : Int32) (n : Nat) (st : Nat → Int64) (a k t : Int32) : Int32 × (Nat → Int64) := if strm a ∧ strm t then (if -64 ≤ k ∧ k ≤ 64 then p_set n st t (g_sh ln (st a.toNatClampNeg) (remI (64 + ln - k) ln) n) else (-102, st)) else (-101, st)
def g_fl (r bits : Int64) : Nat → Int64
  | 0 => r
  | k + 1 => g_fl r bits k ^^^ shlL (g_bitOf bits (nI k)).toInt64 (nI k)
def p_flip (ln : Int32) (st : Nat → Int64) (t : Int32) (bits : Int64) (n : Int32) : Int32 × (Nat → Int64) := if strm t then (if 0 ≤ n ∧ n ≤ ln then (g_ones bits n.toNatClampNeg, vp_updL st t.toNatClampNeg (g_fl (st t.toNatClampNeg) bits n.toNatClampNeg)) else (-102, st)) else (-101, st)
def p_both (n : Nat) (st : Nat → Int64) (a b s : Int32) : Int32 := if strm a ∧ strm b then (if 0 ≤ s ∧ s ≤ 3 then g_bo (st a.toNatClampNeg) (st b.toNatClampNeg) s n else -102) else -101
def g_below (ln p q r s : Int32) : Int32 := if p * s - q * r ≤ 0 then (p + q) * (p + r) - ln * (if p ≤ s then 0 else p - s) else ln * (if r ≤ q then p + r else p + q) - (p + q) * (p + r)
def g_tog (ln p q r s : Int32) : Int32 := if p * s - q * r = 0 then 0 else 1000 * (p * s - q * r) / g_below ln p q r s
def p_together (ln : Int32) (n : Nat) (st : Nat → Int64) (a b : Int32) : Int32 := if strm a ∧ strm b then g_tog ln (g_bo (st a.toNatClampNeg) (st b.toNatClampNeg) 0 n) (g_bo (st a.toNatClampNeg) (st b.toNatClampNeg) 1 n) (g_bo (st a.toNatClampNeg) (st b.toNatClampNeg) 2 n) (g_bo (st a.toNatClampNeg) (st b.toNatClampNeg) 3 n) else -100000
def g_diff (n : Nat) (g : Int32) (fr sr : Nat → Int64) (v w : Nat) : Int32 := if 0 ≤ g_ones (g_gr g (fr v) (sr w) 0 n) n * nI n - f_due (nI n) g (nI v) (nI w) then g_ones (g_gr g (fr v) (sr w) 0 n) n * nI n - f_due (nI n) g (nI v) (nI w) else -(g_ones (g_gr g (fr v) (sr w) 0 n) n * nI n - f_due (nI n) g (nI v) (nI w))
def g_gm (n : Nat) (g : Int32) (fr sr : Nat → Int64) (mv mw : Int32) (v w : Nat) : Int32 × Int32 × Int32 := f_gmr n (g_diff n g fr sr) v (f_gmv n (g_diff n g fr sr) (-1, mv, mw) v) w
theorem g_gm_step {n : Nat} {g : Int32} {fr sr : Nat → Int64} {mv mw : Int32} {v w : Nat} (_ : w ≤ n) : g_gm n g fr sr mv mw v (w + 1) = f_gms (g_diff n g fr sr v w) v w (g_gm n g fr sr mv mw v w) := rfl
theorem g_gm_row (n : Nat) (g : Int32) (fr sr : Nat → Int64) (mv mw : Int32) (v : Nat) : g_gm n g fr sr mv mw (v + 1) 0 = g_gm n g fr sr mv mw v (n + 1) := rfl
theorem g_gm_cong {n : Nat} {g : Int32} {fr sr fr2 sr2 : Nat → Int64} {mv mw : Int32} (h1 : ∀ v, v < n + 1 → fr v = fr2 v) (h2 : ∀ v, v < n + 1 → sr v = sr2 v) : g_gm n g fr sr mv mw (n + 1) 0 = g_gm n g fr2 sr2 mv mw (n + 1) 0 := by
  have h : ∀ v w, v < n + 1 → w < n + 1 → g_diff n g fr sr v w = g_diff n g fr2 sr2 v w := fun v w hv hw => by unfold g_diff; rw [h1 v hv, h2 w hw]
  show f_gmv n _ _ (n + 1) = f_gmv n _ _ (n + 1)
  exact f_gmv_cong h (n + 1) (Nat.le_refl _)
def g_mis (q : Nat) (g s u k mv mw : Int32) : Int32 × Int32 × Int32 := g_gm (2 ^ q) g (fun v => g_srow q s (nI v) (2 ^ q)) (fun v => g_sh (nI (2 ^ q)) (g_srow q u (nI v) (2 ^ q)) (remI k (nI (2 ^ q))) (2 ^ q)) mv mw (2 ^ q + 1) 0
def p_miss (q : Nat) (mi mv mw g s u k : Int32) : Int32 × Int32 × Int32 × Int32 := if (0 ≤ g ∧ g ≤ 3) ∧ srcs s ∧ srcs u ∧ (0 ≤ k ∧ k ≤ 63) then (if mi = 60 then (-103, mi, mv, mw) else ((g_mis q g s u k mv mw).1, mi + 1, (g_mis q g s u k mv mw).2.1, (g_mis q g s u k mv mw).2.2)) else (-102, mi, mv, mw)
def p_where (mi mv mw s : Int32) : Int32 := if mi = 0 then -103 else if s = 0 then mv else if s = 1 then mw else -102
def g_mst (r : Int64) (k : Int32) : Nat → Int32
  | 0 => k / 2 - 1
  | i + 1 => if g_bitOf r (nI i) = 1 then g_mst r k i + (if k - 1 ≤ g_mst r k i then 0 else 1) else g_mst r k i - (if g_mst r k i ≤ 0 then 0 else 1)
def g_mrow (r : Int64) (k : Int32) : Nat → Int64
  | 0 => 0
  | i + 1 => g_mrow r k i ||| (if g_mst r k (i + 1) < k / 2 then 0 else shlL 1 (nI i))
def p_machine (n : Nat) (ms : Int32) (st : Nat → Int64) (a k t : Int32) : Int32 × (Nat → Int64) × Int32 := if strm a ∧ strm t then (if mach k then (g_ones (g_mrow (st a.toNatClampNeg) k n) n, vp_updL st t.toNatClampNeg (g_mrow (st a.toNatClampNeg) k n), g_mst (st a.toNatClampNeg) k n) else (-102, st, ms)) else (-101, st, ms)
def g_own (ln k v : Int32) : Nat → Int64
  | 0 => 0
  | j + 1 => g_own ln k v j + (if nI j < k / 2 then 0 else f_wt ln k v j)
def p_ever (ln k v p : Int32) : Int64 := if mach k ∧ (0 ≤ v ∧ v ≤ ln) ∧ (0 ≤ p ∧ p ≤ 1) then (if p = 0 then g_own ln k v k.toNatClampNeg / g_G (g_own ln k v k.toNatClampNeg) (f_all ln k v k.toNatClampNeg) else f_all ln k v k.toNatClampNeg / g_G (g_own ln k v k.toNatClampNeg) (f_all ln k v k.toNatClampNeg)) else -102
def p_part (d : Nat) (sc : Int32) (nu : Nat → Int32) (m j p : Int32) : Int64 := if (nI d ≤ m ∧ m ≤ 10) ∧ (0 ≤ p ∧ p ≤ 1) then (if 0 ≤ j ∧ j ≤ m then (if p = 0 then g_U d nu m.toNatClampNeg j.toNatClampNeg / g_G (g_U d nu m.toNatClampNeg j.toNatClampNeg) (g_Y d sc m.toNatClampNeg) else g_Y d sc m.toNatClampNeg / g_G (g_U d nu m.toNatClampNeg j.toNatClampNeg) (g_Y d sc m.toNatClampNeg)) else -101) else -102
def p_least (d : Nat) (nu : Nat → Int32) (sc : Int32) : Nat → Nat → Int32
  | 0, _ => -1
  | f + 1, m => if g_mv d nu sc m (m + 1) = 0 then p_least d nu sc f (m + 1) else nI m
def g_at (th low : Int64) : Int32 := (if 0 ≤ remL (1000 * th) low then 1000 * th / low else 1000 * th / low - 1).toInt32
def p_at (d : Nat) (nu : Nat → Int32) (sc ln v : Int32) : Int32 := if 0 ≤ v ∧ v ≤ ln then g_at (f_th d nu v ln (d + 1)) (sc.toInt64 * f_power ln.toInt64 d) else -1000000000
def g_jn (ln : Int32) (r : Int64) (i : Int32) : Nat → Int32
  | 0 => 0
  | k + 1 => g_jn ln r i k + g_bitOf r (remI (i + nI k) ln)
def g_form (q d : Nat) (nu : Nat → Int32) (sc : Int32) (r : Int64) (mm : Nat) : Nat → Int64
  | 0 => 0
  | i + 1 => g_form q d nu sc r mm i ||| (if g_U d nu mm (g_jn (nI (2 ^ q)) r (nI i) mm).toNatClampNeg / g_G (g_U d nu mm (g_jn (nI (2 ^ q)) r (nI i) mm).toNatClampNeg) (g_Y d sc mm) * (nI (2 ^ q)).toInt64 ≤ (g_rv (nI i) q).toInt64 * (g_Y d sc mm / g_G (g_U d nu mm (g_jn (nI (2 ^ q)) r (nI i) mm).toNatClampNeg) (g_Y d sc mm)) then 0 else shlL 1 (nI i))
theorem g_jn_nat (ln : Int32) (r : Int64) (i : Int32) : ∀ k : Nat, ∃ j : Nat, j ≤ k ∧ g_jn ln r i k = nI j
  | 0 => ⟨0, Nat.le_refl 0, rfl⟩
  | k + 1 => by
    obtain ⟨j, h1, h2⟩ := g_jn_nat ln r i k
    rcases g_bitOf_01 r (remI (i + nI k) ln) with q | q
    · exact ⟨j, by omega, by rw [g_jn, h2, q]; exact nI_add j 0⟩
    · exact ⟨j + 1, by omega, by rw [g_jn, h2, q]; exact nI_add j 1⟩
def p_make (q d : Nat) (sc : Int32) (nu : Nat → Int32) (st : Nat → Int64) (t s v m : Int32) : Int32 × (Nat → Int64) := if strm t then (if srcs s ∧ (0 ≤ v ∧ v ≤ nI (2 ^ q)) ∧ (nI d ≤ m ∧ m ≤ 10) then (if g_mv d nu sc m.toNatClampNeg (m.toNatClampNeg + 1) = 0 then (-103, st) else p_set (2 ^ q) st t (g_form q d nu sc (g_srow q s v (2 ^ q)) m.toNatClampNeg (2 ^ q))) else (-102, st)) else (-101, st)
def p_dg1 (n : Nat) (h : Int64) (st : Nat → Int64) : Nat → Int64
  | 0 => h
  | t + 1 => 31 * (31 * p_dg1 n h st t + (g_ones (st t) n).toInt64) + st t
def p_digest (n : Nat) (ln dg sc ms mi : Int32) (st : Nat → Int64) (nu : Nat → Int32) : Int64 := 31 * f_dg2 (31 * (31 * (31 * p_dg1 n (4867 + ln.toInt64) st 12 + ms.toInt64) + dg.toInt64) + sc.toInt64) nu 5 + mi.toInt64
