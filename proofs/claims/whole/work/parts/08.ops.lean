/-! what the calls answer, and what they leave: the class's functions -/
abbrev strm (t : Int32) : Prop := 0 ≤ t ∧ t ≤ 11
abbrev srcs (s : Int32) : Prop := 0 ≤ s ∧ s ≤ 3
abbrev mach (k : Int32) : Prop := (2 ≤ k ∧ k ≤ 8) ∧ remI k 2 = 0
abbrev lens (n : Int32) : Prop := n = 8 ∨ n = 16 ∨ n = 32 ∨ n = 64
theorem strm_in {t : Int32} (h : strm t) : vp_in t 12 := by
  rw [vp_in_iff]
  have h1 := Int32.le_iff_toInt_le.mp h.1
  have h2 := Int32.le_iff_toInt_le.mp h.2
  have e1 : (0 : Int32).toInt = 0 := by decide
  have e2 : (11 : Int32).toInt = 11 := by decide
  omega
theorem rng_nat {t : Int32} {a b : Nat} (hb : b < 2 ^ 31) (ha : a ≤ b) (h : nI a ≤ t ∧ t ≤ nI b) : ∃ j : Nat, a ≤ j ∧ j ≤ b ∧ t = nI j := by
  have h1 := Int32.le_iff_toInt_le.mp h.1
  have h2 := Int32.le_iff_toInt_le.mp h.2
  rw [nI_toInt (by omega)] at h1
  rw [nI_toInt hb] at h2
  refine ⟨t.toInt.toNat, by omega, by omega, ?_⟩
  apply Int32.toInt_inj.mp
  rw [nI_toInt (by omega)]
  omega
def o_set (ln : Int32) (st : Nat → Int64) (t : Int32) (row : Int64) : Int32 × (Nat → Int64) := (f_bc (row &&& f_low ln), vp_updL st t.toNatClampNeg (row &&& f_low ln))
def o_length (ln fg : Int32) (st : Nat → Int64) (n : Int32) : Int32 × Int32 × Int32 × (Nat → Int64) := if lens n then (ln, n, f_bci (n - 1), fun i => if i < 12 then 0 else st i) else (-102, ln, fg, st)
def o_source (ln fg : Int32) (st : Nat → Int64) (t s v : Int32) : Int32 × (Nat → Int64) := if strm t then (if srcs s ∧ (0 ≤ v ∧ v ≤ ln) then o_set ln st t (f_src ln fg s v) else (-102, st)) else (-101, st)
def o_put (ln : Int32) (st : Nat → Int64) (t i b : Int32) : Int32 × (Nat → Int64) := if strm t ∧ (0 ≤ i ∧ i ≤ ln - 1) then (f_bitOf (st t.toNatClampNeg) i, vp_updL st t.toNatClampNeg (if b = 0 then st t.toNatClampNeg &&& (shlL 1 i ^^^ (-1)) else st t.toNatClampNeg ||| shlL 1 i)) else (-101, st)
def o_bit (ln : Int32) (st : Nat → Int64) (t i : Int32) : Int32 := if strm t ∧ (0 ≤ i ∧ i ≤ ln - 1) then f_bitOf (st t.toNatClampNeg) i else -101
def o_ones (st : Nat → Int64) (t : Int32) : Int32 := if strm t then f_bc (st t.toNatClampNeg) else -101
def o_gate (ln : Int32) (st : Nat → Int64) (g a b c t : Int32) : Int32 × (Nat → Int64) := if 0 ≤ g ∧ g ≤ 6 then (if strm t ∧ strm a ∧ strm b ∧ (g = 5 ∨ g = 6 → strm c) then o_set ln st t (f_gated g (st a.toNatClampNeg) (st b.toNatClampNeg) (if g = 5 ∨ g = 6 then st c.toNatClampNeg else 0)) else (-101, st)) else (-102, st)
def o_not (ln : Int32) (st : Nat → Int64) (a t : Int32) : Int32 × (Nat → Int64) := if strm a ∧ strm t then o_set ln st t (st a.toNatClampNeg ^^^ (-1)) else (-101, st)
def o_later (ln : Int32) (st : Nat → Int64) (a k t : Int32) : Int32 × (Nat → Int64) := if strm a ∧ strm t then (if -64 ≤ k ∧ k ≤ 64 then o_set ln st t (f_shifted ln (st a.toNatClampNeg) (-k)) else (-102, st)) else (-101, st)
def o_flip (ln : Int32) (st : Nat → Int64) (t : Int32) (bits : Int64) (n : Int32) : Int32 × (Nat → Int64) := if strm t then (if 0 ≤ n ∧ n ≤ ln then (f_bc (bits &&& f_low n), vp_updL st t.toNatClampNeg (st t.toNatClampNeg ^^^ (bits &&& f_low n))) else (-102, st)) else (-101, st)
def o_both (ln : Int32) (st : Nat → Int64) (a b s : Int32) : Int32 := if strm a ∧ strm b then (if 0 ≤ s ∧ s ≤ 3 then f_sort ln (st a.toNatClampNeg) (st b.toNatClampNeg) s else -102) else -101
def f_below (ln p q r s : Int32) : Int32 := if p * s - q * r ≤ 0 then (p + q) * (p + r) - ln * (if p - s < 0 then 0 else p - s) else ln * (if p + r < p + q then p + r else p + q) - (p + q) * (p + r)
def f_tog (ln p q r s : Int32) : Int32 := if p * s - q * r = 0 ∨ f_below ln p q r s = 0 then 0 else 1000 * (p * s - q * r) / f_below ln p q r s
def o_together (ln : Int32) (st : Nat → Int64) (a b : Int32) : Int32 := if strm a ∧ strm b then f_tog ln (f_sort ln (st a.toNatClampNeg) (st b.toNatClampNeg) 0) (f_sort ln (st a.toNatClampNeg) (st b.toNatClampNeg) 1) (f_sort ln (st a.toNatClampNeg) (st b.toNatClampNeg) 2) (f_sort ln (st a.toNatClampNeg) (st b.toNatClampNeg) 3) else -100000
def f_mis (n : Nat) (fg g s u k mv mw : Int32) : Int32 × Int32 × Int32 := f_gm n g (fun v => f_src (nI n) fg s (nI v)) (fun v => f_shifted (nI n) (f_src (nI n) fg u (nI v)) k) mv mw (n + 1) 0
def o_miss (n : Nat) (fg mi mv mw g s u k : Int32) : Int32 × Int32 × Int32 × Int32 := if (0 ≤ g ∧ g ≤ 3) ∧ srcs s ∧ srcs u ∧ (0 ≤ k ∧ k ≤ 63) then (if mi < 60 then ((f_mis n fg g s u k mv mw).1, mi + 1, (f_mis n fg g s u k mv mw).2.1, (f_mis n fg g s u k mv mw).2.2) else (-103, mi, mv, mw)) else (-102, mi, mv, mw)
def o_where (mi mv mw s : Int32) : Int32 := if mi = 0 then -103 else if 0 ≤ s ∧ s ≤ 1 then (if s = 0 then mv else mw) else -102
def o_machine (ln ms : Int32) (st : Nat → Int64) (a k t : Int32) : Int32 × (Nat → Int64) × Int32 := if strm a ∧ strm t then (if mach k then ((o_set ln st t (f_mrow (st a.toNatClampNeg) k ln.toNatClampNeg)).1, (o_set ln st t (f_mrow (st a.toNatClampNeg) k ln.toNatClampNeg)).2, f_mst (st a.toNatClampNeg) k ln.toNatClampNeg) else (-102, st, ms)) else (-101, st, ms)
def f_wt (ln k v : Int32) (j : Nat) : Int64 := f_power v.toInt64 j * f_power (ln - v).toInt64 (k - 1 - nI j).toNatClampNeg
def f_all (ln k v : Int32) : Nat → Int64
  | 0 => 0
  | j + 1 => f_all ln k v j + f_wt ln k v j
def f_own (ln k v : Int32) : Nat → Int64
  | 0 => 0
  | j + 1 => if k / 2 ≤ nI j then f_own ln k v j + f_wt ln k v j else f_own ln k v j
def o_ever (ln k v p : Int32) : Int64 := if mach k ∧ (0 ≤ v ∧ v ≤ ln) ∧ (0 ≤ p ∧ p ≤ 1) then f_terms (f_own ln k v k.toNatClampNeg) (f_all ln k v k.toNatClampNeg) p else -102
def o_degree (dg sc : Int32) (nu : Nat → Int32) (n s : Int32) : Int32 × Int32 × Int32 × (Nat → Int32) := if (0 ≤ n ∧ n ≤ 4) ∧ (1 ≤ s ∧ s ≤ 1000) then (n, n, s, fun i => if n.toNatClampNeg < i ∧ i < 5 then 0 else nu i) else (-102, dg, sc, nu)
def o_term (dg : Int32) (nu : Nat → Int32) (i v : Int32) : Int32 × (Nat → Int32) := if 0 ≤ i ∧ i ≤ dg then (if -1000 ≤ v ∧ v ≤ 1000 then (nu i.toNatClampNeg, upd nu i.toNatClampNeg v) else (-102, nu)) else (-101, nu)
def o_part (d : Nat) (sc : Int32) (nu : Nat → Int32) (m j p : Int32) : Int64 := if (nI d ≤ m ∧ m ≤ 10) ∧ (0 ≤ p ∧ p ≤ 1) then (if 0 ≤ j ∧ j ≤ m then f_terms (f_up d nu m j.toNatClampNeg) (f_pb d sc m) p else -101) else -102
abbrev f_may (d : Nat) (nu : Nat → Int32) (sc : Int32) (m : Nat) : Prop := ∀ j, j < m + 1 → f_ok d nu sc (nI m) j
def o_least (d : Nat) (nu : Nat → Int32) (sc : Int32) : Nat → Nat → Int32
  | 0, _ => -1
  | f + 1, m => if f_may d nu sc m then nI m else o_least d nu sc f (m + 1)
def o_at (d : Nat) (nu : Nat → Int32) (sc ln v : Int32) : Int32 := if 0 ≤ v ∧ v ≤ ln then f_at d nu sc v ln else -1000000000
def o_make (d : Nat) (ln fg sc : Int32) (nu : Nat → Int32) (st : Nat → Int64) (t s v m : Int32) : Int32 × (Nat → Int64) := if strm t then (if srcs s ∧ (0 ≤ v ∧ v ≤ ln) ∧ (nI d ≤ m ∧ m ≤ 10) then (if f_may d nu sc m.toNatClampNeg then o_set ln st t (f_form ln fg (fun j => f_up d nu m j) (f_pb d sc m) (f_src ln fg s v) m.toNatClampNeg ln.toNatClampNeg) else (-103, st)) else (-102, st)) else (-101, st)
def o_count (ln dg sc mi w : Int32) : Int32 := if w = 0 then ln else if w = 1 then dg else if w = 2 then sc else if w = 3 then mi else -102
def f_dg1 (h : Int64) (st : Nat → Int64) : Nat → Int64
  | 0 => h
  | t + 1 => 31 * (31 * f_dg1 h st t + (f_bc (st t)).toInt64) + st t
def f_dg2 (h : Int64) (nu : Nat → Int32) : Nat → Int64
  | 0 => h
  | i + 1 => 31 * f_dg2 h nu i + (nu i).toInt64
def o_digest (ln dg sc ms mi : Int32) (st : Nat → Int64) (nu : Nat → Int32) : Int64 := 31 * f_dg2 (31 * (31 * (31 * f_dg1 (4867 + ln.toInt64) st 12 + ms.toInt64) + dg.toInt64) + sc.toInt64) nu 5 + mi.toInt64
/-- only the rows up to n count -/
theorem f_gmr_cong {n : Nat} {df df2 : Nat → Nat → Int32} {v : Nat} {t : Int32 × Int32 × Int32} : ∀ w, (∀ x, x < w → df v x = df2 v x) → f_gmr n df v t w = f_gmr n df2 v t w
  | 0, _ => rfl
  | w + 1, h => by rw [f_gmr, f_gmr, f_gmr_cong w (fun x hx => h x (by omega)), h w (by omega)]
theorem f_gmv_cong {n : Nat} {df df2 : Nat → Nat → Int32} {t : Int32 × Int32 × Int32} (h : ∀ v w, v < n + 1 → w < n + 1 → df v w = df2 v w) : ∀ v, v ≤ n + 1 → f_gmv n df t v = f_gmv n df2 t v
  | 0, _ => rfl
  | v + 1, hv => by rw [f_gmv, f_gmv, f_gmv_cong h v (by omega)]; exact f_gmr_cong (n + 1) (fun x hx => h v x (by omega) hx)
theorem f_gm_cong {n : Nat} {g : Int32} {fr sr fr2 sr2 : Nat → Int64} {mv mw : Int32} (h1 : ∀ v, v < n + 1 → fr v = fr2 v) (h2 : ∀ v, v < n + 1 → sr v = sr2 v) : f_gm n g fr sr mv mw (n + 1) 0 = f_gm n g fr2 sr2 mv mw (n + 1) 0 := by
  have h : ∀ v w, v < n + 1 → w < n + 1 → f_diff n g fr sr v w = f_diff n g fr2 sr2 v w := fun v w hv hw => by unfold f_diff; rw [h1 v hv, h2 w hw]
  show f_gmv n _ _ (n + 1) = f_gmv n _ _ (n + 1)
  exact f_gmv_cong h (n + 1) (Nat.le_refl _)
theorem f_form_cong {ln fg : Int32} {pa pa2 : Nat → Int64} {pb r : Int64} {m : Nat} (hm : m < 2 ^ 30) (h : ∀ j, j < m + 1 → pa j = pa2 j) : ∀ i, f_form ln fg pa pb r m i = f_form ln fg pa2 pb r m i
  | 0 => rfl
  | i + 1 => by
    obtain ⟨j, h1, h2⟩ := f_jn_nat ln r (nI i) m
    rw [f_form, f_form, f_form_cong hm h i, h2, nI_cl (by omega), h j (by omega)]
theorem fz_step {k : Nat} {st u : Nat → Int64} (hu : ∀ i, u i = if i < k then 0 else st i) (i : Nat) : vp_updL u k 0 i = if i < k + 1 then 0 else st i := by
  unfold vp_updL
  by_cases q : i = k
  · rw [if_pos q, if_pos (by omega)]
  · rw [if_neg q, hu i]
    by_cases z : i < k
    · rw [if_pos z, if_pos (by omega)]
    · rw [if_neg z, if_neg (by omega)]
theorem fill_step {v : Nat} {x F : Nat → Int64} (h : ∀ i, i < v → x i = F i) (i : Nat) (hi : i < v + 1) : vp_updL x v (F v) i = F i := by
  unfold vp_updL
  by_cases q : i = v
  · rw [if_pos q, q]
  · rw [if_neg q]; exact h i (by omega)
theorem term_in {i : Int32} {d : Nat} (hd : d ≤ 4) (h : 0 ≤ i ∧ i ≤ nI d) : vp_in i 5 := by
  obtain ⟨j, -, h1, rfl⟩ := rng_nat (a := 0) (b := d) (by omega) (by omega) h
  exact vp_in_nI (by omega) (by omega)
