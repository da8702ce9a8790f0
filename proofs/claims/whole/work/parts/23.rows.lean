/-! gates, shifts, sorts, flips, the machine -/
def gb (k : Nat) (a b c : Bool) : Bool := if k = 0 then a && b else if k = 1 then a || b else if k = 2 then a ^^ b else if k = 3 then !(a ^^ b) else if k = 4 then a && !b else if k = 5 then (b && c) || (a && !c) else ((a && b) || (a && c)) || (b && c)
def bi (b : Bool) : Int32 := if b then 1 else 0
theorem gb_g : ∀ k, k < 7 → ∀ a b c : Bool, g_gated (nI k) (bi a) (bi b) (bi c) = bi (gb k a b c) := by decide +kernel
theorem bit_bi (r : Int64) {i : Nat} (hi : i < 64) : g_bitOf r (nI i) = bi (tb r i) := g_bit_tb r hi
theorem shl_bi : ∀ k, k < 64 → ∀ b : Bool, shlL (bi b).toInt64 (nI k) = if b then shlL 1 (nI k) else 0 := by decide +kernel
theorem gb_f {k : Nat} (hk : k < 7) (a b c : Int64) {i : Nat} (hi : i < 64) : tb (f_gated (nI k) a b c) i = gb k (tb a i) (tb b i) (tb c i) := by
  rcases (show k = 0 ∨ k = 1 ∨ k = 2 ∨ k = 3 ∨ k = 4 ∨ k = 5 ∨ k = 6 by omega) with rfl | rfl | rfl | rfl | rfl | rfl | rfl
  · rw [show f_gated (nI 0) a b c = a &&& b from rfl, tb_and]; rfl
  · rw [show f_gated (nI 1) a b c = a ||| b from rfl, tb_or]; rfl
  · rw [show f_gated (nI 2) a b c = a ^^^ b from rfl, tb_xor]; rfl
  · rw [show f_gated (nI 3) a b c = (a ^^^ b) ^^^ (-1) from rfl, tb_xor, tb_xor, tb_m1 hi]; show _ = !(tb a i ^^ tb b i); cases tb a i <;> cases tb b i <;> rfl
  · rw [show f_gated (nI 4) a b c = a &&& (b ^^^ (-1)) from rfl, tb_and, tb_xor, tb_m1 hi]; show _ = (tb a i && !tb b i); cases tb a i <;> cases tb b i <;> rfl
  · rw [show f_gated (nI 5) a b c = (b &&& c) ||| (a &&& (c ^^^ (-1))) from rfl, tb_or, tb_and, tb_and, tb_xor, tb_m1 hi]; show _ = ((tb b i && tb c i) || (tb a i && !tb c i)); cases tb a i <;> cases tb b i <;> cases tb c i <;> rfl
  · rw [show f_gated (nI 6) a b c = ((a &&& b) ||| (a &&& c)) ||| (b &&& c) from rfl, tb_or, tb_or, tb_and, tb_and, tb_and]; rfl
theorem g_gr_s {k : Nat} (hk : k < 7) (a b c : Int64) (i : Nat) (hi : i < 64) : g_gr (nI k) a b c (i + 1) = g_gr (nI k) a b c i ||| (if gb k (tb a i) (tb b i) (tb c i) then shlL 1 (nI i) else 0) := by
  rw [g_gr, bit_bi a hi, bit_bi b hi, bit_bi c hi, gb_g k hk, shl_bi i hi]
theorem gate_eq {k n : Nat} (hk : k < 7) (hn : n ≤ 64) (a b c : Int64) : f_gated (nI k) a b c &&& f_low (nI n) = g_gr (nI k) a b c n :=
  row_eq (G := fun _ => 0) (p := fun i => gb k (tb a i) (tb b i) (tb c i)) hn rfl (g_gr_s hk a b c) (fun i hi => by
    rw [tb_and, low_tb hn hi, gb_f hk a b c hi, Bool.and_comm])
theorem g_gr_rv {k n : Nat} (hk : k < 7) (hn : n ≤ 64) (a b c : Int64) : rv n (g_gr (nI k) a b c n) := by rw [← gate_eq hk hn]; exact rv_low hn _
theorem sh_by {n b : Nat} (hn : n ≤ 64) (hb : b < n) {r : Int64} (hr : rv n r) {i : Nat} (hi : i < 64) : tb ((ushrL r (nI b) ||| shlL r (nI n - nI b)) &&& f_low (nI n)) i = (decide (i < n) && tb r ((i + b) % n)) := by
  rw [tb_and, low_tb hn hi, tb_or, tb_ushr r (by omega)]
  by_cases q : i < n
  · have e : tb (shlL r (nI n - nI b)) i = (decide (n - b ≤ i ∨ (n = 64 ∧ b = 0)) && tb r (if n = 64 ∧ b = 0 then i else i - (n - b))) := by
      rw [pk_sub (by omega)]
      by_cases z : n = 64 ∧ b = 0
      · obtain ⟨rfl, rfl⟩ := z
        rw [show shlL r (nI (64 - 0)) = shlL r (nI 0) from by unfold shlL; rw [show (nI (64 - 0)).toInt64 &&& 63 = (nI 0).toInt64 &&& 63 by decide], tb_shl r (by omega) hi]
        simp
      · rw [tb_shl r (by omega) hi]
        simp [z]
    rw [e]
    by_cases z : n = 64 ∧ b = 0
    · obtain ⟨rfl, rfl⟩ := z
      simp [q, Nat.mod_eq_of_lt q]
    · rw [if_neg z]
      by_cases w : i + b < n
      · rw [Nat.mod_eq_of_lt w]
        have h1 : ¬ n - b ≤ i := by omega
        simp [q, z, h1, Nat.add_comm]
      · have h1 : n - b ≤ i := by omega
        have h2 : (i + b) % n = i + b - n := by rw [Nat.mod_eq_sub_mod (by omega), Nat.mod_eq_of_lt (by omega)]
        rw [h2, hr (b + i) (by omega), show i - (n - b) = i + b - n by omega]
        simp [q, h1]
  · simp [q]
theorem rem_nI {a n : Nat} (ha : a < 2 ^ 31) (h0 : 0 < n) (hn : n < 2 ^ 31) : remI (nI a) (nI n) = nI (a % n) := pk_rem ha h0 hn
theorem sh_eq {n b : Nat} (hn : n ≤ 64) (hb : b < n) {r : Int64} (hr : rv n r) : (ushrL r (nI b) ||| shlL r (nI n - nI b)) &&& f_low (nI n) = g_sh (nI n) r (nI b) n :=
  row_eq (G := fun _ => 0) (p := fun i => tb r ((i + b) % n)) hn rfl (fun k hk => by
    have h1 : (k + b) % n < n := Nat.mod_lt _ (by omega)
    rw [g_sh, nI_add, rem_nI (by omega) (by omega) (by omega), bit_bi r (by omega), shl_bi k hk]) (fun i hi => sh_by hn hb hr hi)
set_option maxRecDepth 100000 in
theorem rnd_l : ∀ q, q < 7 → ∀ k, k < 129 → (f_round (nI (2 ^ q)) (-(nI k - 64))).toNatClampNeg < 2 ^ q ∧ f_round (nI (2 ^ q)) (-(nI k - 64)) = nI (f_round (nI (2 ^ q)) (-(nI k - 64))).toNatClampNeg ∧ remI (64 + nI (2 ^ q) - (nI k - 64)) (nI (2 ^ q)) = f_round (nI (2 ^ q)) (-(nI k - 64)) := by decide +kernel
set_option maxRecDepth 100000 in
theorem rnd_m : ∀ q, q < 7 → ∀ k, k < 64 → (f_round (nI (2 ^ q)) (nI k)).toNatClampNeg < 2 ^ q ∧ f_round (nI (2 ^ q)) (nI k) = nI (f_round (nI (2 ^ q)) (nI k)).toNatClampNeg ∧ remI (nI k) (nI (2 ^ q)) = f_round (nI (2 ^ q)) (nI k) := by decide +kernel
theorem shift_eq {q : Nat} (hq : q ≤ 6) {r : Int64} (hr : rv (2 ^ q) r) {x y : Int32} (h1 : (f_round (nI (2 ^ q)) x).toNatClampNeg < 2 ^ q) (h2 : f_round (nI (2 ^ q)) x = nI (f_round (nI (2 ^ q)) x).toNatClampNeg) (h3 : y = f_round (nI (2 ^ q)) x) : f_shifted (nI (2 ^ q)) r x = g_sh (nI (2 ^ q)) r y (2 ^ q) := by
  unfold f_shifted
  rw [h3]
  generalize (f_round (nI (2 ^ q)) x).toNatClampNeg = b at h1 h2
  rw [h2]
  exact sh_eq (pw_le hq) h1 hr
def sb (k : Nat) (a b : Bool) : Bool := if k = 0 then a && b else if k = 1 then a && !b else if k = 2 then !a && b else !a && !b
theorem sb_g : ∀ k, k < 4 → ∀ a b : Bool, g_bx (nI k) (bi a) (bi b) = bi (sb k a b) := by decide +kernel
theorem g_bo_ct {k : Nat} (hk : k < 4) (a b : Int64) : ∀ n, n ≤ 64 → g_bo a b (nI k) n = nI (fb_ct (fun i => sb k (tb a i) (tb b i)) n)
  | 0, _ => rfl
  | n + 1, h => by
    rw [g_bo, g_bo_ct hk a b n (by omega), bit_bi a (by omega), bit_bi b (by omega), sb_g k hk, fb_ct_succ]
    cases sb k (tb a n) (tb b n)
    · exact nI_add _ 0
    · exact nI_add _ 1
theorem f_sort_ct {k n : Nat} (hk : k < 4) (hn : n ≤ 64) (a b : Int64) : f_sort (nI n) a b (nI k) = nI (fb_ct (fun i => sb k (tb a i) (tb b i)) n) := by
  unfold f_sort
  rw [f_bc_ct, ct_rv hn (rv_low hn _)]
  congr 1
  refine fb_ct_cong (fun i hi => ?_)
  have h64 : i < 64 := by omega
  rw [tb_and, low_tb hn h64, tb_and]
  rcases (show k = 0 ∨ k = 1 ∨ k = 2 ∨ k = 3 by omega) with rfl | rfl | rfl | rfl
  · rw [if_pos (by decide), if_pos (by decide)]; simp [hi, sb]
  · rw [if_pos (by decide), if_neg (by decide), tb_xor, tb_m1 h64]; simp [hi, sb]
  · rw [if_neg (by decide), if_pos (by decide), tb_xor, tb_m1 h64]; simp [hi, sb]
  · rw [if_neg (by decide), if_neg (by decide), tb_xor, tb_xor, tb_m1 h64]; simp [hi, sb]
theorem sort_eq {k n : Nat} (hk : k < 4) (hn : n ≤ 64) (a b : Int64) : f_sort (nI n) a b (nI k) = g_bo a b (nI k) n := by rw [f_sort_ct hk hn, g_bo_ct hk a b n hn]
theorem g_fl_tb (r x : Int64) : ∀ k, k ≤ 64 → ∀ i, i < 64 → tb (g_fl r x k) i = (tb r i ^^ (decide (i < k) && tb x i))
  | 0, _, i, _ => by rw [g_fl]; simp
  | k + 1, hk, i, hi => by
    rw [g_fl, tb_xor, g_fl_tb r x k (by omega) i hi, bit_bi x (by omega), shl_bi k (by omega)]
    by_cases z : i = k
    · subst z
      cases tb x i
      · simp [tb_0]
      · simp [tb_one hi hi]
    · have e : decide (i < k + 1) = decide (i < k) := by by_cases q : i < k <;> simp [q] <;> omega
      rw [e]
      cases tb x k
      · simp [tb_0]
      · simp [tb_one (show k < 64 by omega) hi, z]
theorem flip_eq {m : Nat} (hm : m ≤ 64) (r x : Int64) : r ^^^ (x &&& f_low (nI m)) = g_fl r x m := tb_ext (fun i hi => by
  rw [g_fl_tb r x m hm i hi, tb_xor, tb_and, low_tb hm hi, Bool.and_comm])
theorem flip_ct {m : Nat} (hm : m ≤ 64) (x : Int64) : f_bc (x &&& f_low (nI m)) = g_ones x m := by
  rw [f_bc_ct, ct_rv hm (rv_low hm _), g_ones_ct x m hm]
  congr 1
  exact fb_ct_cong (fun i hi => by rw [tb_and, low_tb hm (by omega)]; simp [hi])
theorem mst_s : ∀ h, h < 5 → ∀ j, j < 2 * h → (if nI (2 * h) - 1 < nI j + 1 then nI (2 * h) - 1 else nI j + 1) = nI (min (j + 1) (2 * h - 1)) ∧ nI j + (if nI (2 * h) - 1 ≤ nI j then 0 else 1) = nI (min (j + 1) (2 * h - 1)) ∧ (if nI j - 1 < 0 then 0 else nI j - 1) = nI (j - 1) ∧ nI j - (if nI j ≤ 0 then 0 else 1) = nI (j - 1) := by decide +kernel
theorem mst_0 : ∀ h, h < 5 → 0 < h → nI (2 * h) / 2 - 1 = nI (h - 1) := by decide +kernel
theorem mst_eq {h : Nat} (h0 : 0 < h) (h5 : h < 5) (r : Int64) : ∀ i, ∃ j, j < 2 * h ∧ f_mst r (nI (2 * h)) i = nI j ∧ g_mst r (nI (2 * h)) i = nI j
  | 0 => ⟨h - 1, by omega, mst_0 h h5 h0, mst_0 h h5 h0⟩
  | i + 1 => by
    obtain ⟨j, hj, e1, e2⟩ := mst_eq h0 h5 r i
    obtain ⟨s1, s2, s3, s4⟩ := mst_s h h5 j hj
    rw [f_mst, g_mst, e1, e2, f_g_bit]
    by_cases c : f_bitOf r (nI i) = 1
    · rw [if_pos c, if_pos c]; exact ⟨_, by omega, s1, s2⟩
    · rw [if_neg c, if_neg c]; exact ⟨_, by omega, s3, s4⟩
theorem mst_fg {h : Nat} (h0 : 0 < h) (h5 : h < 5) (r : Int64) (i : Nat) : f_mst r (nI (2 * h)) i = g_mst r (nI (2 * h)) i := by
  obtain ⟨j, -, e1, e2⟩ := mst_eq h0 h5 r i
  rw [e1, e2]
theorem mrow_fg {h : Nat} (h0 : 0 < h) (h5 : h < 5) (r : Int64) : ∀ i, f_mrow r (nI (2 * h)) i = g_mrow r (nI (2 * h)) i
  | 0 => rfl
  | i + 1 => by
    rw [f_mrow, g_mrow, mrow_fg h0 h5 r i, mst_fg h0 h5]
    by_cases c : g_mst r (nI (2 * h)) (i + 1) < nI (2 * h) / 2
    · rw [if_pos c, if_neg (Int32.not_le.mpr c), Int64.or_zero]
    · rw [if_neg c, if_pos (Int32.not_lt.mp c)]
theorem mrow_rv {n : Nat} (hn : n ≤ 64) (r : Int64) (k : Int32) : rv n (g_mrow r k n) := by
  intro i hi
  by_cases q : i < 64
  · rw [row_tb (F := g_mrow r k) (p := fun i => decide (¬ g_mst r k (i + 1) < k / 2)) rfl (fun j _ => by rw [g_mrow]; by_cases c : g_mst r k (j + 1) < k / 2 <;> simp [c]) n hn i q]
    simp; omega
  · exact tb_big (by omega)
theorem mach_nat {k : Int32} (hk : mach k) : ∃ h, 0 < h ∧ h < 5 ∧ k = nI (2 * h) := by
  obtain ⟨j, h1, h2, rfl⟩ := rng_nat (a := 2) (b := 8) (by omega) (by omega) hk.1
  have h3 := hk.2
  rw [show (2 : Int32) = nI 2 from rfl, rem_nI (by omega) (by omega) (by omega)] at h3
  have h4 : j % 2 = 0 := by
    rcases (show j % 2 = 0 ∨ j % 2 = 1 by omega) with z | z
    · exact z
    · rw [z] at h3; exact absurd h3 (by decide)
  exact ⟨j / 2, by omega, by omega, by rw [show 2 * (j / 2) = j by omega]⟩
