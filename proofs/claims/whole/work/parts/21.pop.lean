/-! how many bits are ones: the JDK's way and the plain one -/
theorem land256 (a b c d : Nat) (hb : b < 256) (hd : d < 256) : (256 * a + b) &&& (256 * c + d) = 256 * (a &&& c) + (b &&& d) := by
  have hbd : b &&& d < 2 ^ 8 := Nat.and_lt_two_pow b hd
  apply Nat.eq_of_testBit_eq
  intro i
  rw [Nat.testBit_and, show (256 : Nat) = 2 ^ 8 from rfl, Nat.testBit_two_pow_mul_add a hb i, Nat.testBit_two_pow_mul_add c hd i, Nat.testBit_two_pow_mul_add (a &&& c) hbd i]
  split
  · rw [Nat.testBit_and]
  · rw [Nat.testBit_and]
def m5 : Nat → Nat
  | 0 => 0
  | k + 1 => 256 * m5 k + 85
def m3 : Nat → Nat
  | 0 => 0
  | k + 1 => 256 * m3 k + 51
def m0 : Nat → Nat
  | 0 => 0
  | k + 1 => 256 * m0 k + 15
def n1 (k x : Nat) : Nat := x - ((x / 2) &&& m5 k)
def n2 (k x : Nat) : Nat := (x &&& m3 k) + ((x / 4) &&& m3 k)
def n3 (k x : Nat) : Nat := (x + x / 16) &&& m0 k
def c1 (b : Nat) : Nat := b - ((b / 2) &&& 85)
def c2 (b : Nat) : Nat := (b &&& 51) + ((b / 4) &&& 51)
def c3 (b : Nat) : Nat := (b + b / 16) &&& 15
def pc8 (b : Nat) : Nat := c3 (c2 (c1 b))
theorem n1_s (k x b : Nat) (hb : b < 256) : n1 (k + 1) (256 * x + b) = 256 * n1 k x + c1 b := by
  unfold n1 c1
  have h1 : (256 * x + b) / 2 = 256 * (x / 2) + (128 * (x % 2) + b / 2) := by omega
  have h2 : ∀ b, b < 256 → ∀ e, e < 2 → (128 * e + b / 2) &&& 85 = (b / 2) &&& 85 := by decide +kernel
  rw [h1, m5, land256 _ _ _ _ (by omega) (by omega), h2 b hb (x % 2) (by omega)]
  have h3 : x / 2 &&& m5 k ≤ x / 2 := Nat.and_le_left
  have h4 : b / 2 &&& 85 ≤ b / 2 := Nat.and_le_left
  omega
theorem n2_s (k x b : Nat) (hb : b < 256) : n2 (k + 1) (256 * x + b) = 256 * n2 k x + c2 b := by
  unfold n2 c2
  have h1 : (256 * x + b) / 4 = 256 * (x / 4) + (64 * (x % 4) + b / 4) := by omega
  have h2 : ∀ b, b < 256 → ∀ e, e < 4 → (64 * e + b / 4) &&& 51 = (b / 4) &&& 51 := by decide +kernel
  rw [h1, m3, land256 _ _ _ _ hb (by omega), land256 _ _ _ _ (by omega) (by omega), h2 b hb (x % 4) (by omega)]
  omega
theorem n3_s (k x b : Nat) (hx : x % 16 ≤ 4) (hb : b < 70) : n3 (k + 1) (256 * x + b) = 256 * n3 k x + c3 b := by
  unfold n3 c3
  have h1 : (256 * x + b) + (256 * x + b) / 16 = 256 * (x + x / 16) + (b + 16 * (x % 16) + b / 16) := by omega
  have h2 : ∀ b, b < 70 → ∀ e, e < 5 → (b + 16 * e + b / 16) &&& 15 = (b + b / 16) &&& 15 := by decide +kernel
  rw [h1, m0, land256 _ _ _ _ (by omega) (by omega), h2 b hb (x % 16) (by omega)]
theorem c_bd : ∀ b, b < 256 → c1 b < 256 ∧ c2 (c1 b) < 70 ∧ c2 (c1 b) % 16 ≤ 4 ∧ pc8 b ≤ 8 := by decide +kernel
theorem n21_mod (k x : Nat) : n2 k (n1 k x) % 16 ≤ 4 := by
  cases k with
  | zero => show ((n1 0 x &&& 0) + (n1 0 x / 4 &&& 0)) % 16 ≤ 4; rw [Nat.and_zero, Nat.and_zero]; decide
  | succ k =>
    have hx : x = 256 * (x / 256) + x % 256 := by omega
    have hb : x % 256 < 256 := by omega
    obtain ⟨h1, h2, h3, -⟩ := c_bd _ hb
    rw [hx, n1_s k _ _ hb, n2_s k _ _ h1]
    omega
def dg8 : Nat → Nat → Nat
  | 0, _ => 0
  | k + 1, x => 256 * dg8 k (x / 256) + pc8 (x % 256)
def sm8 : Nat → Nat → Nat
  | 0, _ => 0
  | k + 1, x => pc8 (x % 256) + sm8 k (x / 256)
theorem n321 : ∀ k x, n3 k (n2 k (n1 k x)) = dg8 k x
  | 0, x => by show _ &&& 0 = 0; rw [Nat.and_zero]
  | k + 1, x => by
    have hx : x = 256 * (x / 256) + x % 256 := by omega
    have hb : x % 256 < 256 := by omega
    obtain ⟨h1, h2, h3, -⟩ := c_bd _ hb
    rw [show n1 (k + 1) x = n1 (k + 1) (256 * (x / 256) + x % 256) by rw [← hx], n1_s k _ _ hb, n2_s k _ _ h1, n3_s k _ _ (n21_mod k _) h2, n321 k (x / 256)]
    rfl
theorem pc8_ct : ∀ b, b < 256 → pc8 b = fb_ct b.testBit 8 := by decide +kernel
theorem ct_sm8 : ∀ k x, fb_ct x.testBit (8 * k) = sm8 k x
  | 0, _ => rfl
  | k + 1, x => by
    have hx : x = 2 ^ 8 * (x / 256) + x % 256 := by omega
    have hb : x % 256 < 2 ^ 8 := by omega
    rw [show 8 * (k + 1) = 8 + 8 * k by omega, fb_ct_split, sm8, pc8_ct _ hb, ← ct_sm8 k (x / 256)]
    congr 1
    · exact fb_ct_cong (fun i hi => by rw [hx, Nat.testBit_two_pow_mul_add _ hb, if_pos hi]; simp)
    · exact fb_ct_cong (fun i hi => by rw [show x.testBit (8 + i) = (2 ^ 8 * (x / 256) + x % 256).testBit (8 + i) by rw [← hx], Nat.testBit_two_pow_mul_add _ hb, if_neg (by omega), Nat.add_sub_cancel_left])
theorem dig1 (u b : Nat) (h : b < 256) : (256 * u + b) / 256 = u := by omega
theorem dig2 (u b1 b0 : Nat) (h0 : b0 < 256) (h1 : b1 < 256) : (256 * (256 * u + b1) + b0) / 65536 = u := by omega
theorem dig4 (u b3 b2 b1 b0 : Nat) (h0 : b0 < 256) (h1 : b1 < 256) (h2 : b2 < 256) (h3 : b3 < 256) : (256 * (256 * (256 * (256 * u + b3) + b2) + b1) + b0) / 4294967296 = u := by
  rw [show (4294967296 : Nat) = 65536 * 65536 from rfl, ← Nat.div_div_eq_div_mul, dig2 _ _ _ h0 h1, dig2 _ _ _ h2 h3]
theorem digf (u v a b : Nat) (h : a + b < 128) : (256 * u + a + (256 * v + b)) % 128 = a + b := by omega
theorem lin1 (a1 a2 p0 p1 : Nat) (h : a1 = 256 * a2 + p1) : (256 * a1 + p0) + a1 = 256 * (a1 + a2) + (p0 + p1) := by omega
theorem lin2 (a0 a1 a2 a3 p0 p1 p2 : Nat) (h0 : a0 = 256 * a1 + p0) (h1 : a1 = 256 * a2 + p1) (h2 : a2 = 256 * a3 + p2) : a0 + a2 = 256 * (a1 + a3) + (p0 + p2) := by omega
theorem b8 {p : Nat} (h : p ≤ 8) : p < 256 := by omega
theorem b16 {p q : Nat} (h : p ≤ 8) (h2 : q ≤ 8) : p + q < 256 := by omega
theorem b32 {p q r s : Nat} (h : p ≤ 8) (h2 : q ≤ 8) (h3 : r ≤ 8) (h4 : s ≤ 8) : (p + q) + (r + s) < 256 := by omega
theorem b64 {p q r s a b c d : Nat} (h : p ≤ 8) (h2 : q ≤ 8) (h3 : r ≤ 8) (h4 : s ≤ 8) (h5 : a ≤ 8) (h6 : b ≤ 8) (h7 : c ≤ 8) (h8 : d ≤ 8) : ((p + q) + (r + s)) + ((a + b) + (c + d)) < 128 := by omega
theorem sum_low (p0 p1 p2 p3 p4 p5 p6 p7 : Nat) (h0 : p0 ≤ 8) (h1 : p1 ≤ 8) (h2 : p2 ≤ 8) (h3 : p3 ≤ 8) (h4 : p4 ≤ 8) (h5 : p5 ≤ 8) (h6 : p6 ≤ 8) (h7 : p7 ≤ 8) (x y z w : Nat)
    (hx : x = 256 * (256 * (256 * (256 * (256 * (256 * (256 * p7 + p6) + p5) + p4) + p3) + p2) + p1) + p0) (hy : y = x + x / 256) (hz : z = y + y / 65536) (hw : w = z + z / 4294967296) : w % 128 = p0 + (p1 + (p2 + (p3 + (p4 + (p5 + (p6 + p7)))))) := by
  obtain ⟨a6, i6⟩ : ∃ a, a = 256 * p7 + p6 := ⟨_, rfl⟩
  obtain ⟨a5, i5⟩ : ∃ a, a = 256 * a6 + p5 := ⟨_, rfl⟩
  obtain ⟨a4, i4⟩ : ∃ a, a = 256 * a5 + p4 := ⟨_, rfl⟩
  obtain ⟨a3, i3⟩ : ∃ a, a = 256 * a4 + p3 := ⟨_, rfl⟩
  obtain ⟨a2, i2⟩ : ∃ a, a = 256 * a3 + p2 := ⟨_, rfl⟩
  obtain ⟨a1, i1⟩ : ∃ a, a = 256 * a2 + p1 := ⟨_, rfl⟩
  rw [← i6, ← i5, ← i4, ← i3, ← i2, ← i1] at hx
  have e1 : x / 256 = a1 := by rw [hx]; exact dig1 _ _ (b8 h0)
  -- y's digits
  have y0 : y = 256 * (a1 + a2) + (p0 + p1) := by rw [hy, e1, hx]; exact lin1 _ _ _ _ i1
  have y1 : a1 + a2 = 256 * (a2 + a3) + (p1 + p2) := by rw [i1]; exact lin1 _ _ _ _ i2
  have y2 : a2 + a3 = 256 * (a3 + a4) + (p2 + p3) := by rw [i2]; exact lin1 _ _ _ _ i3
  have y3 : a3 + a4 = 256 * (a4 + a5) + (p3 + p4) := by rw [i3]; exact lin1 _ _ _ _ i4
  have y4 : a4 + a5 = 256 * (a5 + a6) + (p4 + p5) := by rw [i4]; exact lin1 _ _ _ _ i5
  have y5 : a5 + a6 = 256 * (a6 + p7) + (p5 + p6) := by rw [i5]; exact lin1 _ _ _ _ i6
  have y6 : a6 + p7 = 256 * p7 + (p6 + p7) := by rw [i6, Nat.add_assoc]
  clear hx hy e1 i1 i2 i3 i4 i5 i6
  generalize a1 + a2 = b1 at y0 y1
  generalize a2 + a3 = b2 at y1 y2
  generalize a3 + a4 = b3 at y2 y3
  generalize a4 + a5 = b4 at y3 y4
  generalize a5 + a6 = b5 at y4 y5
  generalize a6 + p7 = b6 at y5 y6
  have e2 : y / 65536 = b2 := by rw [y0, y1]; exact dig2 _ _ _ (b16 h0 h1) (b16 h1 h2)
  have z0 : z = 256 * (b1 + b3) + ((p0 + p1) + (p2 + p3)) := by rw [hz, e2]; exact lin2 _ _ _ _ _ _ _ y0 y1 y2
  have z1 : b1 + b3 = 256 * (b2 + b4) + ((p1 + p2) + (p3 + p4)) := lin2 _ _ _ _ _ _ _ y1 y2 y3
  have z2 : b2 + b4 = 256 * (b3 + b5) + ((p2 + p3) + (p4 + p5)) := lin2 _ _ _ _ _ _ _ y2 y3 y4
  have z3 : b3 + b5 = 256 * (b4 + b6) + ((p3 + p4) + (p5 + p6)) := lin2 _ _ _ _ _ _ _ y3 y4 y5
  have z4 : b4 + b6 = 256 * (b5 + p7) + ((p4 + p5) + (p6 + p7)) := lin2 _ _ _ _ _ _ _ y4 y5 y6
  clear hz e2 y0 y1 y2 y3 y4 y5 y6
  have e3 : z / 4294967296 = b4 + b6 := by rw [z0, z1, z2, z3]; exact dig4 _ _ _ _ _ (b32 h0 h1 h2 h3) (b32 h1 h2 h3 h4) (b32 h2 h3 h4 h5) (b32 h3 h4 h5 h6)
  rw [hw, e3, z0, z4, digf _ _ _ _ (b64 h0 h1 h2 h3 h4 h5 h6 h7)]
  simp only [Nat.add_assoc]
theorem m_val : m5 8 = 6148914691236517205 ∧ m3 8 = 3689348814741910323 ∧ m0 8 = 1085102592571150095 := by decide
theorem f_bc_nat {x : Nat} (hx : x < 2 ^ 64) : f_bc (lN x) = nI (sm8 8 x) := by
  obtain ⟨v5, v3, v0⟩ := m_val
  have a1 : x / 2 &&& m5 8 ≤ x / 2 := Nat.and_le_left
  have e1 : bc1 (lN x) = lN (n1 8 x) := by
    unfold bc1 ushrL
    rw [show (1 : Int32) = nI 1 from rfl, wb_shr hx (by omega), show (6148914691236517205 : Int64) = lN (m5 8) by rw [v5]; rfl, wb_and (by omega) (by rw [v5]; omega), lN_sub (by simp only [Nat.pow_one]; omega)]
    rfl
  have b1 : n1 8 x < 2 ^ 64 := by unfold n1; omega
  have a2 : n1 8 x &&& m3 8 ≤ m3 8 := Nat.and_le_right
  have a3 : n1 8 x / 4 &&& m3 8 ≤ m3 8 := Nat.and_le_right
  have e2 : bc2 (lN (n1 8 x)) = lN (n2 8 (n1 8 x)) := by
    unfold bc2 ushrL
    rw [show (2 : Int32) = nI 2 from rfl, wb_shr b1 (by omega), show (3689348814741910323 : Int64) = lN (m3 8) by rw [v3]; rfl, wb_and b1 (by rw [v3]; omega), wb_and (by omega) (by rw [v3]; omega), lN_add]
    rfl
  have b2 : n2 8 (n1 8 x) ≤ 2 * 3689348814741910323 := by unfold n2; omega
  have e3 : bc3 (lN (n2 8 (n1 8 x))) = lN (dg8 8 x) := by
    unfold bc3 ushrL
    rw [show (4 : Int32) = nI 4 from rfl, wb_shr (by omega) (by omega), lN_add, show (1085102592571150095 : Int64) = lN (m0 8) by rw [v0]; rfl, wb_and (by omega) (by rw [v0]; omega), ← n321 8 x]
    rfl
  have b3 : dg8 8 x ≤ 1085102592571150095 := by rw [← n321 8 x, ← v0]; exact Nat.and_le_right
  generalize ed : dg8 8 x = y at e3 b3
  have e4 : bc4 (lN y) = lN (y + y / 256) := by
    unfold bc4 ushrL
    rw [show (8 : Int32) = nI 8 from rfl, wb_shr (by omega) (by omega), lN_add]
  generalize ey : y + y / 256 = z at e4
  have b4 : z < 2 ^ 62 := by omega
  have e5 : bc5 (lN z) = lN (z + z / 65536) := by
    unfold bc5 ushrL
    rw [show (16 : Int32) = nI 16 from rfl, wb_shr (by omega) (by omega), lN_add]
  generalize ez : z + z / 65536 = w at e5
  have b5 : w < 2 ^ 63 := by omega
  have e6 : bc6 (lN w) = lN (w + w / 4294967296) := by
    unfold bc6 ushrL
    rw [show (32 : Int32) = nI 32 from rfl, wb_shr (by omega) (by omega), lN_add]
  unfold f_bc
  rw [e1, e2, e3, e4, e5, e6, lN_i, show (127 : Int32) = nI (2 ^ 7 - 1) from rfl, fa_mask]
  congr 1
  have hp : ∀ z, pc8 (z % 256) ≤ 8 := fun z => (c_bd _ (Nat.mod_lt _ (by omega))).2.2.2
  refine sum_low _ _ _ _ _ _ _ _ (hp x) (hp (x / 256)) (hp (x / 256 / 256)) (hp (x / 256 / 256 / 256)) (hp (x / 256 / 256 / 256 / 256)) (hp (x / 256 / 256 / 256 / 256 / 256)) (hp (x / 256 / 256 / 256 / 256 / 256 / 256)) (hp (x / 256 / 256 / 256 / 256 / 256 / 256 / 256)) y z w _ ?_ ey.symm ez.symm rfl
  rw [← ed]
  simp only [dg8, Nat.mul_zero, Nat.zero_add]
theorem tb_lN {x : Nat} (i : Nat) (hi : i < 64) : tb (lN x) i = x.testBit i := by
  unfold tb
  rw [wb_tb, BitVec.getLsbD_ofNat]
  simp [hi]
theorem f_bc_ct (r : Int64) : f_bc r = nI (fb_ct (tb r) 64) := by
  obtain ⟨x, hx, rfl⟩ := wb_of r
  rw [f_bc_nat hx, ← ct_sm8 8 x]
  congr 1
  exact fb_ct_cong (fun i hi => (tb_lN i hi).symm)
theorem g_ones_ct (r : Int64) : ∀ k, k ≤ 64 → g_ones r k = nI (fb_ct (tb r) k)
  | 0, _ => rfl
  | k + 1, h => by
    rw [g_ones, g_ones_ct r k (by omega), g_bit_tb r (by omega), fb_ct_succ]
    cases tb r k
    · exact nI_add _ 0
    · exact nI_add _ 1
theorem ct_rv {n : Nat} (hn : n ≤ 64) {r : Int64} (h : rv n r) : fb_ct (tb r) 64 = fb_ct (tb r) n := by
  rw [show (64 : Nat) = n + (64 - n) by omega, fb_ct_split]
  have e : fb_ct (fun k => tb r (n + k)) (64 - n) = 0 := fb_ct_zero.mpr (fun k _ => h (n + k) (by omega))
  omega
theorem ones_eq {n : Nat} (hn : n ≤ 64) {r : Int64} (h : rv n r) : f_bc r = g_ones r n := by
  rw [f_bc_ct, g_ones_ct r n hn, ct_rv hn h]
