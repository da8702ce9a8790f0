/-! rows as bits -/
def tb (x : Int64) (i : Nat) : Bool := x.toBitVec.getLsbD i
theorem tb_ext {x y : Int64} (h : ∀ i, i < 64 → tb x i = tb y i) : x = y := wb_inj (BitVec.eq_of_getLsbD_eq (fun i hi => h i hi))
theorem tb_and (x y : Int64) (i : Nat) : tb (x &&& y) i = (tb x i && tb y i) := by unfold tb; rw [Int64.toBitVec_and, BitVec.getLsbD_and]
theorem tb_or (x y : Int64) (i : Nat) : tb (x ||| y) i = (tb x i || tb y i) := by unfold tb; rw [Int64.toBitVec_or, BitVec.getLsbD_or]
theorem tb_xor (x y : Int64) (i : Nat) : tb (x ^^^ y) i = (tb x i ^^ tb y i) := by unfold tb; rw [Int64.toBitVec_xor, BitVec.getLsbD_xor]
theorem tb_m1 {i : Nat} (h : i < 64) : tb (-1) i = true := by
  unfold tb
  rw [show (-1 : Int64).toBitVec = BitVec.allOnes 64 by decide, BitVec.getLsbD_allOnes]
  exact decide_eq_true h
theorem tb_0 (i : Nat) : tb 0 i = false := by unfold tb; exact BitVec.getLsbD_zero
theorem tb_big {x : Int64} {i : Nat} (h : 64 ≤ i) : tb x i = false := BitVec.getLsbD_of_ge _ _ h
theorem tb_ushr (x : Int64) {k : Nat} (hk : k < 64) (i : Nat) : tb (ushrL x (nI k)) i = tb x (k + i) := by
  unfold tb ushrL
  rw [wb_cu k hk]
  have e : (x.toUInt64 >>> UInt64.ofNat k).toInt64.toBitVec = x.toBitVec >>> k := by
    apply BitVec.eq_of_toNat_eq
    show (x.toUInt64 >>> UInt64.ofNat k).toNat = _
    rw [UInt64.toNat_shiftRight, u_tn (by omega), Nat.mod_eq_of_lt hk, BitVec.toNat_ushiftRight]
    rfl
  rw [e, BitVec.getLsbD_ushiftRight]
theorem tb_shl (x : Int64) {k : Nat} (hk : k < 64) {i : Nat} (hi : i < 64) : tb (shlL x (nI k)) i = (decide (k ≤ i) && tb x (i - k)) := by
  unfold tb shlL
  rw [wb_c k hk, Int64.toBitVec_shiftLeft, wb_tb, wb_sm k hk, BitVec.shiftLeft_eq', BitVec.toNat_ofNat, Nat.mod_eq_of_lt (by omega), BitVec.getLsbD_shiftLeft]
  by_cases q : k ≤ i
  · simp [hi, q]
  · simp [hi, q]
theorem tb_one {k : Nat} (hk : k < 64) {i : Nat} (hi : i < 64) : tb (shlL 1 (nI k)) i = decide (i = k) := by
  rw [tb_shl 1 hk hi]
  have h1 : ∀ j, j < 64 → tb 1 j = decide (j = 0) := by decide +kernel
  rw [h1 (i - k) (by omega)]
  by_cases q : k ≤ i <;> by_cases z : i = k <;> simp [q, z] <;> omega
theorem f_g_bit (r : Int64) (i : Int32) : g_bitOf r i = f_bitOf r i := by unfold g_bitOf f_bitOf; rw [Int64.toInt32_and]; rfl
theorem g_bit_tb (r : Int64) {i : Nat} (hi : i < 64) : g_bitOf r (nI i) = if tb r i then 1 else 0 := by
  rw [f_g_bit]
  unfold f_bitOf
  have e : tb (ushrL r (nI i) &&& 1) 0 = tb r i := by rw [tb_and, tb_ushr r hi]; simp [show tb 1 0 = true by decide]
  have e2 : ∀ b : Bool, ushrL r (nI i) &&& 1 = (if b then 1 else 0) → (ushrL r (nI i) &&& 1).toInt32 = if b then 1 else 0 := by
    intro b h; rw [h]; cases b <;> decide
  refine e2 (tb r i) (tb_ext (fun j hj => ?_))
  rw [tb_and]
  have h1 : ∀ j, j < 64 → tb 1 j = decide (j = 0) := by decide +kernel
  rw [h1 j hj]
  by_cases q : j = 0
  · subst q
    rw [tb_ushr r hi]
    rw [Nat.add_zero]
    cases tb r i
    · decide
    · decide
  · simp [q]
    cases tb r i
    · exact tb_0 j
    · show tb 1 j = false
      rw [h1 j hj]; simp [q]
/-- a row that a loop makes, bit by bit -/
theorem row_tb {F : Nat → Int64} {p : Nat → Bool} (h0 : F 0 = 0) (hs : ∀ k, k < 64 → F (k + 1) = F k ||| (if p k then shlL 1 (nI k) else 0)) : ∀ k, k ≤ 64 → ∀ i, i < 64 → tb (F k) i = (decide (i < k) && p i)
  | 0, _, i, hi => by rw [h0, tb_0]; simp
  | k + 1, hk, i, hi => by
    rw [hs k (by omega), tb_or, row_tb h0 hs k (by omega) i hi]
    by_cases z : i = k
    · subst z
      cases hp : p i
      · simp [tb_0]
      · simp [tb_one hi hi]
    · cases hp : p k
      · simp [tb_0]
        by_cases q : i < k
        · simp [q, show i < k + 1 by omega]
        · simp [q, show ¬ i < k + 1 by omega]
      · rw [if_pos rfl, tb_one (by omega) hi]
        by_cases q : i < k
        · simp [q, z, show i < k + 1 by omega]
        · simp [q, z, show ¬ i < k + 1 by omega]
theorem row_eq {F G : Nat → Int64} {p : Nat → Bool} {n : Nat} (hn : n ≤ 64) (h0 : F 0 = 0) (hs : ∀ k, k < 64 → F (k + 1) = F k ||| (if p k then shlL 1 (nI k) else 0)) {x : Int64} (hx : ∀ i, i < 64 → tb x i = (decide (i < n) && p i)) : x = F n :=
  tb_ext (fun i hi => by rw [hx i hi, row_tb h0 hs n hn i hi])
theorem low_tb {n : Nat} (hn : n ≤ 64) {i : Nat} (hi : i < 64) : tb (f_low (nI n)) i = decide (i < n) := by
  have h : ∀ n, n < 65 → ∀ i, i < 64 → tb (f_low (nI n)) i = decide (i < n) := by decide +kernel
  exact h n (by omega) i hi
/-- a row has no bits from n on -/
def rv (n : Nat) (x : Int64) : Prop := ∀ i, n ≤ i → tb x i = false
theorem rv_low {n : Nat} (hn : n ≤ 64) (x : Int64) : rv n (x &&& f_low (nI n)) := fun i hi => by
  by_cases q : i < 64
  · rw [tb_and, low_tb hn q]; simp; omega
  · exact tb_big (by omega)
theorem rv_and {n : Nat} (hn : n ≤ 64) {x : Int64} (h : rv n x) : x &&& f_low (nI n) = x := tb_ext (fun i hi => by
  rw [tb_and, low_tb hn hi]
  by_cases q : i < n
  · simp [q]
  · rw [h i (by omega)]; rfl)
theorem rv_0 (n : Nat) : rv n 0 := fun i _ => tb_0 i
