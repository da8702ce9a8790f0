/-! parts, forms, floors, together, ever: class and reference alike -/
/-- the form's numbers are as told -/
def nuOK (nu : Nat → Int32) : Prop := ∀ i, i < 5 → -1000 ≤ (nu i).toInt ∧ (nu i).toInt ≤ 1000
theorem cm_part {d m j s : Nat} (hd : d ≤ 4) (hdm : d ≤ m) (hm : m ≤ 10) (hj : j ≤ m) {nu : Nat → Int32} (hnu : nuOK nu) (hs : 1 ≤ s) (hs2 : s ≤ 1000) : cmOK (g_U d nu m j) (g_Y d (nI s) m) := by
  obtain ⟨Y, h0, hY, -, e2⟩ := pb_eq hd hdm hm hs hs2
  have hb := up_bd hd hdm hm hj hnu
  rw [up_eq hd hdm hm hj] at hb
  rw [e2]
  exact cmOK_of (by omega) h0 (by omega)
theorem terms_eq {d m j s : Nat} (hd : d ≤ 4) (hdm : d ≤ m) (hm : m ≤ 10) (hj : j ≤ m) {nu : Nat → Int32} (hnu : nuOK nu) (hs : 1 ≤ s) (hs2 : s ≤ 1000) (p : Int32) : f_terms (f_up d nu (nI m) j) (f_pb d (nI s) (nI m)) p = if p = 0 then g_U d nu m j / g_G (g_U d nu m j) (g_Y d (nI s) m) else g_Y d (nI s) m / g_G (g_U d nu m j) (g_Y d (nI s) m) := by
  obtain ⟨Y, h0, hY, e1, e2⟩ := pb_eq hd hdm hm hs hs2
  have hb := up_bd hd hdm hm hj hnu
  unfold f_terms
  rw [e1, e2, cdv_eq (by omega) h0 hY, up_eq hd hdm hm hj]
theorem ok_iff {d m j s : Nat} (hd : d ≤ 4) (hdm : d ≤ m) (hm : m ≤ 10) (hj : j ≤ m) {nu : Nat → Int32} (hs : 1 ≤ s) (hs2 : s ≤ 1000) : f_ok d nu (nI s) (nI m) j ↔ g_okP d nu (nI s) m j := by
  obtain ⟨Y, h0, hY, e1, e2⟩ := pb_eq hd hdm hm hs hs2
  unfold f_ok g_okP
  rw [e1, e2, up_eq hd hdm hm hj]
  obtain ⟨G, a, b, g0, ha, hb, ea, eb⟩ := divG (u := g_U d nu m j) h0 hY
  have z0 : (0 : Int64).toInt = 0 := by decide
  have eY : (lN Y).toInt = (Y : Int) := pk_lT (by omega)
  rw [Int64.lt_iff_toInt_lt, Int64.le_iff_toInt_le, Int64.lt_iff_toInt_lt, Int64.lt_iff_toInt_lt, z0, ea, eb, ha, eY, hb]
  have g1 : (0 : Int) < G := by omega
  have k1 : (G : Int) * a < 0 ↔ a < 0 := by
    constructor
    · intro h
      by_cases q : a < 0
      · exact q
      · exact absurd (Int.mul_nonneg (Int.le_of_lt g1) (Int.not_lt.mp q)) (by omega)
    · intro h; exact Int.mul_neg_of_pos_of_neg g1 h
  have k2 : (G : Int) * a ≤ G * b ↔ a ≤ b := ⟨fun h => Int.le_of_mul_le_mul_left h g1, fun h => Int.mul_le_mul_of_nonneg_left h (by omega)⟩
  rw [k1, k2, Int.not_lt, Int.not_lt]
theorem may_iff {d m s : Nat} (hd : d ≤ 4) (hdm : d ≤ m) (hm : m ≤ 10) {nu : Nat → Int32} (hs : 1 ≤ s) (hs2 : s ≤ 1000) : ¬ g_mv d nu (nI s) m (m + 1) = 0 ↔ f_may d nu (nI s) m := by
  rw [bI_ne]
  exact ⟨fun h j hj => (ok_iff hd hdm hm (by omega) hs hs2).mpr (h j hj), fun h j hj => (ok_iff hd hdm hm (by omega) hs hs2).mp (h j hj)⟩
theorem least_eq {d s : Nat} (hd : d ≤ 4) {nu : Nat → Int32} (hs : 1 ≤ s) (hs2 : s ≤ 1000) : ∀ f m, d ≤ m → m + f ≤ 11 → o_least d nu (nI s) f m = p_least d nu (nI s) f m
  | 0, _, _, _ => rfl
  | f + 1, m, h1, h2 => by
    rw [o_least, p_least, least_eq hd hs hs2 f (m + 1) (by omega) (by omega)]
    have hi := may_iff (nu := nu) hd h1 (show m ≤ 10 by omega) hs hs2
    by_cases c : f_may d nu (nI s) m
    · rw [if_pos c, if_neg (hi.mpr c)]
    · rw [if_neg c, if_pos (Decidable.not_not.mp (fun q => c (hi.mp q)))]
set_option maxRecDepth 100000 in
theorem rnd_j : ∀ q, q < 7 → ∀ x, x < 128 → f_round (nI (2 ^ q)) (nI x) = remI (nI x) (nI (2 ^ q)) := by decide +kernel
theorem jn_eq {q : Nat} (hq : q ≤ 6) (r : Int64) {i : Nat} (hi : i < 64) : ∀ m, m ≤ 10 → f_jn (nI (2 ^ q)) r (nI i) m = g_jn (nI (2 ^ q)) r (nI i) m
  | 0, _ => rfl
  | m + 1, h => by rw [f_jn, g_jn, jn_eq hq r hi m (by omega), nI_add, rnd_j q (by omega) (i + m) (by omega), f_g_bit]
/-- one comparison of the form's stream -/
theorem cmp_iff {d m j s n t : Nat} (hd : d ≤ 4) (hdm : d ≤ m) (hm : m ≤ 10) (hj : j ≤ m) {nu : Nat → Int32} (hnu : nuOK nu) (hs : 1 ≤ s) (hs2 : s ≤ 1000) (hn : n ≤ 64) (ht : t ≤ 64) :
    f_up d nu (nI m) j * (nI n).toInt64 ≤ (nI t).toInt64 * f_pb d (nI s) (nI m) ↔ g_U d nu m j / g_G (g_U d nu m j) (g_Y d (nI s) m) * (nI n).toInt64 ≤ (nI t).toInt64 * (g_Y d (nI s) m / g_G (g_U d nu m j) (g_Y d (nI s) m)) := by
  obtain ⟨Y, h0, hY, e1, e2⟩ := pb_eq hd hdm hm hs hs2
  have hb1 := up_bd hd hdm hm hj hnu
  rw [up_eq hd hdm hm hj] at hb1 ⊢
  rw [e1, e2]
  generalize g_U d nu m j = u at hb1 ⊢
  obtain ⟨G, a, b, g0, ha, hb, ea, eb⟩ := divG (u := u) h0 hY
  have eY : (lN Y).toInt = (Y : Int) := pk_lT (by omega)
  have en : (nI n).toInt64.toInt = (n : Int) := by rw [nI_l (by omega)]; exact pk_lT (by omega)
  have et : (nI t).toInt64.toInt = (t : Int) := by rw [nI_l (by omega)]; exact pk_lT (by omega)
  have g1 : (0 : Int) < G := by omega
  have ab : a.natAbs ≤ u.toInt.natAbs := by
    rw [ha, Int.natAbs_mul]
    exact Nat.le_mul_of_pos_left _ (by simpa using g0)
  have b0 : 0 < b := by
    by_cases q : 0 < b
    · exact q
    · exact absurd (Int.mul_nonpos_of_nonneg_of_nonpos (Int.le_of_lt g1) (Int.not_lt.mp q)) (by omega)
  have bb : b ≤ (Y : Int) := by
    rw [hb]
    have := Int.mul_le_mul_of_nonneg_right (show (1 : Int) ≤ G by omega) (Int.le_of_lt b0)
    omega
  have bd : ∀ x : Int, x.natAbs < 2 ^ 44 → -(2 ^ 44 * 64) ≤ x * n ∧ x * n ≤ 2 ^ 44 * 64 := by
    intro x hx
    have h2 : (x * n).natAbs ≤ 2 ^ 44 * 64 := by
      rw [Int.natAbs_mul]
      exact Nat.mul_le_mul (by omega) (by simpa using hn)
    omega
  have bt : ∀ x : Int, 0 ≤ x → x ≤ 2 ^ 38 → 0 ≤ (t : Int) * x ∧ (t : Int) * x ≤ 64 * 2 ^ 38 := fun x h1 h2 => ⟨Int.mul_nonneg (by omega) h1, Int.mul_le_mul (by omega) h2 h1 (by omega)⟩
  obtain ⟨q1, q2⟩ := bd u.toInt hb1
  obtain ⟨q3, q4⟩ := bd a (by omega)
  obtain ⟨q5, q6⟩ := bt Y (by omega) (by omega)
  obtain ⟨q7, q8⟩ := bt b (by omega) (by omega)
  rw [Int64.le_iff_toInt_le, Int64.le_iff_toInt_le]
  rw [fb_mulL (x := u) (by rw [en]; omega) (by rw [en]; omega), fb_mulL (y := lN Y) (by rw [et, eY]; omega) (by rw [et, eY]; omega), fb_mulL (y := (nI n).toInt64) (by rw [ea, en]; omega) (by rw [ea, en]; omega), fb_mulL (x := (nI t).toInt64) (by rw [et, eb]; omega) (by rw [et, eb]; omega)]
  rw [en, et, ea, eb, eY]
  have r1 : u.toInt * (n : Int) = G * (a * n) := by rw [ha, Int.mul_assoc]
  have r2 : (t : Int) * (Y : Int) = G * (t * b) := by rw [hb, ← Int.mul_assoc, ← Int.mul_assoc, Int.mul_comm (t : Int) G]
  rw [r1, r2]
  exact ⟨fun h => Int.le_of_mul_le_mul_left h g1, fun h => Int.mul_le_mul_of_nonneg_left h (by omega)⟩
set_option maxRecDepth 100000 in
theorem turn_bd : ∀ q, q < 7 → ∀ i, i < 64 → g_rv (nI i) q = nI (g_rv (nI i) q).toNatClampNeg ∧ (g_rv (nI i) q).toNatClampNeg ≤ 64 := by decide +kernel
theorem form_eq {q d m s : Nat} (h3 : 3 ≤ q) (h6 : q ≤ 6) (hd : d ≤ 4) (hdm : d ≤ m) (hm : m ≤ 10) {nu : Nat → Int32} (hnu : nuOK nu) (hs : 1 ≤ s) (hs2 : s ≤ 1000) (r : Int64) : ∀ i, i ≤ 2 ^ q → f_form (nI (2 ^ q)) (nI q) (fun j => f_up d nu (nI m) j) (f_pb d (nI s) (nI m)) r m i = g_form q d nu (nI s) r m i
  | 0, _ => rfl
  | i + 1, hi => by
    have hn := pw_le h6
    rw [f_form, g_form, form_eq h3 h6 hd hdm hm hnu hs hs2 r i (by omega), jn_eq h6 r (by omega) m hm, nI_cl (show q < 2 ^ 31 by omega), turn_eq h3 h6 (by omega)]
    obtain ⟨j, hj, ej⟩ := g_jn_nat (nI (2 ^ q)) r (nI i) m
    obtain ⟨t1, t2⟩ := turn_bd q (by omega) i (by omega)
    rw [ej, nI_cl (by omega)]
    rw [t1]
    generalize (g_rv (nI i) q).toNatClampNeg = t at t2
    have hc := cmp_iff (n := 2 ^ q) (t := t) hd hdm hm hj hnu hs hs2 hn t2
    by_cases c : g_U d nu m j / g_G (g_U d nu m j) (g_Y d (nI s) m) * (nI (2 ^ q)).toInt64 ≤ (nI t).toInt64 * (g_Y d (nI s) m / g_G (g_U d nu m j) (g_Y d (nI s) m))
    · rw [if_pos c, if_pos (hc.mpr c), Int64.or_zero]
    · rw [if_neg c, if_neg (fun h => c (hc.mp h))]
theorem form_rv {q d m : Nat} (h6 : q ≤ 6) (nu : Nat → Int32) (sc : Int32) (r : Int64) : rv (2 ^ q) (g_form q d nu sc r m (2 ^ q)) := by
  intro i hi
  by_cases z : i < 64
  · obtain ⟨p, hp⟩ : ∃ p : Nat → Bool, ∀ k, g_form q d nu sc r m (k + 1) = g_form q d nu sc r m k ||| (if p k then shlL 1 (nI k) else 0) :=
      ⟨fun i => decide (¬ g_U d nu m (g_jn (nI (2 ^ q)) r (nI i) m).toNatClampNeg / g_G (g_U d nu m (g_jn (nI (2 ^ q)) r (nI i) m).toNatClampNeg) (g_Y d sc m) * (nI (2 ^ q)).toInt64 ≤ (g_rv (nI i) q).toInt64 * (g_Y d sc m / g_G (g_U d nu m (g_jn (nI (2 ^ q)) r (nI i) m).toNatClampNeg) (g_Y d sc m))), fun k => by
        rw [g_form]
        split
        · rename_i c; simp [c]
        · rename_i c; simp [c]⟩
    rw [row_tb (F := g_form q d nu sc r m) (p := p) rfl (fun k _ => hp k) (2 ^ q) (pw_le h6) i z]
    simp; omega
  · exact tb_big (by omega)
/-- rounding down: the JDK's way and the reference's -/
theorem floor_eq (x : Int64) {y : Int64} (hy : 0 < y) : f_floorDiv x y = if 0 ≤ remL x y then x / y else x / y - 1 := by
  have z0 : (0 : Int64).toInt = 0 := by decide
  have hy' := hy
  rw [Int64.lt_iff_toInt_lt, z0] at hy'
  have hm : y ≠ -1 := fun q => by rw [q] at hy; exact absurd hy (by decide)
  have rx := fb_rngL x
  have ry := fb_rngL y
  have ed : (x / y).toInt = x.toInt.tdiv y.toInt := Int64.toInt_div_of_ne_right x y hm
  have edm : x.toInt.tdiv y.toInt * y.toInt + x.toInt.tmod y.toInt = x.toInt := Int.tdiv_mul_add_tmod x.toInt y.toInt
  have hsx : (0 ≤ x ^^^ y) ↔ 0 ≤ x := by
    have h1 : ∀ w : Int64, 0 ≤ w ↔ tb w 63 = false := by
      intro w
      rw [Int64.le_iff_toInt_le, z0]
      show 0 ≤ w.toBitVec.toInt ↔ w.toBitVec.getLsbD 63 = false
      rw [show w.toBitVec.getLsbD 63 = w.toBitVec.msb by rw [BitVec.msb_eq_getLsbD_last]]
      rw [BitVec.msb_eq_toInt]
      simp
    rw [h1, h1, tb_xor, (h1 y).mp (Int64.le_of_lt hy), Bool.xor_false]
  have habs : (x.toInt.tdiv y.toInt * y.toInt).natAbs ≤ x.toInt.natAbs := by
    rw [Int.natAbs_mul, Int.natAbs_tdiv]
    exact Nat.div_mul_le_self _ _
  have hpos : 0 ≤ x.toInt → 0 ≤ x.toInt.tdiv y.toInt * y.toInt := fun h => Int.mul_nonneg (Int.tdiv_nonneg h (Int.le_of_lt hy')) (Int.le_of_lt hy')
  have hneg : x.toInt ≤ 0 → x.toInt.tdiv y.toInt * y.toInt ≤ 0 := fun h => by
    have h2 : 0 ≤ (-x.toInt).tdiv y.toInt * y.toInt := Int.mul_nonneg (Int.tdiv_nonneg (by omega) (Int.le_of_lt hy')) (Int.le_of_lt hy')
    rw [Int.neg_tdiv, Int.neg_mul] at h2
    omega
  have em : (x / y * y).toInt = x.toInt.tdiv y.toInt * y.toInt := by
    rw [fb_mulL (by rw [ed]; omega) (by rw [ed]; omega), ed]
  have er : (remL x y).toInt = x.toInt.tmod y.toInt := by
    unfold remL
    rw [fb_subL (by rw [em]; omega) (by rw [em]; omega), em]
    omega
  unfold f_floorDiv
  by_cases c : 0 ≤ x
  · have hr : 0 ≤ remL x y := by rw [Int64.le_iff_toInt_le, z0, er]; rw [Int64.le_iff_toInt_le, z0] at c; exact Int.tmod_nonneg _ c
    rw [if_pos (hsx.mpr c), if_pos hr]
  · rw [if_neg (fun h => c (hsx.mp h))]
    have c' := c
    rw [Int64.le_iff_toInt_le, z0] at c'
    by_cases e : x / y * y = x
    · have hr : 0 ≤ remL x y := by unfold remL; rw [e, Int64.sub_self]; exact Int64.le_refl _
      rw [if_pos e, if_pos hr]
    · have hr : ¬ 0 ≤ remL x y := by
        rw [Int64.le_iff_toInt_le, z0, er]
        intro h
        apply e
        apply Int64.toInt_inj.mp
        rw [em]
        have h2 : x.toInt.tmod y.toInt ≤ 0 := by
          have := Int.tmod_nonneg y.toInt (show 0 ≤ -x.toInt by omega)
          rw [Int.neg_tmod] at this
          omega
        omega
      rw [if_neg e, if_neg hr]
set_option maxRecDepth 100000 in
theorem pow_tab : ∀ q, q < 7 → ∀ d, d < 5 → f_power (nI (2 ^ q)).toInt64 d = lN (2 ^ (q * d)) := by decide +kernel
theorem low_pos {q d s : Nat} (hq : q ≤ 6) (hd : d ≤ 4) (hs : 1 ≤ s) (hs2 : s ≤ 1000) : ∃ Y, 0 < Y ∧ Y < 2 ^ 40 ∧ (nI s).toInt64 * f_power (nI (2 ^ q)).toInt64 d = lN Y := by
  have h1 : q * d ≤ 6 * 4 := Nat.mul_le_mul hq hd
  have h2 : 2 ^ (q * d) ≤ 2 ^ 24 := Nat.pow_le_pow_right (by omega) h1
  have h3 : s * 2 ^ (q * d) ≤ 1000 * 2 ^ 24 := Nat.mul_le_mul hs2 h2
  exact ⟨s * 2 ^ (q * d), Nat.mul_pos hs (Nat.pow_pos (by omega)), by omega, by rw [pow_tab q (by omega) d (by omega), nI_l (by omega), lN_mul]⟩
theorem at_eq {q d s : Nat} (hq : q ≤ 6) (hd : d ≤ 4) (hs : 1 ≤ s) (hs2 : s ≤ 1000) (nu : Nat → Int32) (v : Int32) : o_at d nu (nI s) (nI (2 ^ q)) v = p_at d nu (nI s) (nI (2 ^ q)) v := by
  unfold o_at p_at
  split
  · unfold f_at g_at
    obtain ⟨Y, h0, hY, e⟩ := low_pos (q := q) (d := d) hq hd hs hs2
    rw [e]
    have p0 : (0 : Int64) < lN Y := (pk_lLT (a := 0) (by omega) (by omega)).mpr h0
    have p1 : f_max1 (lN Y) = lN Y := by
      unfold f_max1
      by_cases z : 1 < Y
      · have q1 : (1 : Int64) < lN Y := (pk_lLT (a := 1) (by omega) (by omega)).mpr z
        rw [if_pos q1]
      · have q1 : ¬ (1 : Int64) < lN Y := fun h => z ((pk_lLT (a := 1) (by omega) (by omega)).mp h)
        rw [if_neg q1, show Y = 1 by omega]; rfl
    rw [p1, floor_eq _ p0]
  · rfl
