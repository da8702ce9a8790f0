/-! the sources, by trying all -/
set_option maxRecDepth 100000 in
theorem src_3_0 : ∀ v, v < 9 → f_src (nI 8) (nI 3) (nI 0) (nI v) = g_srow 3 (nI 0) (nI v) 8 ∧ g_srow 3 (nI 0) (nI v) 8 &&& f_low (nI 8) = g_srow 3 (nI 0) (nI v) 8 := by decide +kernel
set_option maxRecDepth 100000 in
theorem src_3_1 : ∀ v, v < 9 → f_src (nI 8) (nI 3) (nI 1) (nI v) = g_srow 3 (nI 1) (nI v) 8 ∧ g_srow 3 (nI 1) (nI v) 8 &&& f_low (nI 8) = g_srow 3 (nI 1) (nI v) 8 := by decide +kernel
set_option maxRecDepth 100000 in
theorem src_3_2 : ∀ v, v < 9 → f_src (nI 8) (nI 3) (nI 2) (nI v) = g_srow 3 (nI 2) (nI v) 8 ∧ g_srow 3 (nI 2) (nI v) 8 &&& f_low (nI 8) = g_srow 3 (nI 2) (nI v) 8 := by decide +kernel
set_option maxRecDepth 100000 in
theorem src_3_3 : ∀ v, v < 9 → f_src (nI 8) (nI 3) (nI 3) (nI v) = g_srow 3 (nI 3) (nI v) 8 ∧ g_srow 3 (nI 3) (nI v) 8 &&& f_low (nI 8) = g_srow 3 (nI 3) (nI v) 8 := by decide +kernel
set_option maxRecDepth 100000 in
theorem trn_3 : ∀ i, i < 8 → f_turn (nI i) 3 = g_rv (nI i) 3 := by decide +kernel
set_option maxRecDepth 100000 in
theorem src_4_0 : ∀ v, v < 17 → f_src (nI 16) (nI 4) (nI 0) (nI v) = g_srow 4 (nI 0) (nI v) 16 ∧ g_srow 4 (nI 0) (nI v) 16 &&& f_low (nI 16) = g_srow 4 (nI 0) (nI v) 16 := by decide +kernel
set_option maxRecDepth 100000 in
theorem src_4_1 : ∀ v, v < 17 → f_src (nI 16) (nI 4) (nI 1) (nI v) = g_srow 4 (nI 1) (nI v) 16 ∧ g_srow 4 (nI 1) (nI v) 16 &&& f_low (nI 16) = g_srow 4 (nI 1) (nI v) 16 := by decide +kernel
set_option maxRecDepth 100000 in
theorem src_4_2 : ∀ v, v < 17 → f_src (nI 16) (nI 4) (nI 2) (nI v) = g_srow 4 (nI 2) (nI v) 16 ∧ g_srow 4 (nI 2) (nI v) 16 &&& f_low (nI 16) = g_srow 4 (nI 2) (nI v) 16 := by decide +kernel
set_option maxRecDepth 100000 in
theorem src_4_3 : ∀ v, v < 17 → f_src (nI 16) (nI 4) (nI 3) (nI v) = g_srow 4 (nI 3) (nI v) 16 ∧ g_srow 4 (nI 3) (nI v) 16 &&& f_low (nI 16) = g_srow 4 (nI 3) (nI v) 16 := by decide +kernel
set_option maxRecDepth 100000 in
theorem trn_4 : ∀ i, i < 16 → f_turn (nI i) 4 = g_rv (nI i) 4 := by decide +kernel
set_option maxRecDepth 100000 in
theorem src_5_0 : ∀ v, v < 33 → f_src (nI 32) (nI 5) (nI 0) (nI v) = g_srow 5 (nI 0) (nI v) 32 ∧ g_srow 5 (nI 0) (nI v) 32 &&& f_low (nI 32) = g_srow 5 (nI 0) (nI v) 32 := by decide +kernel
set_option maxRecDepth 100000 in
theorem src_5_1 : ∀ v, v < 33 → f_src (nI 32) (nI 5) (nI 1) (nI v) = g_srow 5 (nI 1) (nI v) 32 ∧ g_srow 5 (nI 1) (nI v) 32 &&& f_low (nI 32) = g_srow 5 (nI 1) (nI v) 32 := by decide +kernel
set_option maxRecDepth 100000 in
theorem src_5_2 : ∀ v, v < 33 → f_src (nI 32) (nI 5) (nI 2) (nI v) = g_srow 5 (nI 2) (nI v) 32 ∧ g_srow 5 (nI 2) (nI v) 32 &&& f_low (nI 32) = g_srow 5 (nI 2) (nI v) 32 := by decide +kernel
set_option maxRecDepth 100000 in
theorem src_5_3 : ∀ v, v < 33 → f_src (nI 32) (nI 5) (nI 3) (nI v) = g_srow 5 (nI 3) (nI v) 32 ∧ g_srow 5 (nI 3) (nI v) 32 &&& f_low (nI 32) = g_srow 5 (nI 3) (nI v) 32 := by decide +kernel
set_option maxRecDepth 100000 in
theorem trn_5 : ∀ i, i < 32 → f_turn (nI i) 5 = g_rv (nI i) 5 := by decide +kernel
set_option maxRecDepth 100000 in
theorem src_6_0 : ∀ v, v < 65 → f_src (nI 64) (nI 6) (nI 0) (nI v) = g_srow 6 (nI 0) (nI v) 64 ∧ g_srow 6 (nI 0) (nI v) 64 &&& f_low (nI 64) = g_srow 6 (nI 0) (nI v) 64 := by decide +kernel
set_option maxRecDepth 100000 in
theorem src_6_1 : ∀ v, v < 65 → f_src (nI 64) (nI 6) (nI 1) (nI v) = g_srow 6 (nI 1) (nI v) 64 ∧ g_srow 6 (nI 1) (nI v) 64 &&& f_low (nI 64) = g_srow 6 (nI 1) (nI v) 64 := by decide +kernel
set_option maxRecDepth 100000 in
theorem src_6_2 : ∀ v, v < 65 → f_src (nI 64) (nI 6) (nI 2) (nI v) = g_srow 6 (nI 2) (nI v) 64 ∧ g_srow 6 (nI 2) (nI v) 64 &&& f_low (nI 64) = g_srow 6 (nI 2) (nI v) 64 := by decide +kernel
set_option maxRecDepth 100000 in
theorem src_6_3 : ∀ v, v < 65 → f_src (nI 64) (nI 6) (nI 3) (nI v) = g_srow 6 (nI 3) (nI v) 64 ∧ g_srow 6 (nI 3) (nI v) 64 &&& f_low (nI 64) = g_srow 6 (nI 3) (nI v) 64 := by decide +kernel
set_option maxRecDepth 100000 in
theorem trn_6 : ∀ i, i < 64 → f_turn (nI i) 6 = g_rv (nI i) 6 := by decide +kernel
theorem src_eq {q : Nat} (h3 : 3 ≤ q) (h6 : q ≤ 6) {s v : Nat} (hs : s < 4) (hv : v ≤ 2 ^ q) : f_src (nI (2 ^ q)) (nI q) (nI s) (nI v) = g_srow q (nI s) (nI v) (2 ^ q) ∧ g_srow q (nI s) (nI v) (2 ^ q) &&& f_low (nI (2 ^ q)) = g_srow q (nI s) (nI v) (2 ^ q) := by
  rcases (show q = 3 ∨ q = 4 ∨ q = 5 ∨ q = 6 by omega) with rfl | rfl | rfl | rfl <;> rcases (show s = 0 ∨ s = 1 ∨ s = 2 ∨ s = 3 by omega) with rfl | rfl | rfl | rfl
  · exact src_3_0 v (by omega)
  · exact src_3_1 v (by omega)
  · exact src_3_2 v (by omega)
  · exact src_3_3 v (by omega)
  · exact src_4_0 v (by omega)
  · exact src_4_1 v (by omega)
  · exact src_4_2 v (by omega)
  · exact src_4_3 v (by omega)
  · exact src_5_0 v (by omega)
  · exact src_5_1 v (by omega)
  · exact src_5_2 v (by omega)
  · exact src_5_3 v (by omega)
  · exact src_6_0 v (by omega)
  · exact src_6_1 v (by omega)
  · exact src_6_2 v (by omega)
  · exact src_6_3 v (by omega)
theorem turn_eq {q : Nat} (h3 : 3 ≤ q) (h6 : q ≤ 6) {i : Nat} (hi : i < 2 ^ q) : f_turn (nI i) q = g_rv (nI i) q := by
  rcases (show q = 3 ∨ q = 4 ∨ q = 5 ∨ q = 6 by omega) with rfl | rfl | rfl | rfl
  · exact trn_3 i hi
  · exact trn_4 i hi
  · exact trn_5 i hi
  · exact trn_6 i hi
