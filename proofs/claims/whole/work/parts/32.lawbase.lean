/-! the law: two worlds side by side -/
theorem keepP {D : va_G} {cl : List vw_C} {ws wc : va_W} {A : Nat → Prop} {H H1 : Heap} (hP : va_P D cl ws H) (hap : ∀ (i j : Nat) (x y : Nat × va_E), ws[i]? = some x → wc[j]? = some y → x.1 ≠ y.1) (hk : ∀ q : Nat, q < H.size → ¬ va_A wc H.size q → H1[q]? = H[q]?) : va_P D cl ws H1 := by
  intro k x hx
  have hl := (hP k x hx).lt
  refine (hP k x hx).kept (hk x.1 hl (fun z => ?_))
  rcases z with ⟨j, e, h⟩ | h
  · exact hap k j x (x.1, e) hx h rfl
  · omega
theorem apartL {A : Nat → Prop} {wx wy : va_W} (hD : va_D A (wx ++ wy)) : ∀ (i j : Nat) (x y : Nat × va_E), wx[i]? = some x → wy[j]? = some y → x.1 ≠ y.1 := by
  intro i j x y hx hy e
  have hi : i < wx.length := (List.getElem?_eq_some_iff.mp hx).1
  have h := hD.1 i (wx.length + j) x y (by rw [List.getElem?_append_left hi]; exact hx) (by rw [List.getElem?_append_right (by omega), Nat.add_sub_cancel_left]; exact hy) e
  omega
theorem va_P_l {D : va_G} {cl : List vw_C} {wx wy : va_W} {H : Heap} (h : va_P D cl (wx ++ wy) H) : va_P D cl wx H := fun k x hx => h k x (by rw [List.getElem?_append_left (List.getElem?_eq_some_iff.mp hx).1]; exact hx)
theorem va_P_r {D : va_G} {cl : List vw_C} {wx wy : va_W} {H : Heap} (h : va_P D cl (wx ++ wy) H) : va_P D cl wy H := fun k x hx => h (wx.length + k) x (by rw [List.getElem?_append_right (by omega), Nat.add_sub_cancel_left]; exact hx)
theorem va_D_l {A : Nat → Prop} {wx wy : va_W} (h : va_D A (wx ++ wy)) : va_D A wx := ⟨fun i j x y hx hy e => h.1 i j x y (by rw [List.getElem?_append_left (List.getElem?_eq_some_iff.mp hx).1]; exact hx) (by rw [List.getElem?_append_left (List.getElem?_eq_some_iff.mp hy).1]; exact hy) e, fun k x hx => h.2 k x (by rw [List.getElem?_append_left (List.getElem?_eq_some_iff.mp hx).1]; exact hx)⟩
theorem va_D_r {A : Nat → Prop} {wx wy : va_W} (h : va_D A (wx ++ wy)) : va_D A wy := ⟨fun i j x y hx hy e => by
    have := h.1 (wx.length + i) (wx.length + j) x y (by rw [List.getElem?_append_right (by omega), Nat.add_sub_cancel_left]; exact hx) (by rw [List.getElem?_append_right (by omega), Nat.add_sub_cancel_left]; exact hy) e
    omega, fun k x hx => h.2 (wx.length + k) x (by rw [List.getElem?_append_right (by omega), Nat.add_sub_cancel_left]; exact hx)⟩
section LWR
variable {p : Program} {l : Launch} {e : Env} {R : Room} {s : State} {m : MethodId} {args : Array Value} {below : List Frame} {meth : Method} {c : Code} {H : Heap} {locs : List Loc} {cells slots : Nat} {Q : State → Prop}
variable {pc : Nat} {ls : Array Slot} {rest st0 : List Value} {a : Array Value} {A0 : Nat → Prop} {H0 : Heap}
theorem wx_i {S : Type} {post : Int32 → S → Prop} {wf : S → va_W} {D : va_G} {wx wy : va_W} (hr : va_Run p l e R s m args below meth c H locs cells slots 0 0 (F0 m pc ls st0) rest (va_Qi post (fun u t => va_P D vwCl (wf u) t.heap) (va_A wx H.size) a) (va_A wx H.size)) (hP : va_P D vwCl (wx ++ wy) H) (hD : va_D A0 (wx ++ wy)) (hS : va_S A0 H0 H locs) (hA : ∀ q, H0.size ≤ q → A0 q)
    (kk : ∀ (r : Int32) (u : S) (H1 : Heap) (locs1 : List Loc), post r u → va_P D vwCl (wf u ++ wy) H1 → va_S A0 H0 H1 locs1 → W p l e R s m args below meth c H1 locs1 cells slots Q (F0 m (pc + 3) ls (.int r :: rest))) : W p l e R s m args below meth c H locs cells slots Q (F0 m pc ls st0) :=
  va_calli hr hS (fun q _ h => va_free_all (va_D_l hD) hS hA q h) (va_free_all (va_D_l hD) hS hA) (fun r u t H1 locs1 ht _ hp hB _ hk hS1 => kk r u H1 locs1 hp (va_P.app (by rw [← ht]; exact hB) (keepP (A := A0) (va_P_r hP) (fun i j x y hx hy e => apartL hD j i y x hy hx e.symm) hk)) hS1)
theorem wy_i {S : Type} {post : Int32 → S → Prop} {wf : S → va_W} {D : va_G} {wx wy : va_W} (hr : va_Run p l e R s m args below meth c H locs cells slots 0 0 (F0 m pc ls st0) rest (va_Qi post (fun u t => va_P D vwCl (wf u) t.heap) (va_A wy H.size) a) (va_A wy H.size)) (hP : va_P D vwCl (wx ++ wy) H) (hD : va_D A0 (wx ++ wy)) (hS : va_S A0 H0 H locs) (hA : ∀ q, H0.size ≤ q → A0 q)
    (kk : ∀ (r : Int32) (u : S) (H1 : Heap) (locs1 : List Loc), post r u → va_P D vwCl (wx ++ wf u) H1 → va_S A0 H0 H1 locs1 → W p l e R s m args below meth c H1 locs1 cells slots Q (F0 m (pc + 3) ls (.int r :: rest))) : W p l e R s m args below meth c H locs cells slots Q (F0 m pc ls st0) :=
  va_calli hr hS (fun q _ h => va_free_all (va_D_r hD) hS hA q h) (va_free_all (va_D_r hD) hS hA) (fun r u t H1 locs1 ht _ hp hB _ hk hS1 => kk r u H1 locs1 hp (va_P.app (keepP (A := A0) (va_P_l hP) (apartL hD) hk) (by rw [← ht]; exact hB)) hS1)
theorem wy_l {S : Type} {post : Int64 → S → Prop} {wf : S → va_W} {D : va_G} {wx wy : va_W} (hr : va_Run p l e R s m args below meth c H locs cells slots 0 0 (F0 m pc ls st0) rest (va_Ql post (fun u t => va_P D vwCl (wf u) t.heap) (va_A wy H.size) a) (va_A wy H.size)) (hP : va_P D vwCl (wx ++ wy) H) (hD : va_D A0 (wx ++ wy)) (hS : va_S A0 H0 H locs) (hA : ∀ q, H0.size ≤ q → A0 q)
    (kk : ∀ (r : Int64) (u : S) (H1 : Heap) (locs1 : List Loc), post r u → va_P D vwCl (wx ++ wf u) H1 → va_S A0 H0 H1 locs1 → W p l e R s m args below meth c H1 locs1 cells slots Q (F0 m (pc + 3) ls (.long r :: rest))) : W p l e R s m args below meth c H locs cells slots Q (F0 m pc ls st0) :=
  va_calll hr hS (fun q _ h => va_free_all (va_D_r hD) hS hA q h) (va_free_all (va_D_r hD) hS hA) (fun r u t H1 locs1 ht _ hp hB _ hk hS1 => kk r u H1 locs1 hp (va_P.app (keepP (A := A0) (va_P_l hP) (apartL hD) hk) (by rw [← ht]; exact hB)) hS1)
end LWR
/-- what is true between the calls -/
def LInv (q d sN cN : Nat) (st : Nat → Int64) (nu : Nat → Int32) : Prop := 3 ≤ q ∧ q ≤ 6 ∧ d ≤ 4 ∧ 1 ≤ sN ∧ sN ≤ 1000 ∧ cN ≤ 60 ∧ stOK (2 ^ q) st ∧ nuOK nu
/-- the class's world beside the reference's, in the same state -/
abbrev zw (ax ay : Nat → Nat) (cI cJ cK cL : ClassId) (q d sN cN : Nat) (ms mv mw : Int32) (st fr sr pa : Nat → Int64) (nu : Nat → Int32) (pu pl : Int64) (fi ot : Nat → Int64) : va_W :=
  xw ax cI cJ (nI (2 ^ q)) (nI q) (nI d) (nI sN) ms (nI cN) mv mw st fr sr pa nu ++ yw ay cK cL (nI (2 ^ q)) (nI d) (nI sN) ms (nI cN) mv mw pu pl st fi ot nu
/-- the law's frame at pc, with iq ints of the script read, goes to the law's end -/
def LK (p : Program) (l : Launch) (e : Env) (s : State) (m : MethodId) (below : List Frame) (meth : Method) (c : Code) (D : va_G) (b : Nat) (ax ay : Nat → Nat) (cI cJ cK cL : ClassId) (iq pc : Nat) : Prop :=
  ∀ (q d sN cN : Nat) (ms mv mw : Int32) (st fr sr pa : Nat → Int64) (nu : Nat → Int32) (pu pl : Int64) (fi ot : Nat → Int64), LInv q d sN cN st nu → ∀ (H : Heap) (locs : List Loc), va_P D vwCl (zw ax ay cI cJ cK cL q d sN cN ms mv mw st fr sr pa nu pu pl fi ot) H → va_S (fun q : Nat => s.heap.size ≤ q) s.heap H locs → ∀ (ls : Array Slot), lv_has ls 4 [(0, .ref b), (1, .ref (ax 0)), (2, .ref (ay 0)), (3, .int (nI iq))] → W p l e room_1 s m #[Value.ref b] below meth c H locs 13 333 (lw_Z below #[Value.ref b] s) (F0 m pc ls [])
theorem scr_in {iq k L : Nat} (hi : iq + 6 ≤ L) (hk : k < 6) (hL : L ≤ 3072) : vp_in (nI iq + nI k) L := by rw [nI_add]; exact vp_in_nI (by omega) (by omega)
theorem scr_at {iq k L : Nat} (hi : iq + 6 ≤ L) (hk : k < 6) (hL : L ≤ 3072) (xs : Nat → Int32) : xs (nI iq + nI k).toNatClampNeg = xs (iq + k) := by rw [nI_add, nI_cl (by omega)]
