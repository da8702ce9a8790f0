/-! the base: booleans, nest words, read-only calls, writers' calls, the two worlds -/
def bI (c : Prop) [Decidable c] : Int32 := if c then 1 else 0
theorem bI_t {c : Prop} [Decidable c] (h : c) : bI c = 1 := if_pos h
theorem bI_f {c : Prop} [Decidable c] (h : ¬ c) : bI c = 0 := if_neg h
theorem bI_eq {c : Prop} [Decidable c] : bI c = 0 ↔ ¬ c := by
  unfold bI; split
  · rename_i h; exact ⟨fun q => absurd q (by decide), fun q => absurd h q⟩
  · rename_i h; exact ⟨fun _ => h, fun _ => rfl⟩
theorem bI_ne {c : Prop} [Decidable c] : ¬ bI c = 0 ↔ c := by rw [bI_eq]; exact Decidable.not_not
theorem bI_eq1 {c : Prop} [Decidable c] : bI c = 1 ↔ c := by
  unfold bI; split
  · rename_i h; exact ⟨fun _ => h, fun _ => rfl⟩
  · rename_i h; exact ⟨fun q => absurd q (by decide), fun q => absurd q h⟩
theorem bI_congr {c d : Prop} [Decidable c] [Decidable d] (h : c ↔ d) : bI c = bI d := by
  unfold bI; by_cases q : c
  · rw [if_pos q, if_pos (h.mp q)]
  · rw [if_neg q, if_neg (fun z => q (h.mpr z))]
theorem bI_nar {c : Prop} [Decidable c] : narrow .boolean (.int (bI c)) = .int (bI c) := by
  unfold bI; split <;> rfl
/-- the nest mates' links -/
def nwL : List Cond := [.methodLinkNest "BitStreams" 9 ⟨"BitStreams$Rows", "<init>", "()V"⟩ "BitStreams", .fieldLinkNest "BitStreams" 49 "BitStreams$Rows" "length" "I" "BitStreams", .methodLinkNest "BitStreams" 18 ⟨"BitStreams$Form", "<init>", "()V"⟩ "BitStreams", .fieldLinkNest "BitStreams" 149 "BitStreams$Form" "numbers" "[I" "BitStreams", .fieldLinkNest "BitStreams" 146 "BitStreams$Form" "degree" "I" "BitStreams", .fieldLinkNest "BitStreams" 171 "BitStreams$Form" "scale" "I" "BitStreams", .methodLinkNest "BitStreams" 52 ⟨"BitStreams$Rows", "setLength", "(I)V"⟩ "BitStreams", .methodLinkNest "BitStreams" 66 ⟨"BitStreams$Rows", "ofSource", "(II)J"⟩ "BitStreams", .methodLinkNest "BitStreams$Rows" 27 ⟨"BitStreams", "lowBits", "(I)J"⟩ "BitStreams", .methodLinkNest "BitStreams" 97 ⟨"BitStreams$Rows", "shifted", "(JI)J"⟩ "BitStreams", .methodLinkNest "BitStreams" 142 ⟨"BitStreams$Form", "setDegree", "(II)V"⟩ "BitStreams", .methodLinkNest "BitStreams" 155 ⟨"BitStreams$Form", "partAbove", "(II)J"⟩ "BitStreams", .methodLinkNest "BitStreams" 158 ⟨"BitStreams$Form", "partBelow", "(I)J"⟩ "BitStreams", .methodLinkNest "BitStreams" 161 ⟨"BitStreams$Form", "mayBeMade", "(I)Z"⟩ "BitStreams", .methodLinkNest "BitStreams" 165 ⟨"BitStreams$Form", "thousandthsAt", "(II)I"⟩ "BitStreams", .methodLinkNest "BitStreams$Form" 36 ⟨"BitStreams", "power", "(JI)J"⟩ "BitStreams", .methodLinkNest "BitStreams" 185 ⟨"BitStreams$Rows", "round", "(I)I"⟩ "BitStreams", .methodLinkNest "BitStreams" 188 ⟨"BitStreams$Rows", "turned", "(I)I"⟩ "BitStreams"]
def nw (U : State) : Prop := ∀ w ∈ nwL, va_Nw w U
theorem nw_tab : ∀ w ∈ nwL, w.onTables = true := by decide +kernel
theorem nw.same {u U : State} (h : u.vm = U.vm) (k : nw u) : nw U := fun w hw => va_Nw.same (nw_tab w hw) h (k w hw)
def nw_isM : Cond → Bool
  | .methodLinkNest _ _ _ _ => true
  | .fieldLinkNest _ _ _ _ _ _ => true
  | _ => false
theorem nw_all : ∀ w ∈ nwL, nw_isM w = true := by decide +kernel
theorem nw_warm1 {s U : State} (hW : s.WarmedH U.vm) {w : Cond} (h : nw_isM w = true) (k : va_Nw w s) : va_Nw w U := by
  cases w <;> first | exact va_Nw.warmM hW k | exact va_Nw.warmF hW k | cases h
theorem nw.warm {s U : State} (hW : s.WarmedH U.vm) (k : nw s) : nw U := fun w hw => nw_warm1 hW (nw_all w hw) (k w hw)
theorem nw.at {U : State} (h : nw U) (i : Nat) {w : Cond} (hi : nwL[i]? = some w) : va_Nw w U := h w (List.mem_of_getElem? hi)
theorem nw.use {U : State} (h : nw U) (i : Nat) {w : Cond} (hi : nwL[i]? = some w) {A : Array Value} : w.before A U = true := va_Nw.use (nw_tab w (List.mem_of_getElem? hi)) (h.at i hi)
/-- what a read-only method's end says -/
def qL (r : Int64) : Array Value → State → Outcome → State → Prop := fun _ st o t => o = .returned (some (.long r)) ∧ t.heap = st.heap
theorem ri {v r : Int32} {a : Array Value} {s t : State} (h : v = r) (ht : t.heap = s.heap) : QcRead r a s (.returned (some (.int v))) t := ⟨by rw [h], ht⟩
theorem rl {v r : Int64} {a : Array Value} {s t : State} (h : v = r) (ht : t.heap = s.heap) : qL r a s (.returned (some (.long v))) t := ⟨by rw [h], ht⟩
theorem no_locs {F : Addr → Prop} : ∀ q ∈ ([] : List Loc), F q.base := fun _ h => by cases h
/-- what an object's method finds -/
def gB (D : va_G) (tys : List (ClassId × FieldType)) (ws : va_W) (U : State) : Prop := nw U ∧ va_K D vwCl tys U ∧ va_P D vwCl ws U.heap
def gW (sz : Nat) (D : va_G) (tys : List (ClassId × FieldType)) (ws : va_W) (U : State) : Prop := U.heap.size = sz ∧ gB D tys ws U ∧ va_D (fun _ => True) ws
theorem gB_call {D : va_G} {tys : List (ClassId × FieldType)} {ws : va_W} {U : State} {g : JFrame} {mk : MethodId} {a : Array Value} (h : gB D tys ws U) : gB D tys ws (U.calling g mk a) :=
  ⟨nw.same (u := U) rfl h.1, va_K.moved (u := U) (U := U.calling g mk a) (Vm.Alike.refl U.vm) h.2.1, h.2.2⟩
theorem gB_blind {D : va_G} {tys : List (ClassId × FieldType)} {ws : va_W} {As : List Value} : FrameBlind (va_Pc As (gB D tys ws)) := fun _ _ _ _ h => ⟨h.1, gB_call h.2⟩
theorem gW_blind {sz : Nat} {D : va_G} {tys : List (ClassId × FieldType)} {ws : va_W} {As : List Value} : FrameBlind (va_Pc As (gW sz D tys ws)) := fun _ _ _ _ h => ⟨h.1, h.2.1, gB_call h.2.2.1, h.2.2.2⟩
theorem preS0 {s : State} {H : Heap} {As : List Value} : PreS s H (va_Pc As (fun _ => True)) As := ⟨fun _ _ _ _ q => q, fun _ _ _ => ⟨rfl, trivial⟩⟩
theorem preV1 {s : State} {H : Heap} {D : va_G} {tys : List (ClassId × FieldType)} {ws : va_W} {b : Nat} {As : List Value} (hnw : nw s) (hK : va_K D vwCl tys s) (hP : va_P D vwCl ws H) (q0 ci : Nat) {q : vw_C} {fs : List Value} (hc : vwCl[ci]? = some q) (he : ws[q0]? = some (b, .inr (ci, fs))) : PreV s H q.1 b (va_Pc (.ref b :: As) (gB D tys ws)) As :=
  ⟨gB_blind, va_recv hK hP hc he, fun U hU hW => ⟨rfl, nw.warm hW hnw, va_K.moved hW.alike hK, by rw [hU]; exact hP⟩⟩
theorem preV2 {s : State} {H : Heap} {D : va_G} {A : Nat → Prop} {tys : List (ClassId × FieldType)} {ws : va_W} {b : Nat} {As : List Value} (hnw : nw s) (hK : va_K D vwCl tys s) (hP : va_P D vwCl ws H) (hD : va_D A ws) (q0 ci : Nat) {q : vw_C} {fs : List Value} (hc : vwCl[ci]? = some q) (he : ws[q0]? = some (b, .inr (ci, fs))) : PreV s H q.1 b (va_Pc (.ref b :: As) (gW H.size D tys ws)) As :=
  ⟨gW_blind, va_recv hK hP hc he, fun U hU hW => ⟨rfl, by rw [hU], ⟨nw.warm hW hnw, va_K.moved hW.alike hK, by rw [hU]; exact hP⟩, hD.weaken (fun _ _ _ _ => trivial)⟩⟩
theorem va_free_all {A0 : Nat → Prop} {ws : va_W} {H0 H : Heap} {locs : List Loc} (hD : va_D A0 ws) (hS : va_S A0 H0 H locs) (hA : ∀ q, H0.size ≤ q → A0 q) : ∀ q, va_A ws H.size q → A0 q := by
  intro q h
  rcases h with ⟨k, e, h⟩ | h
  · exact hD.2 k (q, e) h
  · exact hA q (Nat.le_trans hS.1 h)
theorem va_D_addr {A : Nat → Prop} {ws ws' : va_W} (hD : va_D A ws) (h : ws'.map Prod.fst = ws.map Prod.fst) : va_D A ws' := by
  have at' : ∀ (k : Nat) (q : Nat × va_E), ws'[k]? = some q → ∃ q2 : Nat × va_E, ws[k]? = some q2 ∧ q2.1 = q.1 := by
    intro k q hq
    have h1 : (ws'.map Prod.fst)[k]? = some q.1 := by rw [List.getElem?_map, hq]; rfl
    rw [h, List.getElem?_map] at h1
    cases hk : ws[k]? with
    | none => rw [hk] at h1; cases h1
    | some q2 => rw [hk] at h1; exact ⟨q2, rfl, Option.some.inj h1⟩
  refine ⟨fun i j p q hp hq e => ?_, fun k q hq => ?_⟩
  · obtain ⟨p2, h1, e1⟩ := at' i p hp
    obtain ⟨q2, h2, e2⟩ := at' j q hq
    exact hD.1 i j p2 q2 h1 h2 (by rw [e1, e2]; exact e)
  · obtain ⟨q2, h2, e2⟩ := at' k q hq
    rw [← e2]
    exact hD.2 k q2 h2
section ROW
variable {p : Program} {l : Launch} {e : Env} {R : Room} {s : State} {m : MethodId} {args : Array Value} {below : List Frame} {meth : Method} {c : Code} {H : Heap} {locs : List Loc} {cells slots : Nat} {Q : State → Prop}
variable {pc : Nat} {ls : Array Slot} {rest st0 : List Value} {a : Array Value} {A0 : Nat → Prop} {H0 : Heap} {mc ms : Nat}
theorem ro_i {r : Int32} (hr : va_Run p l e R s m args below meth c H locs cells slots 0 0 (F0 m pc ls st0) rest (QcRead r a) (fun _ => False)) (kk : W p l e R s m args below meth c H locs cells slots Q (F0 m (pc + 3) ls (.int r :: rest))) : W p l e R s m args below meth c H locs cells slots Q (F0 m pc ls st0) := by
  intro T hT X
  obtain ⟨v, st₀, t, T', L, h0, X', hL, e1, e2, ⟨hv, hh⟩, st⟩ := hr T hT X
  cases hv
  obtain ⟨t2, a1, b1⟩ := kk T' (by rw [e1, hh, h0]) (Stand.forget X' (fun q h => (hL q h).elim))
  exact ⟨t2, st t2 a1, b1⟩
theorem ro_l {r : Int64} (hr : va_Run p l e R s m args below meth c H locs cells slots 0 0 (F0 m pc ls st0) rest (qL r a) (fun _ => False)) (kk : W p l e R s m args below meth c H locs cells slots Q (F0 m (pc + 3) ls (.long r :: rest))) : W p l e R s m args below meth c H locs cells slots Q (F0 m pc ls st0) := by
  intro T hT X
  obtain ⟨v, st₀, t, T', L, h0, X', hL, e1, e2, ⟨hv, hh⟩, st⟩ := hr T hT X
  cases hv
  obtain ⟨t2, a1, b1⟩ := kk T' (by rw [e1, hh, h0]) (Stand.forget X' (fun q h => (hL q h).elim))
  exact ⟨t2, st t2 a1, b1⟩
theorem wr_i {S : Type} {post : Int32 → S → Prop} {wf : S → va_W} {D : va_G} {ws : va_W} (hr : va_Run p l e R s m args below meth c H locs cells slots mc ms (F0 m pc ls st0) rest (va_Qi post (fun u t => va_P D vwCl (wf u) t.heap) (va_A ws H.size) a) (va_A ws H.size)) (hD : va_D A0 ws) (hS : va_S A0 H0 H locs) (hA : ∀ q, H0.size ≤ q → A0 q) (hw : ∀ u, (wf u).map Prod.fst = ws.map Prod.fst)
    (kk : ∀ (r : Int32) (u : S) (H1 : Heap) (locs1 : List Loc), post r u → va_P D vwCl (wf u) H1 → va_D A0 (wf u) → va_S A0 H0 H1 locs1 → W p l e R s m args below meth c H1 locs1 (cells + mc) (slots + ms) Q (F0 m (pc + 3) ls (.int r :: rest))) : W p l e R s m args below meth c H locs cells slots Q (F0 m pc ls st0) :=
  va_calli hr hS (fun q _ h => va_free_all hD hS hA q h) (va_free_all hD hS hA) (fun r u t H1 locs1 ht _ hp hB _ _ hS1 => kk r u H1 locs1 hp (by rw [← ht]; exact hB) (va_D_addr hD (hw u)) hS1)
theorem wr_l {S : Type} {post : Int64 → S → Prop} {wf : S → va_W} {D : va_G} {ws : va_W} (hr : va_Run p l e R s m args below meth c H locs cells slots mc ms (F0 m pc ls st0) rest (va_Ql post (fun u t => va_P D vwCl (wf u) t.heap) (va_A ws H.size) a) (va_A ws H.size)) (hD : va_D A0 ws) (hS : va_S A0 H0 H locs) (hA : ∀ q, H0.size ≤ q → A0 q) (hw : ∀ u, (wf u).map Prod.fst = ws.map Prod.fst)
    (kk : ∀ (r : Int64) (u : S) (H1 : Heap) (locs1 : List Loc), post r u → va_P D vwCl (wf u) H1 → va_D A0 (wf u) → va_S A0 H0 H1 locs1 → W p l e R s m args below meth c H1 locs1 (cells + mc) (slots + ms) Q (F0 m (pc + 3) ls (.long r :: rest))) : W p l e R s m args below meth c H locs cells slots Q (F0 m pc ls st0) :=
  va_calll hr hS (fun q _ h => va_free_all hD hS hA q h) (va_free_all hD hS hA) (fun r u t H1 locs1 ht _ hp hB _ _ hS1 => kk r u H1 locs1 hp (by rw [← ht]; exact hB) (va_D_addr hD (hw u)) hS1)
theorem wr_v {S : Type} {post : S → Prop} {wf : S → va_W} {D : va_G} {ws : va_W} (hr : va_Run p l e R s m args below meth c H locs cells slots mc ms (F0 m pc ls st0) rest (va_Qv post (fun u t => va_P D vwCl (wf u) t.heap) (va_A ws H.size) a) (va_A ws H.size)) (hD : va_D A0 ws) (hS : va_S A0 H0 H locs) (hA : ∀ q, H0.size ≤ q → A0 q) (hw : ∀ u, (wf u).map Prod.fst = ws.map Prod.fst)
    (kk : ∀ (u : S) (H1 : Heap) (locs1 : List Loc), post u → va_P D vwCl (wf u) H1 → va_D A0 (wf u) → va_S A0 H0 H1 locs1 → W p l e R s m args below meth c H1 locs1 (cells + mc) (slots + ms) Q (F0 m (pc + 3) ls rest)) : W p l e R s m args below meth c H locs cells slots Q (F0 m pc ls st0) :=
  va_callv hr hS (fun q _ h => va_free_all hD hS hA q h) (va_free_all hD hS hA) (fun u t H1 locs1 ht _ hp hB _ _ hS1 => kk u H1 locs1 hp (by rw [← ht]; exact hB) (va_D_addr hD (hw u)) hS1)
/-- the number on the stack's top, by another name -/
theorem st_i {x v : Int32} (h : x = v) (k : W p l e R s m args below meth c H locs cells slots Q (F0 m pc ls (.int v :: rest))) : W p l e R s m args below meth c H locs cells slots Q (F0 m pc ls (.int x :: rest)) := by rw [h]; exact k
theorem st_l {x v : Int64} (h : x = v) (k : W p l e R s m args below meth c H locs cells slots Q (F0 m pc ls (.long v :: rest))) : W p l e R s m args below meth c H locs cells slots Q (F0 m pc ls (.long x :: rest)) := by rw [h]; exact k
theorem st_i2 {y : Value} {x v : Int32} (h : x = v) (k : W p l e R s m args below meth c H locs cells slots Q (F0 m pc ls (y :: .int v :: rest))) : W p l e R s m args below meth c H locs cells slots Q (F0 m pc ls (y :: .int x :: rest)) := by rw [h]; exact k
end ROW
/-- the class's world: the object 0, its Rows 1, its Form 2, streams 3, firstRows 4, secondRows 5, parts 6, the Form's numbers 7 -/
abbrev xw (ad : Nat → Nat) (cI cJ : ClassId) (ln fg dg sc ms mi mv mw : Int32) (st fr sr pa : Nat → Int64) (nu : Nat → Int32) : va_W :=
  [(ad 0, .inr (2, [.ref (ad 1), .ref (ad 2), .ref (ad 3), .ref (ad 4), .ref (ad 5), .ref (ad 6), .int ms, .int mi, .int mv, .int mw])), (ad 1, .inr (1, [.int ln, .int fg])), (ad 2, .inr (0, [.ref (ad 7), .int dg, .int sc])), (ad 3, .inl (cJ, 12, .inr (.inl st))), (ad 4, .inl (cJ, 65, .inr (.inl fr))), (ad 5, .inl (cJ, 65, .inr (.inl sr))), (ad 6, .inl (cJ, 11, .inr (.inl pa))), (ad 7, .inl (cI, 5, .inl nu))]
/-- the reference's world: the object 0, rows 1, firsts 2, others 3, terms 4 -/
abbrev yw (ad : Nat → Nat) (cI cJ : ClassId) (ln dg sc ms mi mv mw : Int32) (pu pl : Int64) (st fr sr : Nat → Int64) (nu : Nat → Int32) : va_W :=
  [(ad 0, .inr (3, [.int ln, .ref (ad 1), .int mi, .int mv, .int mw, .ref (ad 2), .ref (ad 3), .int ms, .int dg, .int sc, .ref (ad 4), .long pu, .long pl])), (ad 1, .inl (cJ, 12, .inr (.inl st))), (ad 2, .inl (cJ, 65, .inr (.inl fr))), (ad 3, .inl (cJ, 65, .inr (.inl sr))), (ad 4, .inl (cI, 5, .inl nu))]
abbrev tyw (cI cJ : ClassId) : List (ClassId × FieldType) := [(cI, .int), (cJ, .long)]
/-- a JDK method's contract: its class has slashes in its name, but no row of the natives is its own -/
theorem met_ofW {l : Launch} {y : MethodName} {ws ws' : List Cond} {rm : Room} {Pc : Array Value → State → Prop} {Qc : Array Value → State → Outcome → State → Prop} {mc ms : Nat} {free : Addr → Prop} {cc : ByteArray} {maxL : Nat} {ret : Option FieldType}
    (hy : plainFor y = true) (hw : ws = Cond.code y cc maxL ret :: ws')
    (body : ∀ p e s m args below meth c s₁, BodyLoose p l y (headSpec ws rm) cc maxL ret e s m args below meth c s₁ → c.maxLocals = maxL → Pc args s →
      W p l e (headSpec ws rm).room s m args below meth c s.heap [] 0 0 (MQ below Qc args s mc ms free) (entryFrame m args maxL)) : Met l y ws rm Pc Qc mc ms free := by
  refine MetFree.of_bodySF (code := cc) (maxLocals := maxL) (ret := ret) hy ?_ ?_
  · intro args s m h hn
    obtain ⟨meth, c, h1, h2, h3, h4, h5, h6, -, -⟩ := Cond.code_spec hn (atoms_spec (ws := ws) h _ (by rw [hw]; exact List.mem_cons_self))
    exact ⟨meth, c, h1, h2, h3, h4, h5, h6⟩
  · intro p e s m args below meth c s₁ B hml hP _
    have hh0 : s₁.heap = s.heap := by rw [B.state]; rfl
    obtain ⟨t, a1, o, b1, b2, b3⟩ := body p e s m args below meth c s₁ B hml hP s₁ hh0 (Stand.of_body B)
    exact ⟨t, o, a1, b1, b2, ⟨b3.1, b3.2⟩⟩
theorem wpost {D : va_G} {cl : List vw_C} {ws : va_W} {H : Heap} {t : State} (ht : t.heap = H) (hP : va_P D cl ws H) : va_P D cl ws t.heap := by rw [ht]; exact hP
