section
-- ===== PART A: goes FIRST, ahead of the names: the tables' words, and 'selects' of the private methods out of them =====
/-- a private method of a class that the tables say can be made, by its rows of tables_1 -/
def lw_okq (q : MethodName × Nat) : Prop := (q.1.cls ≠ "java/lang/invoke/MethodHandle" ∧ q.1.cls ≠ "java/lang/invoke/VarHandle") ∧ Cond.instantiable q.1.cls q.2 ∈ tables_1 ∧ Cond.privateMethod q.1 ∈ tables_1 ∧ Cond.instanceMethod q.1 ∈ tables_1
theorem lw_p0 : lw_okq (⟨"BitStreams$Rows", "setLength", "(I)V"⟩, 2) := ⟨⟨by decide +kernel, by decide +kernel⟩, List.mem_of_getElem? (i := 17) (by decide +kernel), List.mem_of_getElem? (i := 93) (by decide +kernel), List.mem_of_getElem? (i := 94) (by decide +kernel)⟩
theorem lw_p1 : lw_okq (⟨"BitStreams", "isValue", "(I)Z"⟩, 10) := ⟨⟨by decide +kernel, by decide +kernel⟩, List.mem_of_getElem? (i := 9) (by decide +kernel), List.mem_of_getElem? (i := 110) (by decide +kernel), List.mem_of_getElem? (i := 111) (by decide +kernel)⟩
theorem lw_p2 : lw_okq (⟨"BitStreams$Rows", "ofSource", "(II)J"⟩, 2) := ⟨⟨by decide +kernel, by decide +kernel⟩, List.mem_of_getElem? (i := 17) (by decide +kernel), List.mem_of_getElem? (i := 114) (by decide +kernel), List.mem_of_getElem? (i := 115) (by decide +kernel)⟩
theorem lw_p3 : lw_okq (⟨"BitStreams$Rows", "turnedRow", "(I)J"⟩, 2) := ⟨⟨by decide +kernel, by decide +kernel⟩, List.mem_of_getElem? (i := 17) (by decide +kernel), List.mem_of_getElem? (i := 122) (by decide +kernel), List.mem_of_getElem? (i := 123) (by decide +kernel)⟩
theorem lw_p4 : lw_okq (⟨"BitStreams$Rows", "turned", "(I)I"⟩, 2) := ⟨⟨by decide +kernel, by decide +kernel⟩, List.mem_of_getElem? (i := 17) (by decide +kernel), List.mem_of_getElem? (i := 126) (by decide +kernel), List.mem_of_getElem? (i := 127) (by decide +kernel)⟩
theorem lw_p5 : lw_okq (⟨"BitStreams$Rows", "spreadRow", "(I)J"⟩, 2) := ⟨⟨by decide +kernel, by decide +kernel⟩, List.mem_of_getElem? (i := 17) (by decide +kernel), List.mem_of_getElem? (i := 130) (by decide +kernel), List.mem_of_getElem? (i := 131) (by decide +kernel)⟩
theorem lw_p6 : lw_okq (⟨"BitStreams$Rows", "registerRow", "(I)J"⟩, 2) := ⟨⟨by decide +kernel, by decide +kernel⟩, List.mem_of_getElem? (i := 17) (by decide +kernel), List.mem_of_getElem? (i := 134) (by decide +kernel), List.mem_of_getElem? (i := 135) (by decide +kernel)⟩
theorem lw_p7 : lw_okq (⟨"BitStreams$Rows", "tapsOfLength", "()I"⟩, 2) := ⟨⟨by decide +kernel, by decide +kernel⟩, List.mem_of_getElem? (i := 17) (by decide +kernel), List.mem_of_getElem? (i := 138) (by decide +kernel), List.mem_of_getElem? (i := 139) (by decide +kernel)⟩
theorem lw_p8 : lw_okq (⟨"BitStreams", "setStream", "(IJ)I"⟩, 10) := ⟨⟨by decide +kernel, by decide +kernel⟩, List.mem_of_getElem? (i := 9) (by decide +kernel), List.mem_of_getElem? (i := 142) (by decide +kernel), List.mem_of_getElem? (i := 143) (by decide +kernel)⟩
theorem lw_p9 : lw_okq (⟨"BitStreams", "isBit", "(I)Z"⟩, 10) := ⟨⟨by decide +kernel, by decide +kernel⟩, List.mem_of_getElem? (i := 9) (by decide +kernel), List.mem_of_getElem? (i := 157) (by decide +kernel), List.mem_of_getElem? (i := 158) (by decide +kernel)⟩
theorem lw_p10 : lw_okq (⟨"BitStreams$Rows", "shifted", "(JI)J"⟩, 2) := ⟨⟨by decide +kernel, by decide +kernel⟩, List.mem_of_getElem? (i := 17) (by decide +kernel), List.mem_of_getElem? (i := 187) (by decide +kernel), List.mem_of_getElem? (i := 188) (by decide +kernel)⟩
theorem lw_p11 : lw_okq (⟨"BitStreams$Rows", "round", "(I)I"⟩, 2) := ⟨⟨by decide +kernel, by decide +kernel⟩, List.mem_of_getElem? (i := 17) (by decide +kernel), List.mem_of_getElem? (i := 191) (by decide +kernel), List.mem_of_getElem? (i := 192) (by decide +kernel)⟩
theorem lw_p12 : lw_okq (⟨"BitStreams", "onesOfSort", "(JJI)I"⟩, 10) := ⟨⟨by decide +kernel, by decide +kernel⟩, List.mem_of_getElem? (i := 9) (by decide +kernel), List.mem_of_getElem? (i := 203) (by decide +kernel), List.mem_of_getElem? (i := 204) (by decide +kernel)⟩
theorem lw_p13 : lw_okq (⟨"BitStreams", "greatestMiss", "(I)I"⟩, 10) := ⟨⟨by decide +kernel, by decide +kernel⟩, List.mem_of_getElem? (i := 9) (by decide +kernel), List.mem_of_getElem? (i := 222) (by decide +kernel), List.mem_of_getElem? (i := 223) (by decide +kernel)⟩
theorem lw_p14 : lw_okq (⟨"BitStreams", "dueOnes", "(III)I"⟩, 10) := ⟨⟨by decide +kernel, by decide +kernel⟩, List.mem_of_getElem? (i := 9) (by decide +kernel), List.mem_of_getElem? (i := 226) (by decide +kernel), List.mem_of_getElem? (i := 227) (by decide +kernel)⟩
theorem lw_p15 : lw_okq (⟨"BitStreams", "ranThrough", "(JI)J"⟩, 10) := ⟨⟨by decide +kernel, by decide +kernel⟩, List.mem_of_getElem? (i := 9) (by decide +kernel), List.mem_of_getElem? (i := 244) (by decide +kernel), List.mem_of_getElem? (i := 245) (by decide +kernel)⟩
def lw_privs_1 : List (MethodName × Nat) := [(⟨"BitStreams$Rows", "setLength", "(I)V"⟩, 2), (⟨"BitStreams", "isValue", "(I)Z"⟩, 10), (⟨"BitStreams$Rows", "ofSource", "(II)J"⟩, 2), (⟨"BitStreams$Rows", "turnedRow", "(I)J"⟩, 2), (⟨"BitStreams$Rows", "turned", "(I)I"⟩, 2), (⟨"BitStreams$Rows", "spreadRow", "(I)J"⟩, 2), (⟨"BitStreams$Rows", "registerRow", "(I)J"⟩, 2), (⟨"BitStreams$Rows", "tapsOfLength", "()I"⟩, 2), (⟨"BitStreams", "setStream", "(IJ)I"⟩, 10), (⟨"BitStreams", "isBit", "(I)Z"⟩, 10), (⟨"BitStreams$Rows", "shifted", "(JI)J"⟩, 2), (⟨"BitStreams$Rows", "round", "(I)I"⟩, 2), (⟨"BitStreams", "onesOfSort", "(JJI)I"⟩, 10), (⟨"BitStreams", "greatestMiss", "(I)I"⟩, 10), (⟨"BitStreams", "dueOnes", "(III)I"⟩, 10), (⟨"BitStreams", "ranThrough", "(JI)J"⟩, 10)]
theorem lw_r1 : ∀ q ∈ lw_privs_1, lw_okq q := List.forall_mem_cons.mpr ⟨lw_p0, List.forall_mem_cons.mpr ⟨lw_p1, List.forall_mem_cons.mpr ⟨lw_p2, List.forall_mem_cons.mpr ⟨lw_p3, List.forall_mem_cons.mpr ⟨lw_p4, List.forall_mem_cons.mpr ⟨lw_p5, List.forall_mem_cons.mpr ⟨lw_p6, List.forall_mem_cons.mpr ⟨lw_p7, List.forall_mem_cons.mpr ⟨lw_p8, List.forall_mem_cons.mpr ⟨lw_p9, List.forall_mem_cons.mpr ⟨lw_p10, List.forall_mem_cons.mpr ⟨lw_p11, List.forall_mem_cons.mpr ⟨lw_p12, List.forall_mem_cons.mpr ⟨lw_p13, List.forall_mem_cons.mpr ⟨lw_p14, List.forall_mem_cons.mpr ⟨lw_p15, fun _ h => absurd h List.not_mem_nil⟩⟩⟩⟩⟩⟩⟩⟩⟩⟩⟩⟩⟩⟩⟩⟩
theorem lw_p16 : lw_okq (⟨"BitStreams$Form", "setDegree", "(II)V"⟩, 3) := ⟨⟨by decide +kernel, by decide +kernel⟩, List.mem_of_getElem? (i := 37) (by decide +kernel), List.mem_of_getElem? (i := 279) (by decide +kernel), List.mem_of_getElem? (i := 280) (by decide +kernel)⟩
theorem lw_p17 : lw_okq (⟨"BitStreams$Form", "partAbove", "(II)J"⟩, 3) := ⟨⟨by decide +kernel, by decide +kernel⟩, List.mem_of_getElem? (i := 37) (by decide +kernel), List.mem_of_getElem? (i := 292) (by decide +kernel), List.mem_of_getElem? (i := 293) (by decide +kernel)⟩
theorem lw_p18 : lw_okq (⟨"BitStreams$Form", "waysBut", "(II)J"⟩, 3) := ⟨⟨by decide +kernel, by decide +kernel⟩, List.mem_of_getElem? (i := 37) (by decide +kernel), List.mem_of_getElem? (i := 299) (by decide +kernel), List.mem_of_getElem? (i := 300) (by decide +kernel)⟩
theorem lw_p19 : lw_okq (⟨"BitStreams$Form", "partBelow", "(I)J"⟩, 3) := ⟨⟨by decide +kernel, by decide +kernel⟩, List.mem_of_getElem? (i := 37) (by decide +kernel), List.mem_of_getElem? (i := 303) (by decide +kernel), List.mem_of_getElem? (i := 304) (by decide +kernel)⟩
theorem lw_p20 : lw_okq (⟨"BitStreams$Form", "mayBeMade", "(I)Z"⟩, 3) := ⟨⟨by decide +kernel, by decide +kernel⟩, List.mem_of_getElem? (i := 37) (by decide +kernel), List.mem_of_getElem? (i := 311) (by decide +kernel), List.mem_of_getElem? (i := 312) (by decide +kernel)⟩
theorem lw_p21 : lw_okq (⟨"BitStreams$Form", "thousandthsAt", "(II)I"⟩, 3) := ⟨⟨by decide +kernel, by decide +kernel⟩, List.mem_of_getElem? (i := 37) (by decide +kernel), List.mem_of_getElem? (i := 322) (by decide +kernel), List.mem_of_getElem? (i := 323) (by decide +kernel)⟩
theorem lw_p22 : lw_okq (⟨"BitStreams", "formed", "(JI)J"⟩, 10) := ⟨⟨by decide +kernel, by decide +kernel⟩, List.mem_of_getElem? (i := 9) (by decide +kernel), List.mem_of_getElem? (i := 336) (by decide +kernel), List.mem_of_getElem? (i := 337) (by decide +kernel)⟩
theorem lw_p23 : lw_okq (⟨"BitStreamsModel", "isSource", "(II)Z"⟩, 13) := ⟨⟨by decide +kernel, by decide +kernel⟩, List.mem_of_getElem? (i := 352) (by decide +kernel), List.mem_of_getElem? (i := 413) (by decide +kernel), List.mem_of_getElem? (i := 414) (by decide +kernel)⟩
theorem lw_p24 : lw_okq (⟨"BitStreamsModel", "sourceRow", "(II)J"⟩, 13) := ⟨⟨by decide +kernel, by decide +kernel⟩, List.mem_of_getElem? (i := 352) (by decide +kernel), List.mem_of_getElem? (i := 418) (by decide +kernel), List.mem_of_getElem? (i := 419) (by decide +kernel)⟩
theorem lw_p25 : lw_okq (⟨"BitStreamsModel", "round", "(I)I"⟩, 13) := ⟨⟨by decide +kernel, by decide +kernel⟩, List.mem_of_getElem? (i := 352) (by decide +kernel), List.mem_of_getElem? (i := 422) (by decide +kernel), List.mem_of_getElem? (i := 423) (by decide +kernel)⟩
theorem lw_p26 : lw_okq (⟨"BitStreamsModel", "onesOf", "(J)I"⟩, 13) := ⟨⟨by decide +kernel, by decide +kernel⟩, List.mem_of_getElem? (i := 352) (by decide +kernel), List.mem_of_getElem? (i := 426) (by decide +kernel), List.mem_of_getElem? (i := 427) (by decide +kernel)⟩
theorem lw_p27 : lw_okq (⟨"BitStreamsModel", "bitOf", "(JI)I"⟩, 13) := ⟨⟨by decide +kernel, by decide +kernel⟩, List.mem_of_getElem? (i := 352) (by decide +kernel), List.mem_of_getElem? (i := 430) (by decide +kernel), List.mem_of_getElem? (i := 431) (by decide +kernel)⟩
theorem lw_p28 : lw_okq (⟨"BitStreamsModel", "gateRow", "(IJJJ)J"⟩, 13) := ⟨⟨by decide +kernel, by decide +kernel⟩, List.mem_of_getElem? (i := 352) (by decide +kernel), List.mem_of_getElem? (i := 452) (by decide +kernel), List.mem_of_getElem? (i := 453) (by decide +kernel)⟩
theorem lw_p29 : lw_okq (⟨"BitStreamsModel", "shifted", "(JI)J"⟩, 13) := ⟨⟨by decide +kernel, by decide +kernel⟩, List.mem_of_getElem? (i := 352) (by decide +kernel), List.mem_of_getElem? (i := 469) (by decide +kernel), List.mem_of_getElem? (i := 470) (by decide +kernel)⟩
theorem lw_p30 : lw_okq (⟨"BitStreamsModel", "bothOf", "(III)I"⟩, 13) := ⟨⟨by decide +kernel, by decide +kernel⟩, List.mem_of_getElem? (i := 352) (by decide +kernel), List.mem_of_getElem? (i := 481) (by decide +kernel), List.mem_of_getElem? (i := 482) (by decide +kernel)⟩
theorem lw_p31 : lw_okq (⟨"BitStreamsModel", "due", "(III)I"⟩, 13) := ⟨⟨by decide +kernel, by decide +kernel⟩, List.mem_of_getElem? (i := 352) (by decide +kernel), List.mem_of_getElem? (i := 495) (by decide +kernel), List.mem_of_getElem? (i := 496) (by decide +kernel)⟩
def lw_privs_2 : List (MethodName × Nat) := [(⟨"BitStreams$Form", "setDegree", "(II)V"⟩, 3), (⟨"BitStreams$Form", "partAbove", "(II)J"⟩, 3), (⟨"BitStreams$Form", "waysBut", "(II)J"⟩, 3), (⟨"BitStreams$Form", "partBelow", "(I)J"⟩, 3), (⟨"BitStreams$Form", "mayBeMade", "(I)Z"⟩, 3), (⟨"BitStreams$Form", "thousandthsAt", "(II)I"⟩, 3), (⟨"BitStreams", "formed", "(JI)J"⟩, 10), (⟨"BitStreamsModel", "isSource", "(II)Z"⟩, 13), (⟨"BitStreamsModel", "sourceRow", "(II)J"⟩, 13), (⟨"BitStreamsModel", "round", "(I)I"⟩, 13), (⟨"BitStreamsModel", "onesOf", "(J)I"⟩, 13), (⟨"BitStreamsModel", "bitOf", "(JI)I"⟩, 13), (⟨"BitStreamsModel", "gateRow", "(IJJJ)J"⟩, 13), (⟨"BitStreamsModel", "shifted", "(JI)J"⟩, 13), (⟨"BitStreamsModel", "bothOf", "(III)I"⟩, 13), (⟨"BitStreamsModel", "due", "(III)I"⟩, 13)]
theorem lw_r2 : ∀ q ∈ lw_privs_2, lw_okq q := List.forall_mem_cons.mpr ⟨lw_p16, List.forall_mem_cons.mpr ⟨lw_p17, List.forall_mem_cons.mpr ⟨lw_p18, List.forall_mem_cons.mpr ⟨lw_p19, List.forall_mem_cons.mpr ⟨lw_p20, List.forall_mem_cons.mpr ⟨lw_p21, List.forall_mem_cons.mpr ⟨lw_p22, List.forall_mem_cons.mpr ⟨lw_p23, List.forall_mem_cons.mpr ⟨lw_p24, List.forall_mem_cons.mpr ⟨lw_p25, List.forall_mem_cons.mpr ⟨lw_p26, List.forall_mem_cons.mpr ⟨lw_p27, List.forall_mem_cons.mpr ⟨lw_p28, List.forall_mem_cons.mpr ⟨lw_p29, List.forall_mem_cons.mpr ⟨lw_p30, List.forall_mem_cons.mpr ⟨lw_p31, fun _ h => absurd h List.not_mem_nil⟩⟩⟩⟩⟩⟩⟩⟩⟩⟩⟩⟩⟩⟩⟩⟩
theorem lw_p32 : lw_okq (⟨"BitStreamsModel", "isPartial", "(I)Z"⟩, 13) := ⟨⟨by decide +kernel, by decide +kernel⟩, List.mem_of_getElem? (i := 352) (by decide +kernel), List.mem_of_getElem? (i := 542) (by decide +kernel), List.mem_of_getElem? (i := 543) (by decide +kernel)⟩
theorem lw_p33 : lw_okq (⟨"BitStreamsModel", "findPart", "(II)V"⟩, 13) := ⟨⟨by decide +kernel, by decide +kernel⟩, List.mem_of_getElem? (i := 352) (by decide +kernel), List.mem_of_getElem? (i := 548) (by decide +kernel), List.mem_of_getElem? (i := 549) (by decide +kernel)⟩
theorem lw_p34 : lw_okq (⟨"BitStreamsModel", "mayBeMade", "(I)Z"⟩, 13) := ⟨⟨by decide +kernel, by decide +kernel⟩, List.mem_of_getElem? (i := 352) (by decide +kernel), List.mem_of_getElem? (i := 559) (by decide +kernel), List.mem_of_getElem? (i := 560) (by decide +kernel)⟩
def lw_privs_3 : List (MethodName × Nat) := [(⟨"BitStreamsModel", "isPartial", "(I)Z"⟩, 13), (⟨"BitStreamsModel", "findPart", "(II)V"⟩, 13), (⟨"BitStreamsModel", "mayBeMade", "(I)Z"⟩, 13)]
theorem lw_r3 : ∀ q ∈ lw_privs_3, lw_okq q := List.forall_mem_cons.mpr ⟨lw_p32, List.forall_mem_cons.mpr ⟨lw_p33, List.forall_mem_cons.mpr ⟨lw_p34, fun _ h => absurd h List.not_mem_nil⟩⟩⟩
def lw_privs : List (MethodName × Nat) := lw_privs_1 ++ (lw_privs_2 ++ (lw_privs_3))
def lw_tbl : List Cond := k2_sels lw_privs ++ tables_1
theorem lw_privs_ok : ∀ q ∈ lw_privs, lw_okq q := by
  show ∀ q ∈ lw_privs_1 ++ (lw_privs_2 ++ (lw_privs_3)), lw_okq q
  exact List.forall_mem_append.mpr ⟨lw_r1, List.forall_mem_append.mpr ⟨lw_r2, lw_r3⟩⟩
-- ===== end of PART A; then your names; then what follows =====
end
section
/-! ===== BEGIN words of one list among another's, by their places ===== -/
theorem goodIn_r {big : List Cond} (ws : List Cond) (ps : List Nat) (hp : ws = ps.filterMap (fun i => big[i]?)) (h : ws.all goodWord = true) : GoodIn big ws := by
  intro w hw
  have h1 := List.all_eq_true.mp h w hw
  rw [hp] at hw
  obtain ⟨i, -, hi⟩ := List.mem_filterMap.mp hw
  have hm : w ∈ big := by first | exact List.mem_of_getElem? hi | exact List.getElem?_mem hi
  exact ⟨hm, good_of_word h1⟩
theorem goodIn_app {big a b : List Cond} (ha : GoodIn big a) (hb : GoodIn big b) : GoodIn big (a ++ b) := fun w h => (List.mem_append.mp h).elim (ha w) (hb w)
theorem goodIn_ca {big a b : List Cond} {c : Cond} (ha : GoodIn big (c :: a)) (hb : GoodIn big b) : GoodIn big (c :: (a ++ b)) := fun w h => (List.mem_cons.mp h).elim (fun e => ha w (List.mem_cons.mpr (Or.inl e))) (fun h => (List.mem_append.mp h).elim (fun h => ha w (List.mem_cons.mpr (Or.inr h))) (hb w))
theorem goodIn_sub {big ws : List Cond} (hm : ∀ w ∈ ws, w ∈ big) (h : ws.all goodWord = true) : GoodIn big ws := fun w hw => ⟨hm w hw, good_of_word (List.all_eq_true.mp h w hw)⟩
/-! ===== END ===== -/

/-! ===== BEGIN printed: names, fields, word lists, decode rows ===== -/
def RX0 : String := "BitStreams$Form"
def TX0 : u_T := fun k => match k with
  | 0 => ("BitStreams$Form", "numbers", "[I", true)
  | 1 => ("BitStreams$Form", "degree", "I", false)
  | _ => ("BitStreams$Form", "scale", "I", false)
def tyX0 : Nat → FieldType := fun k => match k with
  | 0 => .array .int
  | 1 => .int
  | _ => .int
abbrev wsX00 : List Cond := u_ws RX0 TX0 3
theorem nmX0 : ∀ a, a < 3 → ∀ b, b < 3 → a ≠ b → (TX0 a).2.1 ≠ (TX0 b).2.1 := by decide +kernel
theorem tyX0_ok : ∀ k, k < 3 → parseFieldDescriptor (TX0 k).2.2.1 = some (tyX0 k) := by decide +kernel
abbrev cX0_init : ByteArray := prog_2_method_1_code
def yX0_init : MethodName := ⟨RX0, "<init>", "()V"⟩
abbrev cX0_setDegree : ByteArray := prog_2_method_2_code
def yX0_setDegree : MethodName := ⟨RX0, "setDegree", "(II)V"⟩
abbrev cX0_partBelow : ByteArray := prog_2_method_3_code
def yX0_partBelow : MethodName := ⟨RX0, "partBelow", "(I)J"⟩
abbrev cX0_partAbove : ByteArray := prog_2_method_4_code
def yX0_partAbove : MethodName := ⟨RX0, "partAbove", "(II)J"⟩
abbrev cX0_mayBeMade : ByteArray := prog_2_method_5_code
def yX0_mayBeMade : MethodName := ⟨RX0, "mayBeMade", "(I)Z"⟩
abbrev cX0_thousandthsAt : ByteArray := prog_2_method_6_code
def yX0_thousandthsAt : MethodName := ⟨RX0, "thousandthsAt", "(II)I"⟩
abbrev cX0_waysBut : ByteArray := prog_2_method_7_code
def yX0_waysBut : MethodName := ⟨RX0, "waysBut", "(II)J"⟩
abbrev cX0_ways : ByteArray := prog_2_method_8_code
def yX0_ways : MethodName := ⟨RX0, "ways", "(II)J"⟩
def RX1 : String := "BitStreams$Rows"
def TX1 : u_T := fun k => match k with
  | 0 => ("BitStreams$Rows", "length", "I", false)
  | _ => ("BitStreams$Rows", "figures", "I", false)
def tyX1 : Nat → FieldType := fun k => match k with
  | 0 => .int
  | _ => .int
abbrev wsX10 : List Cond := u_ws RX1 TX1 2
theorem nmX1 : ∀ a, a < 2 → ∀ b, b < 2 → a ≠ b → (TX1 a).2.1 ≠ (TX1 b).2.1 := by decide +kernel
theorem tyX1_ok : ∀ k, k < 2 → parseFieldDescriptor (TX1 k).2.2.1 = some (tyX1 k) := by decide +kernel
abbrev cX1_init : ByteArray := prog_3_method_1_code
def yX1_init : MethodName := ⟨RX1, "<init>", "()V"⟩
abbrev cX1_setLength : ByteArray := prog_3_method_2_code
def yX1_setLength : MethodName := ⟨RX1, "setLength", "(I)V"⟩
abbrev cX1_round : ByteArray := prog_3_method_3_code
def yX1_round : MethodName := ⟨RX1, "round", "(I)I"⟩
abbrev cX1_turned : ByteArray := prog_3_method_4_code
def yX1_turned : MethodName := ⟨RX1, "turned", "(I)I"⟩
abbrev cX1_shifted : ByteArray := prog_3_method_5_code
def yX1_shifted : MethodName := ⟨RX1, "shifted", "(JI)J"⟩
abbrev cX1_ofSource : ByteArray := prog_3_method_6_code
def yX1_ofSource : MethodName := ⟨RX1, "ofSource", "(II)J"⟩
abbrev cX1_turnedRow : ByteArray := prog_3_method_7_code
def yX1_turnedRow : MethodName := ⟨RX1, "turnedRow", "(I)J"⟩
abbrev cX1_spreadRow : ByteArray := prog_3_method_8_code
def yX1_spreadRow : MethodName := ⟨RX1, "spreadRow", "(I)J"⟩
abbrev cX1_registerRow : ByteArray := prog_3_method_9_code
def yX1_registerRow : MethodName := ⟨RX1, "registerRow", "(I)J"⟩
abbrev cX1_tapsOfLength : ByteArray := prog_3_method_10_code
def yX1_tapsOfLength : MethodName := ⟨RX1, "tapsOfLength", "()I"⟩
def RX2 : String := "BitStreams"
def TX2 : u_T := fun k => match k with
  | 0 => ("BitStreams", "rows", "LBitStreams$Rows;", true)
  | 1 => ("BitStreams", "form", "LBitStreams$Form;", true)
  | 2 => ("BitStreams", "streams", "[J", true)
  | 3 => ("BitStreams", "firstRows", "[J", true)
  | 4 => ("BitStreams", "secondRows", "[J", true)
  | 5 => ("BitStreams", "parts", "[J", true)
  | 6 => ("BitStreams", "machineState", "I", false)
  | 7 => ("BitStreams", "misses", "I", false)
  | 8 => ("BitStreams", "missV", "I", false)
  | _ => ("BitStreams", "missW", "I", false)
def tyX2 : Nat → FieldType := fun k => match k with
  | 0 => .object "BitStreams$Rows"
  | 1 => .object "BitStreams$Form"
  | 2 => .array .long
  | 3 => .array .long
  | 4 => .array .long
  | 5 => .array .long
  | 6 => .int
  | 7 => .int
  | 8 => .int
  | _ => .int
abbrev wsX20 : List Cond := u_ws RX2 TX2 10
theorem nmX2 : ∀ a, a < 10 → ∀ b, b < 10 → a ≠ b → (TX2 a).2.1 ≠ (TX2 b).2.1 := by decide +kernel
theorem tyX2_ok : ∀ k, k < 10 → parseFieldDescriptor (TX2 k).2.2.1 = some (tyX2 k) := by decide +kernel
abbrev cX2_init : ByteArray := prog_1_method_1_code
def yX2_init : MethodName := ⟨RX2, "<init>", "()V"⟩
abbrev cX2_length : ByteArray := prog_1_method_2_code
def yX2_length : MethodName := ⟨RX2, "length", "(I)I"⟩
abbrev cX2_source : ByteArray := prog_1_method_3_code
def yX2_source : MethodName := ⟨RX2, "source", "(III)I"⟩
abbrev cX2_put : ByteArray := prog_1_method_4_code
def yX2_put : MethodName := ⟨RX2, "put", "(IIZ)I"⟩
abbrev cX2_bit : ByteArray := prog_1_method_5_code
def yX2_bit : MethodName := ⟨RX2, "bit", "(II)I"⟩
abbrev cX2_ones : ByteArray := prog_1_method_6_code
def yX2_ones : MethodName := ⟨RX2, "ones", "(I)I"⟩
abbrev cX2_gate : ByteArray := prog_1_method_7_code
def yX2_gate : MethodName := ⟨RX2, "gate", "(IIIII)I"⟩
abbrev cX2_not : ByteArray := prog_1_method_8_code
def yX2_not : MethodName := ⟨RX2, "not", "(II)I"⟩
abbrev cX2_later : ByteArray := prog_1_method_9_code
def yX2_later : MethodName := ⟨RX2, "later", "(III)I"⟩
abbrev cX2_flip : ByteArray := prog_1_method_10_code
def yX2_flip : MethodName := ⟨RX2, "flip", "(IJI)I"⟩
abbrev cX2_both : ByteArray := prog_1_method_11_code
def yX2_both : MethodName := ⟨RX2, "both", "(III)I"⟩
abbrev cX2_together : ByteArray := prog_1_method_12_code
def yX2_together : MethodName := ⟨RX2, "together", "(II)I"⟩
abbrev cX2_miss : ByteArray := prog_1_method_13_code
def yX2_miss : MethodName := ⟨RX2, "miss", "(IIII)I"⟩
abbrev cX2_where : ByteArray := prog_1_method_14_code
def yX2_where : MethodName := ⟨RX2, "where", "(I)I"⟩
abbrev cX2_machine : ByteArray := prog_1_method_15_code
def yX2_machine : MethodName := ⟨RX2, "machine", "(III)I"⟩
abbrev cX2_state : ByteArray := prog_1_method_16_code
def yX2_state : MethodName := ⟨RX2, "state", "()I"⟩
abbrev cX2_ever : ByteArray := prog_1_method_17_code
def yX2_ever : MethodName := ⟨RX2, "ever", "(III)J"⟩
abbrev cX2_degree : ByteArray := prog_1_method_18_code
def yX2_degree : MethodName := ⟨RX2, "degree", "(II)I"⟩
abbrev cX2_term : ByteArray := prog_1_method_19_code
def yX2_term : MethodName := ⟨RX2, "term", "(II)I"⟩
abbrev cX2_part : ByteArray := prog_1_method_20_code
def yX2_part : MethodName := ⟨RX2, "part", "(III)J"⟩
abbrev cX2_least : ByteArray := prog_1_method_21_code
def yX2_least : MethodName := ⟨RX2, "least", "()I"⟩
abbrev cX2_at : ByteArray := prog_1_method_22_code
def yX2_at : MethodName := ⟨RX2, "at", "(I)I"⟩
abbrev cX2_make : ByteArray := prog_1_method_23_code
def yX2_make : MethodName := ⟨RX2, "make", "(IIII)I"⟩
abbrev cX2_count : ByteArray := prog_1_method_24_code
def yX2_count : MethodName := ⟨RX2, "count", "(I)I"⟩
abbrev cX2_digest : ByteArray := prog_1_method_25_code
def yX2_digest : MethodName := ⟨RX2, "digest", "()J"⟩
abbrev cX2_isWithin : ByteArray := prog_1_method_26_code
def yX2_isWithin : MethodName := ⟨RX2, "isWithin", "(III)Z"⟩
abbrev cX2_isStream : ByteArray := prog_1_method_27_code
def yX2_isStream : MethodName := ⟨RX2, "isStream", "(I)Z"⟩
abbrev cX2_isSource : ByteArray := prog_1_method_28_code
def yX2_isSource : MethodName := ⟨RX2, "isSource", "(I)Z"⟩
abbrev cX2_isMachine : ByteArray := prog_1_method_29_code
def yX2_isMachine : MethodName := ⟨RX2, "isMachine", "(I)Z"⟩
abbrev cX2_isBit : ByteArray := prog_1_method_30_code
def yX2_isBit : MethodName := ⟨RX2, "isBit", "(I)Z"⟩
abbrev cX2_isValue : ByteArray := prog_1_method_31_code
def yX2_isValue : MethodName := ⟨RX2, "isValue", "(I)Z"⟩
abbrev cX2_bitOf : ByteArray := prog_1_method_32_code
def yX2_bitOf : MethodName := ⟨RX2, "bitOf", "(JI)I"⟩
abbrev cX2_lowBits : ByteArray := prog_1_method_33_code
def yX2_lowBits : MethodName := ⟨RX2, "lowBits", "(I)J"⟩
abbrev cX2_setStream : ByteArray := prog_1_method_34_code
def yX2_setStream : MethodName := ⟨RX2, "setStream", "(IJ)I"⟩
abbrev cX2_gated : ByteArray := prog_1_method_35_code
def yX2_gated : MethodName := ⟨RX2, "gated", "(IJJJ)J"⟩
abbrev cX2_onesOfSort : ByteArray := prog_1_method_36_code
def yX2_onesOfSort : MethodName := ⟨RX2, "onesOfSort", "(JJI)I"⟩
abbrev cX2_greatestMiss : ByteArray := prog_1_method_37_code
def yX2_greatestMiss : MethodName := ⟨RX2, "greatestMiss", "(I)I"⟩
abbrev cX2_dueOnes : ByteArray := prog_1_method_38_code
def yX2_dueOnes : MethodName := ⟨RX2, "dueOnes", "(III)I"⟩
abbrev cX2_isUpper : ByteArray := prog_1_method_39_code
def yX2_isUpper : MethodName := ⟨RX2, "isUpper", "(II)Z"⟩
abbrev cX2_ranThrough : ByteArray := prog_1_method_40_code
def yX2_ranThrough : MethodName := ⟨RX2, "ranThrough", "(JI)J"⟩
abbrev cX2_formed : ByteArray := prog_1_method_41_code
def yX2_formed : MethodName := ⟨RX2, "formed", "(JI)J"⟩
abbrev cX2_power : ByteArray := prog_1_method_42_code
def yX2_power : MethodName := ⟨RX2, "power", "(JI)J"⟩
abbrev cX2_inLowestTerms : ByteArray := prog_1_method_43_code
def yX2_inLowestTerms : MethodName := ⟨RX2, "inLowestTerms", "(JJI)J"⟩
abbrev cX2_commonDivisor : ByteArray := prog_1_method_44_code
def yX2_commonDivisor : MethodName := ⟨RX2, "commonDivisor", "(JJ)J"⟩
def RX3 : String := "BitStreamsModel"
def TX3 : u_T := fun k => match k with
  | 0 => ("BitStreamsModel", "size", "I", false)
  | 1 => ("BitStreamsModel", "rows", "[J", true)
  | 2 => ("BitStreamsModel", "misses", "I", false)
  | 3 => ("BitStreamsModel", "missV", "I", false)
  | 4 => ("BitStreamsModel", "missW", "I", false)
  | 5 => ("BitStreamsModel", "firsts", "[J", true)
  | 6 => ("BitStreamsModel", "others", "[J", true)
  | 7 => ("BitStreamsModel", "behind", "I", false)
  | 8 => ("BitStreamsModel", "degree", "I", false)
  | 9 => ("BitStreamsModel", "scale", "I", false)
  | 10 => ("BitStreamsModel", "terms", "[I", true)
  | 11 => ("BitStreamsModel", "partUp", "J", false)
  | _ => ("BitStreamsModel", "partLow", "J", false)
def tyX3 : Nat → FieldType := fun k => match k with
  | 0 => .int
  | 1 => .array .long
  | 2 => .int
  | 3 => .int
  | 4 => .int
  | 5 => .array .long
  | 6 => .array .long
  | 7 => .int
  | 8 => .int
  | 9 => .int
  | 10 => .array .int
  | 11 => .long
  | _ => .long
abbrev wsX30 : List Cond := u_ws RX3 TX3 13
theorem nmX3 : ∀ a, a < 13 → ∀ b, b < 13 → a ≠ b → (TX3 a).2.1 ≠ (TX3 b).2.1 := by decide +kernel
theorem tyX3_ok : ∀ k, k < 13 → parseFieldDescriptor (TX3 k).2.2.1 = some (tyX3 k) := by decide +kernel
abbrev cX3_init : ByteArray := prog_5_method_1_code
def yX3_init : MethodName := ⟨RX3, "<init>", "()V"⟩
abbrev cX3_in : ByteArray := prog_5_method_2_code
def yX3_in : MethodName := ⟨RX3, "in", "(JJJ)Z"⟩
abbrev cX3_isStream : ByteArray := prog_5_method_3_code
def yX3_isStream : MethodName := ⟨RX3, "isStream", "(I)Z"⟩
abbrev cX3_bitOf : ByteArray := prog_5_method_4_code
def yX3_bitOf : MethodName := ⟨RX3, "bitOf", "(JI)I"⟩
abbrev cX3_onesOf : ByteArray := prog_5_method_5_code
def yX3_onesOf : MethodName := ⟨RX3, "onesOf", "(J)I"⟩
abbrev cX3_length : ByteArray := prog_5_method_6_code
def yX3_length : MethodName := ⟨RX3, "length", "(I)I"⟩
abbrev cX3_round : ByteArray := prog_5_method_7_code
def yX3_round : MethodName := ⟨RX3, "round", "(I)I"⟩
abbrev cX3_sourceRow : ByteArray := prog_5_method_8_code
def yX3_sourceRow : MethodName := ⟨RX3, "sourceRow", "(II)J"⟩
abbrev cX3_isSource : ByteArray := prog_5_method_9_code
def yX3_isSource : MethodName := ⟨RX3, "isSource", "(II)Z"⟩
abbrev cX3_source : ByteArray := prog_5_method_10_code
def yX3_source : MethodName := ⟨RX3, "source", "(III)I"⟩
abbrev cX3_put : ByteArray := prog_5_method_11_code
def yX3_put : MethodName := ⟨RX3, "put", "(IIZ)I"⟩
abbrev cX3_bit : ByteArray := prog_5_method_12_code
def yX3_bit : MethodName := ⟨RX3, "bit", "(II)I"⟩
abbrev cX3_ones : ByteArray := prog_5_method_13_code
def yX3_ones : MethodName := ⟨RX3, "ones", "(I)I"⟩
abbrev cX3_gated : ByteArray := prog_5_method_14_code
def yX3_gated : MethodName := ⟨RX3, "gated", "(IIII)I"⟩
abbrev cX3_gateRow : ByteArray := prog_5_method_15_code
def yX3_gateRow : MethodName := ⟨RX3, "gateRow", "(IJJJ)J"⟩
abbrev cX3_gate : ByteArray := prog_5_method_16_code
def yX3_gate : MethodName := ⟨RX3, "gate", "(IIIII)I"⟩
abbrev cX3_not : ByteArray := prog_5_method_17_code
def yX3_not : MethodName := ⟨RX3, "not", "(II)I"⟩
abbrev cX3_shifted : ByteArray := prog_5_method_18_code
def yX3_shifted : MethodName := ⟨RX3, "shifted", "(JI)J"⟩
abbrev cX3_later : ByteArray := prog_5_method_19_code
def yX3_later : MethodName := ⟨RX3, "later", "(III)I"⟩
abbrev cX3_flip : ByteArray := prog_5_method_20_code
def yX3_flip : MethodName := ⟨RX3, "flip", "(IJI)I"⟩
abbrev cX3_bothOf : ByteArray := prog_5_method_21_code
def yX3_bothOf : MethodName := ⟨RX3, "bothOf", "(III)I"⟩
abbrev cX3_both : ByteArray := prog_5_method_22_code
def yX3_both : MethodName := ⟨RX3, "both", "(III)I"⟩
abbrev cX3_together : ByteArray := prog_5_method_23_code
def yX3_together : MethodName := ⟨RX3, "together", "(II)I"⟩
abbrev cX3_due : ByteArray := prog_5_method_24_code
def yX3_due : MethodName := ⟨RX3, "due", "(III)I"⟩
abbrev cX3_miss : ByteArray := prog_5_method_25_code
def yX3_miss : MethodName := ⟨RX3, "miss", "(IIII)I"⟩
abbrev cX3_where : ByteArray := prog_5_method_26_code
def yX3_where : MethodName := ⟨RX3, "where", "(I)I"⟩
abbrev cX3_isMachine : ByteArray := prog_5_method_27_code
def yX3_isMachine : MethodName := ⟨RX3, "isMachine", "(I)Z"⟩
abbrev cX3_machine : ByteArray := prog_5_method_28_code
def yX3_machine : MethodName := ⟨RX3, "machine", "(III)I"⟩
abbrev cX3_state : ByteArray := prog_5_method_29_code
def yX3_state : MethodName := ⟨RX3, "state", "()I"⟩
abbrev cX3_power : ByteArray := prog_5_method_30_code
def yX3_power : MethodName := ⟨RX3, "power", "(JI)J"⟩
abbrev cX3_common : ByteArray := prog_5_method_31_code
def yX3_common : MethodName := ⟨RX3, "common", "(JJ)J"⟩
abbrev cX3_ever : ByteArray := prog_5_method_32_code
def yX3_ever : MethodName := ⟨RX3, "ever", "(III)J"⟩
abbrev cX3_degree : ByteArray := prog_5_method_33_code
def yX3_degree : MethodName := ⟨RX3, "degree", "(II)I"⟩
abbrev cX3_term : ByteArray := prog_5_method_34_code
def yX3_term : MethodName := ⟨RX3, "term", "(II)I"⟩
abbrev cX3_chosen : ByteArray := prog_5_method_35_code
def yX3_chosen : MethodName := ⟨RX3, "chosen", "(II)J"⟩
abbrev cX3_findPart : ByteArray := prog_5_method_36_code
def yX3_findPart : MethodName := ⟨RX3, "findPart", "(II)V"⟩
abbrev cX3_isPartial : ByteArray := prog_5_method_37_code
def yX3_isPartial : MethodName := ⟨RX3, "isPartial", "(I)Z"⟩
abbrev cX3_part : ByteArray := prog_5_method_38_code
def yX3_part : MethodName := ⟨RX3, "part", "(III)J"⟩
abbrev cX3_mayBeMade : ByteArray := prog_5_method_39_code
def yX3_mayBeMade : MethodName := ⟨RX3, "mayBeMade", "(I)Z"⟩
abbrev cX3_least : ByteArray := prog_5_method_40_code
def yX3_least : MethodName := ⟨RX3, "least", "()I"⟩
abbrev cX3_at : ByteArray := prog_5_method_41_code
def yX3_at : MethodName := ⟨RX3, "at", "(I)I"⟩
abbrev cX3_make : ByteArray := prog_5_method_42_code
def yX3_make : MethodName := ⟨RX3, "make", "(IIII)I"⟩
abbrev cX3_count : ByteArray := prog_5_method_43_code
def yX3_count : MethodName := ⟨RX3, "count", "(I)I"⟩
abbrev cX3_digest : ByteArray := prog_5_method_44_code
def yX3_digest : MethodName := ⟨RX3, "digest", "()J"⟩
def RJ6 : String := "java/lang/Integer"
def TJ6 : u_T := fun k => match k with
  | _ => ("", "", "", false)
def tyJ6 : Nat → FieldType := fun k => match k with
  | _ => .int
abbrev wsJ60 : List Cond := u_ws RJ6 TJ6 0
theorem nmJ6 : ∀ a, a < 0 → ∀ b, b < 0 → a ≠ b → (TJ6 a).2.1 ≠ (TJ6 b).2.1 := by decide +kernel
theorem tyJ6_ok : ∀ k, k < 0 → parseFieldDescriptor (TJ6 k).2.2.1 = some (tyJ6 k) := by decide +kernel
abbrev cJ6_bitCount_0f7a4 : ByteArray := prog_6_method_49_code
def yJ6_bitCount_0f7a4 : MethodName := ⟨RJ6, "bitCount", "(I)I"⟩
def RJ13 : String := "java/lang/Long"
def TJ13 : u_T := fun k => match k with
  | _ => ("", "", "", false)
def tyJ13 : Nat → FieldType := fun k => match k with
  | _ => .int
abbrev wsJ130 : List Cond := u_ws RJ13 TJ13 0
theorem nmJ13 : ∀ a, a < 0 → ∀ b, b < 0 → a ≠ b → (TJ13 a).2.1 ≠ (TJ13 b).2.1 := by decide +kernel
theorem tyJ13_ok : ∀ k, k < 0 → parseFieldDescriptor (TJ13 k).2.2.1 = some (tyJ13 k) := by decide +kernel
abbrev cJ13_bitCount_95d88 : ByteArray := prog_7_method_50_code
def yJ13_bitCount_95d88 : MethodName := ⟨RJ13, "bitCount", "(J)I"⟩
def RJ9 : String := "java/lang/Math"
def TJ9 : u_T := fun k => match k with
  | _ => ("", "", "", false)
def tyJ9 : Nat → FieldType := fun k => match k with
  | _ => .int
abbrev wsJ90 : List Cond := u_ws RJ9 TJ9 0
theorem nmJ9 : ∀ a, a < 0 → ∀ b, b < 0 → a ≠ b → (TJ9 a).2.1 ≠ (TJ9 b).2.1 := by decide +kernel
theorem tyJ9_ok : ∀ k, k < 0 → parseFieldDescriptor (TJ9 k).2.2.1 = some (tyJ9 k) := by decide +kernel
abbrev cJ9_floorDiv_f86c9 : ByteArray := prog_8_method_49_code
def yJ9_floorDiv_f86c9 : MethodName := ⟨RJ9, "floorDiv", "(JJ)J"⟩
abbrev cJ9_abs_0f7a4 : ByteArray := prog_8_method_59_code
def yJ9_abs_0f7a4 : MethodName := ⟨RJ9, "abs", "(I)I"⟩
abbrev cJ9_abs_067f4 : ByteArray := prog_8_method_61_code
def yJ9_abs_067f4 : MethodName := ⟨RJ9, "abs", "(J)J"⟩
abbrev cJ9_max_7cf53 : ByteArray := prog_8_method_65_code
def yJ9_max_7cf53 : MethodName := ⟨RJ9, "max", "(II)I"⟩
abbrev cJ9_max_f86c9 : ByteArray := prog_8_method_66_code
def yJ9_max_f86c9 : MethodName := ⟨RJ9, "max", "(JJ)J"⟩
abbrev cJ9_min_7cf53 : ByteArray := prog_8_method_69_code
def yJ9_min_7cf53 : MethodName := ⟨RJ9, "min", "(II)I"⟩
def RL : String := "BitStreamsLaw"
abbrev cL_law : ByteArray := code
def yL_law : MethodName := ⟨RL, "law", "([I)Z"⟩
def wsX0_init : List Cond := .code yX0_init cX0_init 1 none :: ([.methodLink RX0 3 objectInit, .instanceMethod objectInit, .code objectInit ⟨#[0xb1]⟩ 1 none, .arrayClass .int, .fieldLink RX0 9 "BitStreams$Form" "numbers" "[I", .fieldLink RX0 15 "BitStreams$Form" "degree" "I", .fieldLink RX0 19 "BitStreams$Form" "scale" "I"] ++ wsX00)
def wsX0_setDegree : List Cond := .code yX0_setDegree cX0_setDegree 4 none :: ([.fieldLink RX0 15 "BitStreams$Form" "degree" "I", .fieldLink RX0 19 "BitStreams$Form" "scale" "I", .fieldLink RX0 9 "BitStreams$Form" "numbers" "[I"] ++ wsX00)
def wsX0_ways : List Cond := .code yX0_ways cX0_ways 5 (some .long) :: ([])
def wsX0_waysBut : List Cond := .code yX0_waysBut cX0_waysBut 6 (some .long) :: ([.fieldLink RX0 15 "BitStreams$Form" "degree" "I", .methodLink RX0 26 yX0_ways, .static yX0_ways, .initialized RX0, .code yX0_ways cX0_ways 5 (some .long)] ++ wsX00)
def wsX0_partBelow : List Cond := .code yX0_partBelow cX0_partBelow 2 (some .long) :: ([.fieldLink RX0 19 "BitStreams$Form" "scale" "I", .methodLink RX0 22 yX0_waysBut, .instanceMethod yX0_waysBut, .selects RX0 yX0_waysBut yX0_waysBut, .initialized RX0, .code yX0_waysBut cX0_waysBut 6 (some .long), .fieldLink RX0 15 "BitStreams$Form" "degree" "I", .methodLink RX0 26 yX0_ways, .static yX0_ways, .code yX0_ways cX0_ways 5 (some .long)] ++ wsX00)
def wsX0_partAbove : List Cond := .code yX0_partAbove cX0_partAbove 6 (some .long) :: ([.fieldLink RX0 15 "BitStreams$Form" "degree" "I", .fieldLink RX0 9 "BitStreams$Form" "numbers" "[I", .methodLink RX0 26 yX0_ways, .static yX0_ways, .initialized RX0, .code yX0_ways cX0_ways 5 (some .long), .methodLink RX0 22 yX0_waysBut, .instanceMethod yX0_waysBut, .selects RX0 yX0_waysBut yX0_waysBut, .code yX0_waysBut cX0_waysBut 6 (some .long)] ++ wsX00)
def wsX0_mayBeMade : List Cond := .code yX0_mayBeMade cX0_mayBeMade 7 (some .boolean) :: ([.methodLink RX0 29 yX0_partBelow, .instanceMethod yX0_partBelow, .selects RX0 yX0_partBelow yX0_partBelow, .initialized RX0, .code yX0_partBelow cX0_partBelow 2 (some .long), .fieldLink RX0 19 "BitStreams$Form" "scale" "I", .methodLink RX0 22 yX0_waysBut, .instanceMethod yX0_waysBut, .selects RX0 yX0_waysBut yX0_waysBut, .code yX0_waysBut cX0_waysBut 6 (some .long), .fieldLink RX0 15 "BitStreams$Form" "degree" "I", .methodLink RX0 26 yX0_ways, .static yX0_ways, .code yX0_ways cX0_ways 5 (some .long), .methodLink RX0 33 yX0_partAbove, .instanceMethod yX0_partAbove, .selects RX0 yX0_partAbove yX0_partAbove, .code yX0_partAbove cX0_partAbove 6 (some .long), .fieldLink RX0 9 "BitStreams$Form" "numbers" "[I"] ++ wsX00)
def wsX2_power : List Cond := .code yX2_power cX2_power 6 (some .long) :: ([])
def wsJ9_floorDiv_f86c9 : List Cond := .code yJ9_floorDiv_f86c9 cJ9_floorDiv_f86c9 6 (some .long) :: ([])
def wsX0_thousandthsAt : List Cond := .code yX0_thousandthsAt cX0_thousandthsAt 7 (some .int) :: ([.fieldLink RX0 15 "BitStreams$Form" "degree" "I", .fieldLink RX0 9 "BitStreams$Form" "numbers" "[I", .fieldLink RX0 19 "BitStreams$Form" "scale" "I", .methodLink RX0 40 Lib.MathLoose.max_long.x, .static Lib.MathLoose.max_long.x, .initialized "java/lang/Math", .code Lib.MathLoose.max_long.x Lib.MathLoose.max_long.code 4 (some .long), .constantLong RX0 46 (1000), .static yX2_power, .initialized RX2, .code yX2_power cX2_power 6 (some .long), .methodLink RX0 48 yJ9_floorDiv_f86c9, .static yJ9_floorDiv_f86c9, .initialized RJ9, .code yJ9_floorDiv_f86c9 cJ9_floorDiv_f86c9 6 (some .long)] ++ wsX00)
def wsJ6_bitCount_0f7a4 : List Cond := .code yJ6_bitCount_0f7a4 cJ6_bitCount_0f7a4 1 (some .int) :: ([.constant RJ6 265 (1431655765), .constant RJ6 266 (858993459), .constant RJ6 267 (252645135)])
def wsX1_init : List Cond := .code yX1_init cX1_init 1 none :: ([.methodLink RX1 3 objectInit, .instanceMethod objectInit, .code objectInit ⟨#[0xb1]⟩ 1 none, .fieldLink RX1 9 "BitStreams$Rows" "length" "I", .fieldLink RX1 21 "BitStreams$Rows" "figures" "I", .methodLink RX1 15 yJ6_bitCount_0f7a4, .static yJ6_bitCount_0f7a4, .initialized RJ6, .code yJ6_bitCount_0f7a4 cJ6_bitCount_0f7a4 1 (some .int), .constant RJ6 265 (1431655765), .constant RJ6 266 (858993459), .constant RJ6 267 (252645135)] ++ wsX10)
def wsX1_setLength : List Cond := .code yX1_setLength cX1_setLength 2 none :: ([.fieldLink RX1 9 "BitStreams$Rows" "length" "I", .fieldLink RX1 21 "BitStreams$Rows" "figures" "I", .methodLink RX1 15 yJ6_bitCount_0f7a4, .static yJ6_bitCount_0f7a4, .initialized RJ6, .code yJ6_bitCount_0f7a4 cJ6_bitCount_0f7a4 1 (some .int), .constant RJ6 265 (1431655765), .constant RJ6 266 (858993459), .constant RJ6 267 (252645135)] ++ wsX10)
def wsX1_round : List Cond := .code yX1_round cX1_round 2 (some .int) :: ([.fieldLink RX1 9 "BitStreams$Rows" "length" "I"] ++ wsX10)
def wsX1_turned : List Cond := .code yX1_turned cX1_turned 4 (some .int) :: ([.fieldLink RX1 21 "BitStreams$Rows" "figures" "I"] ++ wsX10)
def wsX2_lowBits : List Cond := .code yX2_lowBits cX2_lowBits 1 (some .long) :: ([.constantLong RX2 81 (-1)])
def wsX1_shifted : List Cond := .code yX1_shifted cX1_shifted 5 (some .long) :: ([.fieldLink RX1 9 "BitStreams$Rows" "length" "I", .methodLink RX1 24 yX1_round, .instanceMethod yX1_round, .selects RX1 yX1_round yX1_round, .initialized RX1, .code yX1_round cX1_round 2 (some .int), .static yX2_lowBits, .initialized RX2, .code yX2_lowBits cX2_lowBits 1 (some .long), .constantLong RX2 81 (-1)] ++ wsX10)
def wsX1_turnedRow : List Cond := .code yX1_turnedRow cX1_turnedRow 5 (some .long) :: ([.methodLink RX1 40 yX1_turned, .instanceMethod yX1_turned, .selects RX1 yX1_turned yX1_turned, .initialized RX1, .code yX1_turned cX1_turned 4 (some .int), .fieldLink RX1 21 "BitStreams$Rows" "figures" "I"] ++ wsX10)
def wsX1_spreadRow : List Cond := .code yX1_spreadRow cX1_spreadRow 5 (some .long) :: ([.fieldLink RX1 9 "BitStreams$Rows" "length" "I", .fieldLink RX1 21 "BitStreams$Rows" "figures" "I"] ++ wsX10)
def wsX1_tapsOfLength : List Cond := .code yX1_tapsOfLength cX1_tapsOfLength 1 (some .int) :: ([.fieldLink RX1 9 "BitStreams$Rows" "length" "I"] ++ wsX10)
def wsX1_registerRow : List Cond := .code yX1_registerRow cX1_registerRow 7 (some .long) :: ([.fieldLink RX1 9 "BitStreams$Rows" "length" "I", .methodLink RX1 43 yX1_tapsOfLength, .instanceMethod yX1_tapsOfLength, .selects RX1 yX1_tapsOfLength yX1_tapsOfLength, .initialized RX1, .code yX1_tapsOfLength cX1_tapsOfLength 1 (some .int)] ++ wsX10)
def wsX1_ofSource_r1 : List Cond := [Cond.static yX2_lowBits, Cond.initialized RX2, Cond.code yX2_lowBits cX2_lowBits 1 (some .long), Cond.constantLong RX2 81 (-1), Cond.methodLink RX1 31 yX1_turnedRow, Cond.instanceMethod yX1_turnedRow, Cond.selects RX1 yX1_turnedRow yX1_turnedRow, Cond.initialized RX1, Cond.code yX1_turnedRow cX1_turnedRow 5 (some .long), Cond.methodLink RX1 40 yX1_turned, Cond.instanceMethod yX1_turned, Cond.selects RX1 yX1_turned yX1_turned, Cond.code yX1_turned cX1_turned 4 (some .int), Cond.fieldLink RX1 21 "BitStreams$Rows" "figures" "I", Cond.methodLink RX1 34 yX1_spreadRow, Cond.instanceMethod yX1_spreadRow, Cond.selects RX1 yX1_spreadRow yX1_spreadRow, Cond.code yX1_spreadRow cX1_spreadRow 5 (some .long), Cond.fieldLink RX1 9 "BitStreams$Rows" "length" "I", Cond.methodLink RX1 37 yX1_registerRow, Cond.instanceMethod yX1_registerRow, Cond.selects RX1 yX1_registerRow yX1_registerRow, Cond.code yX1_registerRow cX1_registerRow 7 (some .long), Cond.methodLink RX1 43 yX1_tapsOfLength]
def wsX1_ofSource_r2 : List Cond := [Cond.instanceMethod yX1_tapsOfLength, Cond.selects RX1 yX1_tapsOfLength yX1_tapsOfLength, Cond.code yX1_tapsOfLength cX1_tapsOfLength 1 (some .int)]
def wsX1_ofSource : List Cond := .code yX1_ofSource cX1_ofSource 3 (some .long) :: ((wsX1_ofSource_r1 ++ wsX1_ofSource_r2) ++ wsX10)
def wsX2_init_r1 : List Cond := [Cond.methodLink RX2 1 objectInit, Cond.instanceMethod objectInit, Cond.code objectInit ⟨#[0xb1]⟩ 1 none, Cond.classLink RX2 7 RX1, Cond.instantiable RX1 2, Cond.initialized RX1, Cond.fieldLink RX2 10 "BitStreams" "rows" "LBitStreams$Rows;", Cond.classLink RX2 16 RX0, Cond.instantiable RX0 3, Cond.initialized RX0, Cond.fieldLink RX2 19 "BitStreams" "form" "LBitStreams$Form;", Cond.arrayClass .long, Cond.fieldLink RX2 23 "BitStreams" "streams" "[J", Cond.fieldLink RX2 27 "BitStreams" "firstRows" "[J", Cond.fieldLink RX2 30 "BitStreams" "secondRows" "[J", Cond.fieldLink RX2 33 "BitStreams" "parts" "[J", Cond.fieldLink RX2 36 "BitStreams" "machineState" "I", Cond.fieldLink RX2 40 "BitStreams" "misses" "I", Cond.fieldLink RX2 43 "BitStreams" "missV" "I", Cond.fieldLink RX2 46 "BitStreams" "missW" "I", Cond.instanceMethod yX1_init, Cond.code yX1_init cX1_init 1 none, Cond.methodLink RX1 3 objectInit, Cond.fieldLink RX1 9 "BitStreams$Rows" "length" "I"]
def wsX2_init_r2 : List Cond := [Cond.fieldLink RX1 21 "BitStreams$Rows" "figures" "I", Cond.methodLink RX1 15 yJ6_bitCount_0f7a4, Cond.static yJ6_bitCount_0f7a4, Cond.initialized RJ6, Cond.code yJ6_bitCount_0f7a4 cJ6_bitCount_0f7a4 1 (some .int), Cond.constant RJ6 265 (1431655765), Cond.constant RJ6 266 (858993459), Cond.constant RJ6 267 (252645135), Cond.instanceMethod yX0_init, Cond.code yX0_init cX0_init 1 none, Cond.methodLink RX0 3 objectInit, Cond.arrayClass .int, Cond.fieldLink RX0 9 "BitStreams$Form" "numbers" "[I", Cond.fieldLink RX0 15 "BitStreams$Form" "degree" "I", Cond.fieldLink RX0 19 "BitStreams$Form" "scale" "I"]
def wsX2_init : List Cond := .code yX2_init cX2_init 1 none :: ((wsX2_init_r1 ++ wsX2_init_r2) ++ wsX10 ++ wsX20 ++ wsX00)
def wsX2_length : List Cond := .code yX2_length cX2_length 4 (some .int) :: ([.fieldLink RX2 10 "BitStreams" "rows" "LBitStreams$Rows;", .fieldLink RX2 23 "BitStreams" "streams" "[J", .instanceMethod yX1_setLength, .initialized RX1, .selects RX1 yX1_setLength yX1_setLength, .code yX1_setLength cX1_setLength 2 none, .fieldLink RX1 9 "BitStreams$Rows" "length" "I", .fieldLink RX1 21 "BitStreams$Rows" "figures" "I", .methodLink RX1 15 yJ6_bitCount_0f7a4, .static yJ6_bitCount_0f7a4, .initialized RJ6, .code yJ6_bitCount_0f7a4 cJ6_bitCount_0f7a4 1 (some .int), .constant RJ6 265 (1431655765), .constant RJ6 266 (858993459), .constant RJ6 267 (252645135)] ++ wsX20 ++ wsX10)
def wsX2_isWithin : List Cond := .code yX2_isWithin cX2_isWithin 3 (some .boolean) :: ([])
def wsX2_isStream : List Cond := .code yX2_isStream cX2_isStream 1 (some .boolean) :: ([.methodLink RX2 89 yX2_isWithin, .static yX2_isWithin, .initialized RX2, .code yX2_isWithin cX2_isWithin 3 (some .boolean)])
def wsX2_isSource : List Cond := .code yX2_isSource cX2_isSource 1 (some .boolean) :: ([.methodLink RX2 89 yX2_isWithin, .static yX2_isWithin, .initialized RX2, .code yX2_isWithin cX2_isWithin 3 (some .boolean)])
def wsX2_isValue : List Cond := .code yX2_isValue cX2_isValue 2 (some .boolean) :: ([.fieldLink RX2 10 "BitStreams" "rows" "LBitStreams$Rows;", .methodLink RX2 89 yX2_isWithin, .static yX2_isWithin, .initialized RX2, .code yX2_isWithin cX2_isWithin 3 (some .boolean)] ++ wsX20 ++ wsX10)
def wsJ13_bitCount_95d88 : List Cond := .code yJ13_bitCount_95d88 cJ13_bitCount_95d88 2 (some .int) :: ([.constantLong RJ13 314 (6148914691236517205), .constantLong RJ13 316 (3689348814741910323), .constantLong RJ13 318 (1085102592571150095)])
def wsX2_setStream : List Cond := .code yX2_setStream cX2_setStream 4 (some .int) :: ([.fieldLink RX2 23 "BitStreams" "streams" "[J", .fieldLink RX2 10 "BitStreams" "rows" "LBitStreams$Rows;", .methodLink RX2 101 yX2_lowBits, .static yX2_lowBits, .initialized RX2, .code yX2_lowBits cX2_lowBits 1 (some .long), .constantLong RX2 81 (-1), .methodLink RX2 83 yJ13_bitCount_95d88, .static yJ13_bitCount_95d88, .initialized RJ13, .code yJ13_bitCount_95d88 cJ13_bitCount_95d88 2 (some .int), .constantLong RJ13 314 (6148914691236517205), .constantLong RJ13 316 (3689348814741910323), .constantLong RJ13 318 (1085102592571150095)] ++ wsX20 ++ wsX10)
def wsX2_source_r1 : List Cond := [Cond.fieldLink RX2 10 "BitStreams" "rows" "LBitStreams$Rows;", Cond.methodLink RX2 56 yX2_isStream, Cond.static yX2_isStream, Cond.initialized RX2, Cond.code yX2_isStream cX2_isStream 1 (some .boolean), Cond.methodLink RX2 89 yX2_isWithin, Cond.static yX2_isWithin, Cond.code yX2_isWithin cX2_isWithin 3 (some .boolean), Cond.methodLink RX2 60 yX2_isSource, Cond.static yX2_isSource, Cond.code yX2_isSource cX2_isSource 1 (some .boolean), Cond.methodLink RX2 63 yX2_isValue, Cond.instanceMethod yX2_isValue, Cond.selects RX2 yX2_isValue yX2_isValue, Cond.code yX2_isValue cX2_isValue 2 (some .boolean), Cond.instanceMethod yX1_ofSource, Cond.initialized RX1, Cond.selects RX1 yX1_ofSource yX1_ofSource, Cond.code yX1_ofSource cX1_ofSource 3 (some .long), Cond.static yX2_lowBits, Cond.code yX2_lowBits cX2_lowBits 1 (some .long), Cond.constantLong RX2 81 (-1), Cond.methodLink RX1 31 yX1_turnedRow, Cond.instanceMethod yX1_turnedRow]
def wsX2_source_r2 : List Cond := [Cond.selects RX1 yX1_turnedRow yX1_turnedRow, Cond.code yX1_turnedRow cX1_turnedRow 5 (some .long), Cond.methodLink RX1 40 yX1_turned, Cond.instanceMethod yX1_turned, Cond.selects RX1 yX1_turned yX1_turned, Cond.code yX1_turned cX1_turned 4 (some .int), Cond.fieldLink RX1 21 "BitStreams$Rows" "figures" "I", Cond.methodLink RX1 34 yX1_spreadRow, Cond.instanceMethod yX1_spreadRow, Cond.selects RX1 yX1_spreadRow yX1_spreadRow, Cond.code yX1_spreadRow cX1_spreadRow 5 (some .long), Cond.fieldLink RX1 9 "BitStreams$Rows" "length" "I", Cond.methodLink RX1 37 yX1_registerRow, Cond.instanceMethod yX1_registerRow, Cond.selects RX1 yX1_registerRow yX1_registerRow, Cond.code yX1_registerRow cX1_registerRow 7 (some .long), Cond.methodLink RX1 43 yX1_tapsOfLength, Cond.instanceMethod yX1_tapsOfLength, Cond.selects RX1 yX1_tapsOfLength yX1_tapsOfLength, Cond.code yX1_tapsOfLength cX1_tapsOfLength 1 (some .int), Cond.methodLink RX2 70 yX2_setStream, Cond.instanceMethod yX2_setStream, Cond.selects RX2 yX2_setStream yX2_setStream, Cond.code yX2_setStream cX2_setStream 4 (some .int)]
def wsX2_source_r3 : List Cond := [Cond.fieldLink RX2 23 "BitStreams" "streams" "[J", Cond.methodLink RX2 101 yX2_lowBits, Cond.methodLink RX2 83 yJ13_bitCount_95d88, Cond.static yJ13_bitCount_95d88, Cond.initialized RJ13, Cond.code yJ13_bitCount_95d88 cJ13_bitCount_95d88 2 (some .int), Cond.constantLong RJ13 314 (6148914691236517205), Cond.constantLong RJ13 316 (3689348814741910323), Cond.constantLong RJ13 318 (1085102592571150095)]
def wsX2_source : List Cond := .code yX2_source cX2_source 4 (some .int) :: ((wsX2_source_r1 ++ (wsX2_source_r2 ++ wsX2_source_r3)) ++ wsX20 ++ wsX10)
def wsX2_isBit : List Cond := .code yX2_isBit cX2_isBit 2 (some .boolean) :: ([.fieldLink RX2 10 "BitStreams" "rows" "LBitStreams$Rows;", .methodLink RX2 89 yX2_isWithin, .static yX2_isWithin, .initialized RX2, .code yX2_isWithin cX2_isWithin 3 (some .boolean)] ++ wsX20 ++ wsX10)
def wsX2_bitOf : List Cond := .code yX2_bitOf cX2_bitOf 3 (some .int) :: ([])
def wsX2_put : List Cond := .code yX2_put cX2_put 7 (some .int) :: ([.fieldLink RX2 23 "BitStreams" "streams" "[J", .constantLong RX2 81 (-1), .methodLink RX2 56 yX2_isStream, .static yX2_isStream, .initialized RX2, .code yX2_isStream cX2_isStream 1 (some .boolean), .methodLink RX2 89 yX2_isWithin, .static yX2_isWithin, .code yX2_isWithin cX2_isWithin 3 (some .boolean), .methodLink RX2 74 yX2_isBit, .instanceMethod yX2_isBit, .selects RX2 yX2_isBit yX2_isBit, .code yX2_isBit cX2_isBit 2 (some .boolean), .fieldLink RX2 10 "BitStreams" "rows" "LBitStreams$Rows;", .methodLink RX2 77 yX2_bitOf, .static yX2_bitOf, .code yX2_bitOf cX2_bitOf 3 (some .int)] ++ wsX20 ++ wsX10)
def wsX2_bit : List Cond := .code yX2_bit cX2_bit 3 (some .int) :: ([.fieldLink RX2 23 "BitStreams" "streams" "[J", .methodLink RX2 56 yX2_isStream, .static yX2_isStream, .initialized RX2, .code yX2_isStream cX2_isStream 1 (some .boolean), .methodLink RX2 89 yX2_isWithin, .static yX2_isWithin, .code yX2_isWithin cX2_isWithin 3 (some .boolean), .methodLink RX2 74 yX2_isBit, .instanceMethod yX2_isBit, .selects RX2 yX2_isBit yX2_isBit, .code yX2_isBit cX2_isBit 2 (some .boolean), .fieldLink RX2 10 "BitStreams" "rows" "LBitStreams$Rows;", .methodLink RX2 77 yX2_bitOf, .static yX2_bitOf, .code yX2_bitOf cX2_bitOf 3 (some .int)] ++ wsX20 ++ wsX10)
def wsX2_ones : List Cond := .code yX2_ones cX2_ones 2 (some .int) :: ([.fieldLink RX2 23 "BitStreams" "streams" "[J", .methodLink RX2 56 yX2_isStream, .static yX2_isStream, .initialized RX2, .code yX2_isStream cX2_isStream 1 (some .boolean), .methodLink RX2 89 yX2_isWithin, .static yX2_isWithin, .code yX2_isWithin cX2_isWithin 3 (some .boolean), .methodLink RX2 83 yJ13_bitCount_95d88, .static yJ13_bitCount_95d88, .initialized RJ13, .code yJ13_bitCount_95d88 cJ13_bitCount_95d88 2 (some .int), .constantLong RJ13 314 (6148914691236517205), .constantLong RJ13 316 (3689348814741910323), .constantLong RJ13 318 (1085102592571150095)] ++ wsX20)
def wsX2_gated : List Cond := .code yX2_gated cX2_gated 7 (some .long) :: ([.constantLong RX2 81 (-1)])
def wsX2_gate_r1 : List Cond := [Cond.fieldLink RX2 23 "BitStreams" "streams" "[J", Cond.methodLink RX2 89 yX2_isWithin, Cond.static yX2_isWithin, Cond.initialized RX2, Cond.code yX2_isWithin cX2_isWithin 3 (some .boolean), Cond.methodLink RX2 56 yX2_isStream, Cond.static yX2_isStream, Cond.code yX2_isStream cX2_isStream 1 (some .boolean), Cond.methodLink RX2 93 yX2_gated, Cond.static yX2_gated, Cond.code yX2_gated cX2_gated 7 (some .long), Cond.constantLong RX2 81 (-1), Cond.methodLink RX2 70 yX2_setStream, Cond.instanceMethod yX2_setStream, Cond.selects RX2 yX2_setStream yX2_setStream, Cond.code yX2_setStream cX2_setStream 4 (some .int), Cond.fieldLink RX2 10 "BitStreams" "rows" "LBitStreams$Rows;", Cond.methodLink RX2 101 yX2_lowBits, Cond.static yX2_lowBits, Cond.code yX2_lowBits cX2_lowBits 1 (some .long), Cond.methodLink RX2 83 yJ13_bitCount_95d88, Cond.static yJ13_bitCount_95d88, Cond.initialized RJ13, Cond.code yJ13_bitCount_95d88 cJ13_bitCount_95d88 2 (some .int)]
def wsX2_gate_r2 : List Cond := [Cond.constantLong RJ13 314 (6148914691236517205), Cond.constantLong RJ13 316 (3689348814741910323), Cond.constantLong RJ13 318 (1085102592571150095)]
def wsX2_gate : List Cond := .code yX2_gate cX2_gate 6 (some .int) :: ((wsX2_gate_r1 ++ wsX2_gate_r2) ++ wsX20 ++ wsX10)
def wsX2_not : List Cond := .code yX2_not cX2_not 3 (some .int) :: ([.fieldLink RX2 23 "BitStreams" "streams" "[J", .constantLong RX2 81 (-1), .methodLink RX2 56 yX2_isStream, .static yX2_isStream, .initialized RX2, .code yX2_isStream cX2_isStream 1 (some .boolean), .methodLink RX2 89 yX2_isWithin, .static yX2_isWithin, .code yX2_isWithin cX2_isWithin 3 (some .boolean), .methodLink RX2 70 yX2_setStream, .instanceMethod yX2_setStream, .selects RX2 yX2_setStream yX2_setStream, .code yX2_setStream cX2_setStream 4 (some .int), .fieldLink RX2 10 "BitStreams" "rows" "LBitStreams$Rows;", .methodLink RX2 101 yX2_lowBits, .static yX2_lowBits, .code yX2_lowBits cX2_lowBits 1 (some .long), .methodLink RX2 83 yJ13_bitCount_95d88, .static yJ13_bitCount_95d88, .initialized RJ13, .code yJ13_bitCount_95d88 cJ13_bitCount_95d88 2 (some .int), .constantLong RJ13 314 (6148914691236517205), .constantLong RJ13 316 (3689348814741910323), .constantLong RJ13 318 (1085102592571150095)] ++ wsX20 ++ wsX10)
def wsX2_later_r1 : List Cond := [Cond.fieldLink RX2 10 "BitStreams" "rows" "LBitStreams$Rows;", Cond.fieldLink RX2 23 "BitStreams" "streams" "[J", Cond.methodLink RX2 56 yX2_isStream, Cond.static yX2_isStream, Cond.initialized RX2, Cond.code yX2_isStream cX2_isStream 1 (some .boolean), Cond.methodLink RX2 89 yX2_isWithin, Cond.static yX2_isWithin, Cond.code yX2_isWithin cX2_isWithin 3 (some .boolean), Cond.instanceMethod yX1_shifted, Cond.initialized RX1, Cond.selects RX1 yX1_shifted yX1_shifted, Cond.code yX1_shifted cX1_shifted 5 (some .long), Cond.fieldLink RX1 9 "BitStreams$Rows" "length" "I", Cond.methodLink RX1 24 yX1_round, Cond.instanceMethod yX1_round, Cond.selects RX1 yX1_round yX1_round, Cond.code yX1_round cX1_round 2 (some .int), Cond.static yX2_lowBits, Cond.code yX2_lowBits cX2_lowBits 1 (some .long), Cond.constantLong RX2 81 (-1), Cond.methodLink RX2 70 yX2_setStream, Cond.instanceMethod yX2_setStream, Cond.selects RX2 yX2_setStream yX2_setStream]
def wsX2_later_r2 : List Cond := [Cond.code yX2_setStream cX2_setStream 4 (some .int), Cond.methodLink RX2 101 yX2_lowBits, Cond.methodLink RX2 83 yJ13_bitCount_95d88, Cond.static yJ13_bitCount_95d88, Cond.initialized RJ13, Cond.code yJ13_bitCount_95d88 cJ13_bitCount_95d88 2 (some .int), Cond.constantLong RJ13 314 (6148914691236517205), Cond.constantLong RJ13 316 (3689348814741910323), Cond.constantLong RJ13 318 (1085102592571150095)]
def wsX2_later : List Cond := .code yX2_later cX2_later 4 (some .int) :: ((wsX2_later_r1 ++ wsX2_later_r2) ++ wsX20 ++ wsX10)
def wsX2_flip : List Cond := .code yX2_flip cX2_flip 7 (some .int) :: ([.fieldLink RX2 10 "BitStreams" "rows" "LBitStreams$Rows;", .fieldLink RX2 23 "BitStreams" "streams" "[J", .methodLink RX2 56 yX2_isStream, .static yX2_isStream, .initialized RX2, .code yX2_isStream cX2_isStream 1 (some .boolean), .methodLink RX2 89 yX2_isWithin, .static yX2_isWithin, .code yX2_isWithin cX2_isWithin 3 (some .boolean), .methodLink RX2 101 yX2_lowBits, .static yX2_lowBits, .code yX2_lowBits cX2_lowBits 1 (some .long), .constantLong RX2 81 (-1), .methodLink RX2 83 yJ13_bitCount_95d88, .static yJ13_bitCount_95d88, .initialized RJ13, .code yJ13_bitCount_95d88 cJ13_bitCount_95d88 2 (some .int), .constantLong RJ13 314 (6148914691236517205), .constantLong RJ13 316 (3689348814741910323), .constantLong RJ13 318 (1085102592571150095)] ++ wsX20 ++ wsX10)
def wsX2_onesOfSort : List Cond := .code yX2_onesOfSort cX2_onesOfSort 10 (some .int) :: ([.constantLong RX2 81 (-1), .fieldLink RX2 10 "BitStreams" "rows" "LBitStreams$Rows;", .methodLink RX2 101 yX2_lowBits, .static yX2_lowBits, .initialized RX2, .code yX2_lowBits cX2_lowBits 1 (some .long), .methodLink RX2 83 yJ13_bitCount_95d88, .static yJ13_bitCount_95d88, .initialized RJ13, .code yJ13_bitCount_95d88 cJ13_bitCount_95d88 2 (some .int), .constantLong RJ13 314 (6148914691236517205), .constantLong RJ13 316 (3689348814741910323), .constantLong RJ13 318 (1085102592571150095)] ++ wsX20 ++ wsX10)
def wsX2_both : List Cond := .code yX2_both cX2_both 4 (some .int) :: ([.fieldLink RX2 23 "BitStreams" "streams" "[J", .methodLink RX2 56 yX2_isStream, .static yX2_isStream, .initialized RX2, .code yX2_isStream cX2_isStream 1 (some .boolean), .methodLink RX2 89 yX2_isWithin, .static yX2_isWithin, .code yX2_isWithin cX2_isWithin 3 (some .boolean), .methodLink RX2 105 yX2_onesOfSort, .instanceMethod yX2_onesOfSort, .selects RX2 yX2_onesOfSort yX2_onesOfSort, .code yX2_onesOfSort cX2_onesOfSort 10 (some .int), .constantLong RX2 81 (-1), .fieldLink RX2 10 "BitStreams" "rows" "LBitStreams$Rows;", .methodLink RX2 101 yX2_lowBits, .static yX2_lowBits, .code yX2_lowBits cX2_lowBits 1 (some .long), .methodLink RX2 83 yJ13_bitCount_95d88, .static yJ13_bitCount_95d88, .initialized RJ13, .code yJ13_bitCount_95d88 cJ13_bitCount_95d88 2 (some .int), .constantLong RJ13 314 (6148914691236517205), .constantLong RJ13 316 (3689348814741910323), .constantLong RJ13 318 (1085102592571150095)] ++ wsX20 ++ wsX10)
def wsX2_together_r1 : List Cond := [Cond.constant RX2 109 (-100000), Cond.fieldLink RX2 23 "BitStreams" "streams" "[J", Cond.fieldLink RX2 10 "BitStreams" "rows" "LBitStreams$Rows;", Cond.methodLink RX2 110 Lib.Math.min.name, Cond.static Lib.Math.min.name, Cond.initialized "java/lang/Math", Cond.code Lib.Math.min.name Lib.Math.min.code 2 (some .int), Cond.methodLink RX2 116 Lib.Math.max.name, Cond.static Lib.Math.max.name, Cond.code Lib.Math.max.name Lib.Math.max.code 2 (some .int), Cond.methodLink RX2 56 yX2_isStream, Cond.static yX2_isStream, Cond.initialized RX2, Cond.code yX2_isStream cX2_isStream 1 (some .boolean), Cond.methodLink RX2 89 yX2_isWithin, Cond.static yX2_isWithin, Cond.code yX2_isWithin cX2_isWithin 3 (some .boolean), Cond.methodLink RX2 105 yX2_onesOfSort, Cond.instanceMethod yX2_onesOfSort, Cond.selects RX2 yX2_onesOfSort yX2_onesOfSort, Cond.code yX2_onesOfSort cX2_onesOfSort 10 (some .int), Cond.constantLong RX2 81 (-1), Cond.methodLink RX2 101 yX2_lowBits, Cond.static yX2_lowBits]
def wsX2_together_r2 : List Cond := [Cond.code yX2_lowBits cX2_lowBits 1 (some .long), Cond.methodLink RX2 83 yJ13_bitCount_95d88, Cond.static yJ13_bitCount_95d88, Cond.initialized RJ13, Cond.code yJ13_bitCount_95d88 cJ13_bitCount_95d88 2 (some .int), Cond.constantLong RJ13 314 (6148914691236517205), Cond.constantLong RJ13 316 (3689348814741910323), Cond.constantLong RJ13 318 (1085102592571150095)]
def wsX2_together : List Cond := .code yX2_together cX2_together 10 (some .int) :: ((wsX2_together_r1 ++ wsX2_together_r2) ++ wsX20 ++ wsX10)
def wsX2_dueOnes : List Cond := .code yX2_dueOnes cX2_dueOnes 5 (some .int) :: ([.fieldLink RX2 10 "BitStreams" "rows" "LBitStreams$Rows;"] ++ wsX20 ++ wsX10)
def wsX2_greatestMiss_r1 : List Cond := [Cond.fieldLink RX2 10 "BitStreams" "rows" "LBitStreams$Rows;", Cond.fieldLink RX2 27 "BitStreams" "firstRows" "[J", Cond.fieldLink RX2 30 "BitStreams" "secondRows" "[J", Cond.methodLink RX2 182 Lib.Math.abs.name, Cond.static Lib.Math.abs.name, Cond.initialized "java/lang/Math", Cond.code Lib.Math.abs.name Lib.Math.abs.code 1 (some .int), Cond.fieldLink RX2 43 "BitStreams" "missV" "I", Cond.fieldLink RX2 46 "BitStreams" "missW" "I", Cond.methodLink RX2 101 yX2_lowBits, Cond.static yX2_lowBits, Cond.initialized RX2, Cond.code yX2_lowBits cX2_lowBits 1 (some .long), Cond.constantLong RX2 81 (-1), Cond.methodLink RX2 93 yX2_gated, Cond.static yX2_gated, Cond.code yX2_gated cX2_gated 7 (some .long), Cond.methodLink RX2 83 yJ13_bitCount_95d88, Cond.static yJ13_bitCount_95d88, Cond.initialized RJ13, Cond.code yJ13_bitCount_95d88 cJ13_bitCount_95d88 2 (some .int), Cond.constantLong RJ13 314 (6148914691236517205), Cond.constantLong RJ13 316 (3689348814741910323), Cond.constantLong RJ13 318 (1085102592571150095)]
def wsX2_greatestMiss_r2 : List Cond := [Cond.methodLink RX2 178 yX2_dueOnes, Cond.instanceMethod yX2_dueOnes, Cond.selects RX2 yX2_dueOnes yX2_dueOnes, Cond.code yX2_dueOnes cX2_dueOnes 5 (some .int)]
def wsX2_greatestMiss : List Cond := .code yX2_greatestMiss cX2_greatestMiss 11 (some .int) :: ((wsX2_greatestMiss_r1 ++ wsX2_greatestMiss_r2) ++ wsX20 ++ wsX10)
def wsX2_miss_r1 : List Cond := [Cond.fieldLink RX2 40 "BitStreams" "misses" "I", Cond.fieldLink RX2 10 "BitStreams" "rows" "LBitStreams$Rows;", Cond.fieldLink RX2 27 "BitStreams" "firstRows" "[J", Cond.fieldLink RX2 30 "BitStreams" "secondRows" "[J", Cond.methodLink RX2 89 yX2_isWithin, Cond.static yX2_isWithin, Cond.initialized RX2, Cond.code yX2_isWithin cX2_isWithin 3 (some .boolean), Cond.methodLink RX2 60 yX2_isSource, Cond.static yX2_isSource, Cond.code yX2_isSource cX2_isSource 1 (some .boolean), Cond.instanceMethod yX1_ofSource, Cond.initialized RX1, Cond.selects RX1 yX1_ofSource yX1_ofSource, Cond.code yX1_ofSource cX1_ofSource 3 (some .long), Cond.static yX2_lowBits, Cond.code yX2_lowBits cX2_lowBits 1 (some .long), Cond.constantLong RX2 81 (-1), Cond.methodLink RX1 31 yX1_turnedRow, Cond.instanceMethod yX1_turnedRow, Cond.selects RX1 yX1_turnedRow yX1_turnedRow, Cond.code yX1_turnedRow cX1_turnedRow 5 (some .long), Cond.methodLink RX1 40 yX1_turned, Cond.instanceMethod yX1_turned]
def wsX2_miss_r2 : List Cond := [Cond.selects RX1 yX1_turned yX1_turned, Cond.code yX1_turned cX1_turned 4 (some .int), Cond.fieldLink RX1 21 "BitStreams$Rows" "figures" "I", Cond.methodLink RX1 34 yX1_spreadRow, Cond.instanceMethod yX1_spreadRow, Cond.selects RX1 yX1_spreadRow yX1_spreadRow, Cond.code yX1_spreadRow cX1_spreadRow 5 (some .long), Cond.fieldLink RX1 9 "BitStreams$Rows" "length" "I", Cond.methodLink RX1 37 yX1_registerRow, Cond.instanceMethod yX1_registerRow, Cond.selects RX1 yX1_registerRow yX1_registerRow, Cond.code yX1_registerRow cX1_registerRow 7 (some .long), Cond.methodLink RX1 43 yX1_tapsOfLength, Cond.instanceMethod yX1_tapsOfLength, Cond.selects RX1 yX1_tapsOfLength yX1_tapsOfLength, Cond.code yX1_tapsOfLength cX1_tapsOfLength 1 (some .int), Cond.instanceMethod yX1_shifted, Cond.selects RX1 yX1_shifted yX1_shifted, Cond.code yX1_shifted cX1_shifted 5 (some .long), Cond.methodLink RX1 24 yX1_round, Cond.instanceMethod yX1_round, Cond.selects RX1 yX1_round yX1_round, Cond.code yX1_round cX1_round 2 (some .int), Cond.methodLink RX2 119 yX2_greatestMiss]
def wsX2_miss_r3 : List Cond := [Cond.instanceMethod yX2_greatestMiss, Cond.selects RX2 yX2_greatestMiss yX2_greatestMiss, Cond.code yX2_greatestMiss cX2_greatestMiss 11 (some .int), Cond.methodLink RX2 182 Lib.Math.abs.name, Cond.static Lib.Math.abs.name, Cond.initialized "java/lang/Math", Cond.code Lib.Math.abs.name Lib.Math.abs.code 1 (some .int), Cond.fieldLink RX2 43 "BitStreams" "missV" "I", Cond.fieldLink RX2 46 "BitStreams" "missW" "I", Cond.methodLink RX2 101 yX2_lowBits, Cond.methodLink RX2 93 yX2_gated, Cond.static yX2_gated, Cond.code yX2_gated cX2_gated 7 (some .long), Cond.methodLink RX2 83 yJ13_bitCount_95d88, Cond.static yJ13_bitCount_95d88, Cond.initialized RJ13, Cond.code yJ13_bitCount_95d88 cJ13_bitCount_95d88 2 (some .int), Cond.constantLong RJ13 314 (6148914691236517205), Cond.constantLong RJ13 316 (3689348814741910323), Cond.constantLong RJ13 318 (1085102592571150095), Cond.methodLink RX2 178 yX2_dueOnes, Cond.instanceMethod yX2_dueOnes, Cond.selects RX2 yX2_dueOnes yX2_dueOnes, Cond.code yX2_dueOnes cX2_dueOnes 5 (some .int)]
def wsX2_miss : List Cond := .code yX2_miss cX2_miss 6 (some .int) :: ((wsX2_miss_r1 ++ (wsX2_miss_r2 ++ wsX2_miss_r3)) ++ wsX20 ++ wsX10)
def wsX2_where : List Cond := .code yX2_where cX2_where 2 (some .int) :: ([.fieldLink RX2 40 "BitStreams" "misses" "I", .fieldLink RX2 43 "BitStreams" "missV" "I", .fieldLink RX2 46 "BitStreams" "missW" "I", .methodLink RX2 89 yX2_isWithin, .static yX2_isWithin, .initialized RX2, .code yX2_isWithin cX2_isWithin 3 (some .boolean)] ++ wsX20)
def wsX2_isMachine : List Cond := .code yX2_isMachine cX2_isMachine 1 (some .boolean) :: ([.methodLink RX2 89 yX2_isWithin, .static yX2_isWithin, .initialized RX2, .code yX2_isWithin cX2_isWithin 3 (some .boolean)])
def wsX2_isUpper : List Cond := .code yX2_isUpper cX2_isUpper 2 (some .boolean) :: ([])
def wsX2_ranThrough : List Cond := .code yX2_ranThrough cX2_ranThrough 8 (some .long) :: ([.fieldLink RX2 10 "BitStreams" "rows" "LBitStreams$Rows;", .methodLink RX2 110 Lib.Math.min.name, .static Lib.Math.min.name, .initialized "java/lang/Math", .code Lib.Math.min.name Lib.Math.min.code 2 (some .int), .methodLink RX2 116 Lib.Math.max.name, .static Lib.Math.max.name, .code Lib.Math.max.name Lib.Math.max.code 2 (some .int), .fieldLink RX2 36 "BitStreams" "machineState" "I", .methodLink RX2 77 yX2_bitOf, .static yX2_bitOf, .initialized RX2, .code yX2_bitOf cX2_bitOf 3 (some .int), .methodLink RX2 134 yX2_isUpper, .static yX2_isUpper, .code yX2_isUpper cX2_isUpper 2 (some .boolean)] ++ wsX20 ++ wsX10)
def wsX2_machine_r1 : List Cond := [Cond.fieldLink RX2 23 "BitStreams" "streams" "[J", Cond.methodLink RX2 56 yX2_isStream, Cond.static yX2_isStream, Cond.initialized RX2, Cond.code yX2_isStream cX2_isStream 1 (some .boolean), Cond.methodLink RX2 89 yX2_isWithin, Cond.static yX2_isWithin, Cond.code yX2_isWithin cX2_isWithin 3 (some .boolean), Cond.methodLink RX2 123 yX2_isMachine, Cond.static yX2_isMachine, Cond.code yX2_isMachine cX2_isMachine 1 (some .boolean), Cond.methodLink RX2 126 yX2_ranThrough, Cond.instanceMethod yX2_ranThrough, Cond.selects RX2 yX2_ranThrough yX2_ranThrough, Cond.code yX2_ranThrough cX2_ranThrough 8 (some .long), Cond.fieldLink RX2 10 "BitStreams" "rows" "LBitStreams$Rows;", Cond.methodLink RX2 110 Lib.Math.min.name, Cond.static Lib.Math.min.name, Cond.initialized "java/lang/Math", Cond.code Lib.Math.min.name Lib.Math.min.code 2 (some .int), Cond.methodLink RX2 116 Lib.Math.max.name, Cond.static Lib.Math.max.name, Cond.code Lib.Math.max.name Lib.Math.max.code 2 (some .int), Cond.fieldLink RX2 36 "BitStreams" "machineState" "I"]
def wsX2_machine_r2 : List Cond := [Cond.methodLink RX2 77 yX2_bitOf, Cond.static yX2_bitOf, Cond.code yX2_bitOf cX2_bitOf 3 (some .int), Cond.methodLink RX2 134 yX2_isUpper, Cond.static yX2_isUpper, Cond.code yX2_isUpper cX2_isUpper 2 (some .boolean), Cond.methodLink RX2 70 yX2_setStream, Cond.instanceMethod yX2_setStream, Cond.selects RX2 yX2_setStream yX2_setStream, Cond.code yX2_setStream cX2_setStream 4 (some .int), Cond.methodLink RX2 101 yX2_lowBits, Cond.static yX2_lowBits, Cond.code yX2_lowBits cX2_lowBits 1 (some .long), Cond.constantLong RX2 81 (-1), Cond.methodLink RX2 83 yJ13_bitCount_95d88, Cond.static yJ13_bitCount_95d88, Cond.initialized RJ13, Cond.code yJ13_bitCount_95d88 cJ13_bitCount_95d88 2 (some .int), Cond.constantLong RJ13 314 (6148914691236517205), Cond.constantLong RJ13 316 (3689348814741910323), Cond.constantLong RJ13 318 (1085102592571150095)]
def wsX2_machine : List Cond := .code yX2_machine cX2_machine 4 (some .int) :: ((wsX2_machine_r1 ++ wsX2_machine_r2) ++ wsX20 ++ wsX10)
def wsX2_state : List Cond := .code yX2_state cX2_state 1 (some .int) :: ([.fieldLink RX2 36 "BitStreams" "machineState" "I"] ++ wsX20)
def wsX2_commonDivisor : List Cond := .code yX2_commonDivisor cX2_commonDivisor 7 (some .long) :: ([.methodLink RX2 198 Lib.MathLoose.max_long.x, .static Lib.MathLoose.max_long.x, .initialized "java/lang/Math", .code Lib.MathLoose.max_long.x Lib.MathLoose.max_long.code 4 (some .long)])
def wsX2_inLowestTerms : List Cond := .code yX2_inLowestTerms cX2_inLowestTerms 7 (some .long) :: ([.methodLink RX2 191 Lib.MathLoose.abs_long.x, .static Lib.MathLoose.abs_long.x, .initialized "java/lang/Math", .code Lib.MathLoose.abs_long.x Lib.MathLoose.abs_long.code 2 (some .long), .methodLink RX2 194 yX2_commonDivisor, .static yX2_commonDivisor, .initialized RX2, .code yX2_commonDivisor cX2_commonDivisor 7 (some .long), .methodLink RX2 198 Lib.MathLoose.max_long.x, .static Lib.MathLoose.max_long.x, .code Lib.MathLoose.max_long.x Lib.MathLoose.max_long.code 4 (some .long)])
def wsX2_ever_r1 : List Cond := [Cond.constantLong RX2 129 (-102), Cond.fieldLink RX2 10 "BitStreams" "rows" "LBitStreams$Rows;", Cond.methodLink RX2 123 yX2_isMachine, Cond.static yX2_isMachine, Cond.initialized RX2, Cond.code yX2_isMachine cX2_isMachine 1 (some .boolean), Cond.methodLink RX2 89 yX2_isWithin, Cond.static yX2_isWithin, Cond.code yX2_isWithin cX2_isWithin 3 (some .boolean), Cond.methodLink RX2 63 yX2_isValue, Cond.instanceMethod yX2_isValue, Cond.selects RX2 yX2_isValue yX2_isValue, Cond.code yX2_isValue cX2_isValue 2 (some .boolean), Cond.methodLink RX2 131 yX2_power, Cond.static yX2_power, Cond.code yX2_power cX2_power 6 (some .long), Cond.methodLink RX2 134 yX2_isUpper, Cond.static yX2_isUpper, Cond.code yX2_isUpper cX2_isUpper 2 (some .boolean), Cond.methodLink RX2 138 yX2_inLowestTerms, Cond.static yX2_inLowestTerms, Cond.code yX2_inLowestTerms cX2_inLowestTerms 7 (some .long), Cond.methodLink RX2 191 Lib.MathLoose.abs_long.x, Cond.static Lib.MathLoose.abs_long.x]
def wsX2_ever_r2 : List Cond := [Cond.initialized "java/lang/Math", Cond.code Lib.MathLoose.abs_long.x Lib.MathLoose.abs_long.code 2 (some .long), Cond.methodLink RX2 194 yX2_commonDivisor, Cond.static yX2_commonDivisor, Cond.code yX2_commonDivisor cX2_commonDivisor 7 (some .long), Cond.methodLink RX2 198 Lib.MathLoose.max_long.x, Cond.static Lib.MathLoose.max_long.x, Cond.code Lib.MathLoose.max_long.x Lib.MathLoose.max_long.code 4 (some .long)]
def wsX2_ever : List Cond := .code yX2_ever cX2_ever 11 (some .long) :: ((wsX2_ever_r1 ++ wsX2_ever_r2) ++ wsX20 ++ wsX10)
def wsX2_degree : List Cond := .code yX2_degree cX2_degree 3 (some .int) :: ([.fieldLink RX2 19 "BitStreams" "form" "LBitStreams$Form;", .methodLink RX2 89 yX2_isWithin, .static yX2_isWithin, .initialized RX2, .code yX2_isWithin cX2_isWithin 3 (some .boolean), .instanceMethod yX0_setDegree, .initialized RX0, .selects RX0 yX0_setDegree yX0_setDegree, .code yX0_setDegree cX0_setDegree 4 none, .fieldLink RX0 15 "BitStreams$Form" "degree" "I", .fieldLink RX0 19 "BitStreams$Form" "scale" "I", .fieldLink RX0 9 "BitStreams$Form" "numbers" "[I"] ++ wsX20 ++ wsX00)
def wsX2_term : List Cond := .code yX2_term cX2_term 4 (some .int) :: ([.fieldLink RX2 19 "BitStreams" "form" "LBitStreams$Form;", .methodLink RX2 89 yX2_isWithin, .static yX2_isWithin, .initialized RX2, .code yX2_isWithin cX2_isWithin 3 (some .boolean)] ++ wsX20 ++ wsX00)
def wsX2_part_r1 : List Cond := [Cond.fieldLink RX2 19 "BitStreams" "form" "LBitStreams$Form;", Cond.constantLong RX2 129 (-102), Cond.constantLong RX2 153 (-101), Cond.methodLink RX2 89 yX2_isWithin, Cond.static yX2_isWithin, Cond.initialized RX2, Cond.code yX2_isWithin cX2_isWithin 3 (some .boolean), Cond.instanceMethod yX0_partAbove, Cond.initialized RX0, Cond.selects RX0 yX0_partAbove yX0_partAbove, Cond.code yX0_partAbove cX0_partAbove 6 (some .long), Cond.fieldLink RX0 15 "BitStreams$Form" "degree" "I", Cond.fieldLink RX0 9 "BitStreams$Form" "numbers" "[I", Cond.methodLink RX0 26 yX0_ways, Cond.static yX0_ways, Cond.code yX0_ways cX0_ways 5 (some .long), Cond.methodLink RX0 22 yX0_waysBut, Cond.instanceMethod yX0_waysBut, Cond.selects RX0 yX0_waysBut yX0_waysBut, Cond.code yX0_waysBut cX0_waysBut 6 (some .long), Cond.instanceMethod yX0_partBelow, Cond.selects RX0 yX0_partBelow yX0_partBelow, Cond.code yX0_partBelow cX0_partBelow 2 (some .long), Cond.fieldLink RX0 19 "BitStreams$Form" "scale" "I"]
def wsX2_part_r2 : List Cond := [Cond.methodLink RX2 138 yX2_inLowestTerms, Cond.static yX2_inLowestTerms, Cond.code yX2_inLowestTerms cX2_inLowestTerms 7 (some .long), Cond.methodLink RX2 191 Lib.MathLoose.abs_long.x, Cond.static Lib.MathLoose.abs_long.x, Cond.initialized "java/lang/Math", Cond.code Lib.MathLoose.abs_long.x Lib.MathLoose.abs_long.code 2 (some .long), Cond.methodLink RX2 194 yX2_commonDivisor, Cond.static yX2_commonDivisor, Cond.code yX2_commonDivisor cX2_commonDivisor 7 (some .long), Cond.methodLink RX2 198 Lib.MathLoose.max_long.x, Cond.static Lib.MathLoose.max_long.x, Cond.code Lib.MathLoose.max_long.x Lib.MathLoose.max_long.code 4 (some .long)]
def wsX2_part : List Cond := .code yX2_part cX2_part 4 (some .long) :: ((wsX2_part_r1 ++ wsX2_part_r2) ++ wsX20 ++ wsX00)
def wsX2_least : List Cond := .code yX2_least cX2_least 2 (some .int) :: ([.fieldLink RX2 19 "BitStreams" "form" "LBitStreams$Form;", .instanceMethod yX0_mayBeMade, .initialized RX0, .selects RX0 yX0_mayBeMade yX0_mayBeMade, .code yX0_mayBeMade cX0_mayBeMade 7 (some .boolean), .methodLink RX0 29 yX0_partBelow, .instanceMethod yX0_partBelow, .selects RX0 yX0_partBelow yX0_partBelow, .code yX0_partBelow cX0_partBelow 2 (some .long), .fieldLink RX0 19 "BitStreams$Form" "scale" "I", .methodLink RX0 22 yX0_waysBut, .instanceMethod yX0_waysBut, .selects RX0 yX0_waysBut yX0_waysBut, .code yX0_waysBut cX0_waysBut 6 (some .long), .fieldLink RX0 15 "BitStreams$Form" "degree" "I", .methodLink RX0 26 yX0_ways, .static yX0_ways, .code yX0_ways cX0_ways 5 (some .long), .methodLink RX0 33 yX0_partAbove, .instanceMethod yX0_partAbove, .selects RX0 yX0_partAbove yX0_partAbove, .code yX0_partAbove cX0_partAbove 6 (some .long), .fieldLink RX0 9 "BitStreams$Form" "numbers" "[I"] ++ wsX20 ++ wsX00)
def wsX2_at_r1 : List Cond := [Cond.constant RX2 164 (-1000000000), Cond.fieldLink RX2 19 "BitStreams" "form" "LBitStreams$Form;", Cond.fieldLink RX2 10 "BitStreams" "rows" "LBitStreams$Rows;", Cond.methodLink RX2 63 yX2_isValue, Cond.instanceMethod yX2_isValue, Cond.selects RX2 yX2_isValue yX2_isValue, Cond.initialized RX2, Cond.code yX2_isValue cX2_isValue 2 (some .boolean), Cond.methodLink RX2 89 yX2_isWithin, Cond.static yX2_isWithin, Cond.code yX2_isWithin cX2_isWithin 3 (some .boolean), Cond.instanceMethod yX0_thousandthsAt, Cond.initialized RX0, Cond.selects RX0 yX0_thousandthsAt yX0_thousandthsAt, Cond.code yX0_thousandthsAt cX0_thousandthsAt 7 (some .int), Cond.fieldLink RX0 15 "BitStreams$Form" "degree" "I", Cond.fieldLink RX0 9 "BitStreams$Form" "numbers" "[I", Cond.fieldLink RX0 19 "BitStreams$Form" "scale" "I", Cond.methodLink RX0 40 Lib.MathLoose.max_long.x, Cond.static Lib.MathLoose.max_long.x, Cond.initialized "java/lang/Math", Cond.code Lib.MathLoose.max_long.x Lib.MathLoose.max_long.code 4 (some .long), Cond.constantLong RX0 46 (1000), Cond.static yX2_power]
def wsX2_at_r2 : List Cond := [Cond.code yX2_power cX2_power 6 (some .long), Cond.methodLink RX0 48 yJ9_floorDiv_f86c9, Cond.static yJ9_floorDiv_f86c9, Cond.initialized RJ9, Cond.code yJ9_floorDiv_f86c9 cJ9_floorDiv_f86c9 6 (some .long)]
def wsX2_at : List Cond := .code yX2_at cX2_at 2 (some .int) :: ((wsX2_at_r1 ++ wsX2_at_r2) ++ wsX20 ++ wsX10 ++ wsX00)
def wsX2_formed_r1 : List Cond := [Cond.fieldLink RX2 19 "BitStreams" "form" "LBitStreams$Form;", Cond.fieldLink RX2 10 "BitStreams" "rows" "LBitStreams$Rows;", Cond.fieldLink RX2 33 "BitStreams" "parts" "[J", Cond.instanceMethod yX0_partBelow, Cond.initialized RX0, Cond.selects RX0 yX0_partBelow yX0_partBelow, Cond.code yX0_partBelow cX0_partBelow 2 (some .long), Cond.fieldLink RX0 19 "BitStreams$Form" "scale" "I", Cond.methodLink RX0 22 yX0_waysBut, Cond.instanceMethod yX0_waysBut, Cond.selects RX0 yX0_waysBut yX0_waysBut, Cond.code yX0_waysBut cX0_waysBut 6 (some .long), Cond.fieldLink RX0 15 "BitStreams$Form" "degree" "I", Cond.methodLink RX0 26 yX0_ways, Cond.static yX0_ways, Cond.code yX0_ways cX0_ways 5 (some .long), Cond.instanceMethod yX1_round, Cond.initialized RX1, Cond.selects RX1 yX1_round yX1_round, Cond.code yX1_round cX1_round 2 (some .int), Cond.fieldLink RX1 9 "BitStreams$Rows" "length" "I", Cond.methodLink RX2 77 yX2_bitOf, Cond.static yX2_bitOf, Cond.initialized RX2]
def wsX2_formed_r2 : List Cond := [Cond.code yX2_bitOf cX2_bitOf 3 (some .int), Cond.instanceMethod yX1_turned, Cond.selects RX1 yX1_turned yX1_turned, Cond.code yX1_turned cX1_turned 4 (some .int), Cond.fieldLink RX1 21 "BitStreams$Rows" "figures" "I"]
def wsX2_formed : List Cond := .code yX2_formed cX2_formed 11 (some .long) :: ((wsX2_formed_r1 ++ wsX2_formed_r2) ++ wsX20 ++ wsX10 ++ wsX00)
def wsX2_make_r1 : List Cond := [Cond.fieldLink RX2 19 "BitStreams" "form" "LBitStreams$Form;", Cond.fieldLink RX2 33 "BitStreams" "parts" "[J", Cond.fieldLink RX2 10 "BitStreams" "rows" "LBitStreams$Rows;", Cond.methodLink RX2 56 yX2_isStream, Cond.static yX2_isStream, Cond.initialized RX2, Cond.code yX2_isStream cX2_isStream 1 (some .boolean), Cond.methodLink RX2 89 yX2_isWithin, Cond.static yX2_isWithin, Cond.code yX2_isWithin cX2_isWithin 3 (some .boolean), Cond.methodLink RX2 60 yX2_isSource, Cond.static yX2_isSource, Cond.code yX2_isSource cX2_isSource 1 (some .boolean), Cond.methodLink RX2 63 yX2_isValue, Cond.instanceMethod yX2_isValue, Cond.selects RX2 yX2_isValue yX2_isValue, Cond.code yX2_isValue cX2_isValue 2 (some .boolean), Cond.instanceMethod yX0_mayBeMade, Cond.initialized RX0, Cond.selects RX0 yX0_mayBeMade yX0_mayBeMade, Cond.code yX0_mayBeMade cX0_mayBeMade 7 (some .boolean), Cond.methodLink RX0 29 yX0_partBelow, Cond.instanceMethod yX0_partBelow, Cond.selects RX0 yX0_partBelow yX0_partBelow]
def wsX2_make_r2 : List Cond := [Cond.code yX0_partBelow cX0_partBelow 2 (some .long), Cond.fieldLink RX0 19 "BitStreams$Form" "scale" "I", Cond.methodLink RX0 22 yX0_waysBut, Cond.instanceMethod yX0_waysBut, Cond.selects RX0 yX0_waysBut yX0_waysBut, Cond.code yX0_waysBut cX0_waysBut 6 (some .long), Cond.fieldLink RX0 15 "BitStreams$Form" "degree" "I", Cond.methodLink RX0 26 yX0_ways, Cond.static yX0_ways, Cond.code yX0_ways cX0_ways 5 (some .long), Cond.methodLink RX0 33 yX0_partAbove, Cond.instanceMethod yX0_partAbove, Cond.selects RX0 yX0_partAbove yX0_partAbove, Cond.code yX0_partAbove cX0_partAbove 6 (some .long), Cond.fieldLink RX0 9 "BitStreams$Form" "numbers" "[I", Cond.instanceMethod yX1_ofSource, Cond.initialized RX1, Cond.selects RX1 yX1_ofSource yX1_ofSource, Cond.code yX1_ofSource cX1_ofSource 3 (some .long), Cond.static yX2_lowBits, Cond.code yX2_lowBits cX2_lowBits 1 (some .long), Cond.constantLong RX2 81 (-1), Cond.methodLink RX1 31 yX1_turnedRow, Cond.instanceMethod yX1_turnedRow]
def wsX2_make_r3 : List Cond := [Cond.selects RX1 yX1_turnedRow yX1_turnedRow, Cond.code yX1_turnedRow cX1_turnedRow 5 (some .long), Cond.methodLink RX1 40 yX1_turned, Cond.instanceMethod yX1_turned, Cond.selects RX1 yX1_turned yX1_turned, Cond.code yX1_turned cX1_turned 4 (some .int), Cond.fieldLink RX1 21 "BitStreams$Rows" "figures" "I", Cond.methodLink RX1 34 yX1_spreadRow, Cond.instanceMethod yX1_spreadRow, Cond.selects RX1 yX1_spreadRow yX1_spreadRow, Cond.code yX1_spreadRow cX1_spreadRow 5 (some .long), Cond.fieldLink RX1 9 "BitStreams$Rows" "length" "I", Cond.methodLink RX1 37 yX1_registerRow, Cond.instanceMethod yX1_registerRow, Cond.selects RX1 yX1_registerRow yX1_registerRow, Cond.code yX1_registerRow cX1_registerRow 7 (some .long), Cond.methodLink RX1 43 yX1_tapsOfLength, Cond.instanceMethod yX1_tapsOfLength, Cond.selects RX1 yX1_tapsOfLength yX1_tapsOfLength, Cond.code yX1_tapsOfLength cX1_tapsOfLength 1 (some .int), Cond.methodLink RX2 168 yX2_formed, Cond.instanceMethod yX2_formed, Cond.selects RX2 yX2_formed yX2_formed, Cond.code yX2_formed cX2_formed 11 (some .long)]
def wsX2_make_r4 : List Cond := [Cond.instanceMethod yX1_round, Cond.selects RX1 yX1_round yX1_round, Cond.code yX1_round cX1_round 2 (some .int), Cond.methodLink RX2 77 yX2_bitOf, Cond.static yX2_bitOf, Cond.code yX2_bitOf cX2_bitOf 3 (some .int), Cond.methodLink RX2 70 yX2_setStream, Cond.instanceMethod yX2_setStream, Cond.selects RX2 yX2_setStream yX2_setStream, Cond.code yX2_setStream cX2_setStream 4 (some .int), Cond.fieldLink RX2 23 "BitStreams" "streams" "[J", Cond.methodLink RX2 101 yX2_lowBits, Cond.methodLink RX2 83 yJ13_bitCount_95d88, Cond.static yJ13_bitCount_95d88, Cond.initialized RJ13, Cond.code yJ13_bitCount_95d88 cJ13_bitCount_95d88 2 (some .int), Cond.constantLong RJ13 314 (6148914691236517205), Cond.constantLong RJ13 316 (3689348814741910323), Cond.constantLong RJ13 318 (1085102592571150095)]
def wsX2_make : List Cond := .code yX2_make cX2_make 6 (some .int) :: ((wsX2_make_r1 ++ (wsX2_make_r2 ++ (wsX2_make_r3 ++ wsX2_make_r4))) ++ wsX20 ++ wsX00 ++ wsX10)
def wsX2_count : List Cond := .code yX2_count cX2_count 2 (some .int) :: ([.fieldLink RX2 10 "BitStreams" "rows" "LBitStreams$Rows;", .fieldLink RX2 19 "BitStreams" "form" "LBitStreams$Form;", .fieldLink RX2 40 "BitStreams" "misses" "I"] ++ wsX20 ++ wsX10 ++ wsX00)
def wsX2_digest : List Cond := .code yX2_digest cX2_digest 4 (some .long) :: ([.constantLong RX2 174 (4867), .fieldLink RX2 10 "BitStreams" "rows" "LBitStreams$Rows;", .constantLong RX2 176 (31), .fieldLink RX2 23 "BitStreams" "streams" "[J", .fieldLink RX2 36 "BitStreams" "machineState" "I", .fieldLink RX2 19 "BitStreams" "form" "LBitStreams$Form;", .fieldLink RX2 40 "BitStreams" "misses" "I", .methodLink RX2 83 yJ13_bitCount_95d88, .static yJ13_bitCount_95d88, .initialized RJ13, .code yJ13_bitCount_95d88 cJ13_bitCount_95d88 2 (some .int), .constantLong RJ13 314 (6148914691236517205), .constantLong RJ13 316 (3689348814741910323), .constantLong RJ13 318 (1085102592571150095)] ++ wsX20 ++ wsX10 ++ wsX00)
def wsX3_init : List Cond := .code yX3_init cX3_init 1 none :: ([.methodLink RX3 1 objectInit, .instanceMethod objectInit, .code objectInit ⟨#[0xb1]⟩ 1 none, .arrayClass .long, .fieldLink RX3 7 "BitStreamsModel" "rows" "[J", .fieldLink RX3 13 "BitStreamsModel" "firsts" "[J", .fieldLink RX3 16 "BitStreamsModel" "others" "[J", .arrayClass .int, .fieldLink RX3 19 "BitStreamsModel" "terms" "[I", .fieldLink RX3 23 "BitStreamsModel" "size" "I", .fieldLink RX3 27 "BitStreamsModel" "behind" "I", .fieldLink RX3 30 "BitStreamsModel" "scale" "I"] ++ wsX30)
def wsX3_in : List Cond := .code yX3_in cX3_in 6 (some .boolean) :: ([])
def wsX3_isStream : List Cond := .code yX3_isStream cX3_isStream 1 (some .boolean) :: ([.constantLong RX3 33 (11), .methodLink RX3 35 yX3_in, .static yX3_in, .initialized RX3, .code yX3_in cX3_in 6 (some .boolean)])
def wsX3_bitOf : List Cond := .code yX3_bitOf cX3_bitOf 4 (some .int) :: ([])
def wsX3_onesOf : List Cond := .code yX3_onesOf cX3_onesOf 5 (some .int) :: ([.fieldLink RX3 23 "BitStreamsModel" "size" "I", .methodLink RX3 39 yX3_bitOf, .instanceMethod yX3_bitOf, .selects RX3 yX3_bitOf yX3_bitOf, .initialized RX3, .code yX3_bitOf cX3_bitOf 4 (some .int)] ++ wsX30)
def wsX3_length : List Cond := .code yX3_length cX3_length 4 (some .int) :: ([.fieldLink RX3 23 "BitStreamsModel" "size" "I", .fieldLink RX3 7 "BitStreamsModel" "rows" "[J"] ++ wsX30)
def wsX3_round : List Cond := .code yX3_round cX3_round 5 (some .int) :: ([.fieldLink RX3 23 "BitStreamsModel" "size" "I"] ++ wsX30)
def wsX3_sourceRow : List Cond := .code yX3_sourceRow cX3_sourceRow 9 (some .long) :: ([.fieldLink RX3 23 "BitStreamsModel" "size" "I", .methodLink RX3 43 yX3_round, .instanceMethod yX3_round, .selects RX3 yX3_round yX3_round, .initialized RX3, .code yX3_round cX3_round 5 (some .int)] ++ wsX30)
def wsX3_isSource : List Cond := .code yX3_isSource cX3_isSource 3 (some .boolean) :: ([.constantLong RX3 47 (3), .fieldLink RX3 23 "BitStreamsModel" "size" "I", .methodLink RX3 35 yX3_in, .static yX3_in, .initialized RX3, .code yX3_in cX3_in 6 (some .boolean)] ++ wsX30)
def wsX3_source_r1 : List Cond := [Cond.fieldLink RX3 7 "BitStreamsModel" "rows" "[J", Cond.methodLink RX3 49 yX3_isStream, Cond.static yX3_isStream, Cond.initialized RX3, Cond.code yX3_isStream cX3_isStream 1 (some .boolean), Cond.constantLong RX3 33 (11), Cond.methodLink RX3 35 yX3_in, Cond.static yX3_in, Cond.code yX3_in cX3_in 6 (some .boolean), Cond.methodLink RX3 53 yX3_isSource, Cond.instanceMethod yX3_isSource, Cond.selects RX3 yX3_isSource yX3_isSource, Cond.code yX3_isSource cX3_isSource 3 (some .boolean), Cond.constantLong RX3 47 (3), Cond.fieldLink RX3 23 "BitStreamsModel" "size" "I", Cond.methodLink RX3 57 yX3_sourceRow, Cond.instanceMethod yX3_sourceRow, Cond.selects RX3 yX3_sourceRow yX3_sourceRow, Cond.code yX3_sourceRow cX3_sourceRow 9 (some .long), Cond.methodLink RX3 43 yX3_round, Cond.instanceMethod yX3_round, Cond.selects RX3 yX3_round yX3_round, Cond.code yX3_round cX3_round 5 (some .int), Cond.methodLink RX3 61 yX3_onesOf]
def wsX3_source_r2 : List Cond := [Cond.instanceMethod yX3_onesOf, Cond.selects RX3 yX3_onesOf yX3_onesOf, Cond.code yX3_onesOf cX3_onesOf 5 (some .int), Cond.methodLink RX3 39 yX3_bitOf, Cond.instanceMethod yX3_bitOf, Cond.selects RX3 yX3_bitOf yX3_bitOf, Cond.code yX3_bitOf cX3_bitOf 4 (some .int)]
def wsX3_source : List Cond := .code yX3_source cX3_source 4 (some .int) :: ((wsX3_source_r1 ++ wsX3_source_r2) ++ wsX30)
def wsX3_put : List Cond := .code yX3_put cX3_put 5 (some .int) :: ([.fieldLink RX3 23 "BitStreamsModel" "size" "I", .fieldLink RX3 7 "BitStreamsModel" "rows" "[J", .constantLong RX3 65 (-1), .methodLink RX3 49 yX3_isStream, .static yX3_isStream, .initialized RX3, .code yX3_isStream cX3_isStream 1 (some .boolean), .constantLong RX3 33 (11), .methodLink RX3 35 yX3_in, .static yX3_in, .code yX3_in cX3_in 6 (some .boolean), .methodLink RX3 39 yX3_bitOf, .instanceMethod yX3_bitOf, .selects RX3 yX3_bitOf yX3_bitOf, .code yX3_bitOf cX3_bitOf 4 (some .int)] ++ wsX30)
def wsX3_bit : List Cond := .code yX3_bit cX3_bit 3 (some .int) :: ([.fieldLink RX3 23 "BitStreamsModel" "size" "I", .fieldLink RX3 7 "BitStreamsModel" "rows" "[J", .methodLink RX3 49 yX3_isStream, .static yX3_isStream, .initialized RX3, .code yX3_isStream cX3_isStream 1 (some .boolean), .constantLong RX3 33 (11), .methodLink RX3 35 yX3_in, .static yX3_in, .code yX3_in cX3_in 6 (some .boolean), .methodLink RX3 39 yX3_bitOf, .instanceMethod yX3_bitOf, .selects RX3 yX3_bitOf yX3_bitOf, .code yX3_bitOf cX3_bitOf 4 (some .int)] ++ wsX30)
def wsX3_ones : List Cond := .code yX3_ones cX3_ones 2 (some .int) :: ([.fieldLink RX3 7 "BitStreamsModel" "rows" "[J", .methodLink RX3 49 yX3_isStream, .static yX3_isStream, .initialized RX3, .code yX3_isStream cX3_isStream 1 (some .boolean), .constantLong RX3 33 (11), .methodLink RX3 35 yX3_in, .static yX3_in, .code yX3_in cX3_in 6 (some .boolean), .methodLink RX3 61 yX3_onesOf, .instanceMethod yX3_onesOf, .selects RX3 yX3_onesOf yX3_onesOf, .code yX3_onesOf cX3_onesOf 5 (some .int), .fieldLink RX3 23 "BitStreamsModel" "size" "I", .methodLink RX3 39 yX3_bitOf, .instanceMethod yX3_bitOf, .selects RX3 yX3_bitOf yX3_bitOf, .code yX3_bitOf cX3_bitOf 4 (some .int)] ++ wsX30)
def wsX3_gated : List Cond := .code yX3_gated cX3_gated 4 (some .int) :: ([])
def wsX3_gateRow : List Cond := .code yX3_gateRow cX3_gateRow 11 (some .long) :: ([.fieldLink RX3 23 "BitStreamsModel" "size" "I", .methodLink RX3 39 yX3_bitOf, .instanceMethod yX3_bitOf, .selects RX3 yX3_bitOf yX3_bitOf, .initialized RX3, .code yX3_bitOf cX3_bitOf 4 (some .int), .methodLink RX3 67 yX3_gated, .static yX3_gated, .code yX3_gated cX3_gated 4 (some .int)] ++ wsX30)
def wsX3_gate_r1 : List Cond := [Cond.constantLong RX3 71 (6), Cond.fieldLink RX3 7 "BitStreamsModel" "rows" "[J", Cond.methodLink RX3 35 yX3_in, Cond.static yX3_in, Cond.initialized RX3, Cond.code yX3_in cX3_in 6 (some .boolean), Cond.methodLink RX3 49 yX3_isStream, Cond.static yX3_isStream, Cond.code yX3_isStream cX3_isStream 1 (some .boolean), Cond.constantLong RX3 33 (11), Cond.methodLink RX3 73 yX3_gateRow, Cond.instanceMethod yX3_gateRow, Cond.selects RX3 yX3_gateRow yX3_gateRow, Cond.code yX3_gateRow cX3_gateRow 11 (some .long), Cond.fieldLink RX3 23 "BitStreamsModel" "size" "I", Cond.methodLink RX3 39 yX3_bitOf, Cond.instanceMethod yX3_bitOf, Cond.selects RX3 yX3_bitOf yX3_bitOf, Cond.code yX3_bitOf cX3_bitOf 4 (some .int), Cond.methodLink RX3 67 yX3_gated, Cond.static yX3_gated, Cond.code yX3_gated cX3_gated 4 (some .int), Cond.methodLink RX3 61 yX3_onesOf, Cond.instanceMethod yX3_onesOf]
def wsX3_gate_r2 : List Cond := [Cond.selects RX3 yX3_onesOf yX3_onesOf, Cond.code yX3_onesOf cX3_onesOf 5 (some .int)]
def wsX3_gate : List Cond := .code yX3_gate cX3_gate 6 (some .int) :: ((wsX3_gate_r1 ++ wsX3_gate_r2) ++ wsX30)
def wsX3_not_r1 : List Cond := [Cond.fieldLink RX3 7 "BitStreamsModel" "rows" "[J", Cond.methodLink RX3 49 yX3_isStream, Cond.static yX3_isStream, Cond.initialized RX3, Cond.code yX3_isStream cX3_isStream 1 (some .boolean), Cond.constantLong RX3 33 (11), Cond.methodLink RX3 35 yX3_in, Cond.static yX3_in, Cond.code yX3_in cX3_in 6 (some .boolean), Cond.methodLink RX3 73 yX3_gateRow, Cond.instanceMethod yX3_gateRow, Cond.selects RX3 yX3_gateRow yX3_gateRow, Cond.code yX3_gateRow cX3_gateRow 11 (some .long), Cond.fieldLink RX3 23 "BitStreamsModel" "size" "I", Cond.methodLink RX3 39 yX3_bitOf, Cond.instanceMethod yX3_bitOf, Cond.selects RX3 yX3_bitOf yX3_bitOf, Cond.code yX3_bitOf cX3_bitOf 4 (some .int), Cond.methodLink RX3 67 yX3_gated, Cond.static yX3_gated, Cond.code yX3_gated cX3_gated 4 (some .int), Cond.methodLink RX3 61 yX3_onesOf, Cond.instanceMethod yX3_onesOf, Cond.selects RX3 yX3_onesOf yX3_onesOf]
def wsX3_not_r2 : List Cond := [Cond.code yX3_onesOf cX3_onesOf 5 (some .int)]
def wsX3_not : List Cond := .code yX3_not cX3_not 3 (some .int) :: ((wsX3_not_r1 ++ wsX3_not_r2) ++ wsX30)
def wsX3_shifted : List Cond := .code yX3_shifted cX3_shifted 7 (some .long) :: ([.fieldLink RX3 23 "BitStreamsModel" "size" "I", .methodLink RX3 39 yX3_bitOf, .instanceMethod yX3_bitOf, .selects RX3 yX3_bitOf yX3_bitOf, .initialized RX3, .code yX3_bitOf cX3_bitOf 4 (some .int)] ++ wsX30)
def wsX3_later : List Cond := .code yX3_later cX3_later 4 (some .int) :: ([.constantLong RX3 77 (-64), .constantLong RX3 79 (64), .fieldLink RX3 7 "BitStreamsModel" "rows" "[J", .fieldLink RX3 23 "BitStreamsModel" "size" "I", .methodLink RX3 49 yX3_isStream, .static yX3_isStream, .initialized RX3, .code yX3_isStream cX3_isStream 1 (some .boolean), .constantLong RX3 33 (11), .methodLink RX3 35 yX3_in, .static yX3_in, .code yX3_in cX3_in 6 (some .boolean), .methodLink RX3 81 yX3_shifted, .instanceMethod yX3_shifted, .selects RX3 yX3_shifted yX3_shifted, .code yX3_shifted cX3_shifted 7 (some .long), .methodLink RX3 39 yX3_bitOf, .instanceMethod yX3_bitOf, .selects RX3 yX3_bitOf yX3_bitOf, .code yX3_bitOf cX3_bitOf 4 (some .int), .methodLink RX3 61 yX3_onesOf, .instanceMethod yX3_onesOf, .selects RX3 yX3_onesOf yX3_onesOf, .code yX3_onesOf cX3_onesOf 5 (some .int)] ++ wsX30)
def wsX3_flip : List Cond := .code yX3_flip cX3_flip 8 (some .int) :: ([.fieldLink RX3 23 "BitStreamsModel" "size" "I", .fieldLink RX3 7 "BitStreamsModel" "rows" "[J", .methodLink RX3 49 yX3_isStream, .static yX3_isStream, .initialized RX3, .code yX3_isStream cX3_isStream 1 (some .boolean), .constantLong RX3 33 (11), .methodLink RX3 35 yX3_in, .static yX3_in, .code yX3_in cX3_in 6 (some .boolean), .methodLink RX3 39 yX3_bitOf, .instanceMethod yX3_bitOf, .selects RX3 yX3_bitOf yX3_bitOf, .code yX3_bitOf cX3_bitOf 4 (some .int)] ++ wsX30)
def wsX3_bothOf : List Cond := .code yX3_bothOf cX3_bothOf 8 (some .int) :: ([.fieldLink RX3 23 "BitStreamsModel" "size" "I", .fieldLink RX3 7 "BitStreamsModel" "rows" "[J", .methodLink RX3 39 yX3_bitOf, .instanceMethod yX3_bitOf, .selects RX3 yX3_bitOf yX3_bitOf, .initialized RX3, .code yX3_bitOf cX3_bitOf 4 (some .int)] ++ wsX30)
def wsX3_both : List Cond := .code yX3_both cX3_both 4 (some .int) :: ([.constantLong RX3 47 (3), .methodLink RX3 49 yX3_isStream, .static yX3_isStream, .initialized RX3, .code yX3_isStream cX3_isStream 1 (some .boolean), .constantLong RX3 33 (11), .methodLink RX3 35 yX3_in, .static yX3_in, .code yX3_in cX3_in 6 (some .boolean), .methodLink RX3 85 yX3_bothOf, .instanceMethod yX3_bothOf, .selects RX3 yX3_bothOf yX3_bothOf, .code yX3_bothOf cX3_bothOf 8 (some .int), .fieldLink RX3 23 "BitStreamsModel" "size" "I", .fieldLink RX3 7 "BitStreamsModel" "rows" "[J", .methodLink RX3 39 yX3_bitOf, .instanceMethod yX3_bitOf, .selects RX3 yX3_bitOf yX3_bitOf, .code yX3_bitOf cX3_bitOf 4 (some .int)] ++ wsX30)
def wsX3_together : List Cond := .code yX3_together cX3_together 11 (some .int) :: ([.constant RX3 89 (-100000), .fieldLink RX3 23 "BitStreamsModel" "size" "I", .methodLink RX3 49 yX3_isStream, .static yX3_isStream, .initialized RX3, .code yX3_isStream cX3_isStream 1 (some .boolean), .constantLong RX3 33 (11), .methodLink RX3 35 yX3_in, .static yX3_in, .code yX3_in cX3_in 6 (some .boolean), .methodLink RX3 85 yX3_bothOf, .instanceMethod yX3_bothOf, .selects RX3 yX3_bothOf yX3_bothOf, .code yX3_bothOf cX3_bothOf 8 (some .int), .fieldLink RX3 7 "BitStreamsModel" "rows" "[J", .methodLink RX3 39 yX3_bitOf, .instanceMethod yX3_bitOf, .selects RX3 yX3_bitOf yX3_bitOf, .code yX3_bitOf cX3_bitOf 4 (some .int)] ++ wsX30)
def wsX3_due : List Cond := .code yX3_due cX3_due 5 (some .int) :: ([.fieldLink RX3 23 "BitStreamsModel" "size" "I"] ++ wsX30)
def wsX3_miss_r1 : List Cond := [Cond.constantLong RX3 47 (3), Cond.constantLong RX3 90 (63), Cond.fieldLink RX3 92 "BitStreamsModel" "misses" "I", Cond.fieldLink RX3 23 "BitStreamsModel" "size" "I", Cond.fieldLink RX3 13 "BitStreamsModel" "firsts" "[J", Cond.fieldLink RX3 16 "BitStreamsModel" "others" "[J", Cond.fieldLink RX3 98 "BitStreamsModel" "missV" "I", Cond.fieldLink RX3 101 "BitStreamsModel" "missW" "I", Cond.methodLink RX3 35 yX3_in, Cond.static yX3_in, Cond.initialized RX3, Cond.code yX3_in cX3_in 6 (some .boolean), Cond.methodLink RX3 57 yX3_sourceRow, Cond.instanceMethod yX3_sourceRow, Cond.selects RX3 yX3_sourceRow yX3_sourceRow, Cond.code yX3_sourceRow cX3_sourceRow 9 (some .long), Cond.methodLink RX3 43 yX3_round, Cond.instanceMethod yX3_round, Cond.selects RX3 yX3_round yX3_round, Cond.code yX3_round cX3_round 5 (some .int), Cond.methodLink RX3 81 yX3_shifted, Cond.instanceMethod yX3_shifted, Cond.selects RX3 yX3_shifted yX3_shifted, Cond.code yX3_shifted cX3_shifted 7 (some .long)]
def wsX3_miss_r2 : List Cond := [Cond.methodLink RX3 39 yX3_bitOf, Cond.instanceMethod yX3_bitOf, Cond.selects RX3 yX3_bitOf yX3_bitOf, Cond.code yX3_bitOf cX3_bitOf 4 (some .int), Cond.methodLink RX3 73 yX3_gateRow, Cond.instanceMethod yX3_gateRow, Cond.selects RX3 yX3_gateRow yX3_gateRow, Cond.code yX3_gateRow cX3_gateRow 11 (some .long), Cond.methodLink RX3 67 yX3_gated, Cond.static yX3_gated, Cond.code yX3_gated cX3_gated 4 (some .int), Cond.methodLink RX3 61 yX3_onesOf, Cond.instanceMethod yX3_onesOf, Cond.selects RX3 yX3_onesOf yX3_onesOf, Cond.code yX3_onesOf cX3_onesOf 5 (some .int), Cond.methodLink RX3 95 yX3_due, Cond.instanceMethod yX3_due, Cond.selects RX3 yX3_due yX3_due, Cond.code yX3_due cX3_due 5 (some .int)]
def wsX3_miss : List Cond := .code yX3_miss cX3_miss 9 (some .int) :: ((wsX3_miss_r1 ++ wsX3_miss_r2) ++ wsX30)
def wsX3_where : List Cond := .code yX3_where cX3_where 2 (some .int) :: ([.fieldLink RX3 92 "BitStreamsModel" "misses" "I", .fieldLink RX3 98 "BitStreamsModel" "missV" "I", .fieldLink RX3 101 "BitStreamsModel" "missW" "I"] ++ wsX30)
def wsX3_isMachine : List Cond := .code yX3_isMachine cX3_isMachine 1 (some .boolean) :: ([.constantLong RX3 104 (2), .constantLong RX3 106 (8), .methodLink RX3 35 yX3_in, .static yX3_in, .initialized RX3, .code yX3_in cX3_in 6 (some .boolean)])
def wsX3_machine : List Cond := .code yX3_machine cX3_machine 8 (some .int) :: ([.fieldLink RX3 23 "BitStreamsModel" "size" "I", .fieldLink RX3 7 "BitStreamsModel" "rows" "[J", .fieldLink RX3 27 "BitStreamsModel" "behind" "I", .methodLink RX3 49 yX3_isStream, .static yX3_isStream, .initialized RX3, .code yX3_isStream cX3_isStream 1 (some .boolean), .constantLong RX3 33 (11), .methodLink RX3 35 yX3_in, .static yX3_in, .code yX3_in cX3_in 6 (some .boolean), .methodLink RX3 108 yX3_isMachine, .static yX3_isMachine, .code yX3_isMachine cX3_isMachine 1 (some .boolean), .constantLong RX3 104 (2), .constantLong RX3 106 (8), .methodLink RX3 39 yX3_bitOf, .instanceMethod yX3_bitOf, .selects RX3 yX3_bitOf yX3_bitOf, .code yX3_bitOf cX3_bitOf 4 (some .int), .methodLink RX3 61 yX3_onesOf, .instanceMethod yX3_onesOf, .selects RX3 yX3_onesOf yX3_onesOf, .code yX3_onesOf cX3_onesOf 5 (some .int)] ++ wsX30)
def wsX3_state : List Cond := .code yX3_state cX3_state 1 (some .int) :: ([.fieldLink RX3 27 "BitStreamsModel" "behind" "I"] ++ wsX30)
def wsX3_power : List Cond := .code yX3_power cX3_power 6 (some .long) :: ([])
def wsX3_common : List Cond := .code yX3_common cX3_common 10 (some .long) :: ([])
def wsX3_ever : List Cond := .code yX3_ever cX3_ever 11 (some .long) :: ([.fieldLink RX3 23 "BitStreamsModel" "size" "I", .constantLong RX3 111 (-102), .methodLink RX3 108 yX3_isMachine, .static yX3_isMachine, .initialized RX3, .code yX3_isMachine cX3_isMachine 1 (some .boolean), .constantLong RX3 104 (2), .constantLong RX3 106 (8), .methodLink RX3 35 yX3_in, .static yX3_in, .code yX3_in cX3_in 6 (some .boolean), .methodLink RX3 113 yX3_power, .static yX3_power, .code yX3_power cX3_power 6 (some .long), .methodLink RX3 116 yX3_common, .static yX3_common, .code yX3_common cX3_common 10 (some .long)] ++ wsX30)
def wsX3_degree : List Cond := .code yX3_degree cX3_degree 4 (some .int) :: ([.constantLong RX3 120 (4), .constantLong RX3 122 (1000), .fieldLink RX3 124 "BitStreamsModel" "degree" "I", .fieldLink RX3 30 "BitStreamsModel" "scale" "I", .fieldLink RX3 19 "BitStreamsModel" "terms" "[I", .methodLink RX3 35 yX3_in, .static yX3_in, .initialized RX3, .code yX3_in cX3_in 6 (some .boolean)] ++ wsX30)
def wsX3_term : List Cond := .code yX3_term cX3_term 4 (some .int) :: ([.fieldLink RX3 124 "BitStreamsModel" "degree" "I", .constantLong RX3 127 (-1000), .constantLong RX3 122 (1000), .fieldLink RX3 19 "BitStreamsModel" "terms" "[I", .methodLink RX3 35 yX3_in, .static yX3_in, .initialized RX3, .code yX3_in cX3_in 6 (some .boolean)] ++ wsX30)
def wsX3_chosen : List Cond := .code yX3_chosen cX3_chosen 5 (some .long) :: ([])
def wsX3_findPart : List Cond := .code yX3_findPart cX3_findPart 9 none :: ([.fieldLink RX3 124 "BitStreamsModel" "degree" "I", .fieldLink RX3 19 "BitStreamsModel" "terms" "[I", .fieldLink RX3 30 "BitStreamsModel" "scale" "I", .fieldLink RX3 132 "BitStreamsModel" "partUp" "J", .fieldLink RX3 136 "BitStreamsModel" "partLow" "J", .methodLink RX3 129 yX3_chosen, .static yX3_chosen, .initialized RX3, .code yX3_chosen cX3_chosen 5 (some .long), .methodLink RX3 116 yX3_common, .static yX3_common, .code yX3_common cX3_common 10 (some .long)] ++ wsX30)
def wsX3_isPartial : List Cond := .code yX3_isPartial cX3_isPartial 2 (some .boolean) :: ([.fieldLink RX3 124 "BitStreamsModel" "degree" "I", .constantLong RX3 139 (10), .methodLink RX3 35 yX3_in, .static yX3_in, .initialized RX3, .code yX3_in cX3_in 6 (some .boolean)] ++ wsX30)
def wsX3_part_r1 : List Cond := [Cond.constantLong RX3 111 (-102), Cond.constantLong RX3 144 (-101), Cond.fieldLink RX3 132 "BitStreamsModel" "partUp" "J", Cond.fieldLink RX3 136 "BitStreamsModel" "partLow" "J", Cond.methodLink RX3 141 yX3_isPartial, Cond.instanceMethod yX3_isPartial, Cond.selects RX3 yX3_isPartial yX3_isPartial, Cond.initialized RX3, Cond.code yX3_isPartial cX3_isPartial 2 (some .boolean), Cond.fieldLink RX3 124 "BitStreamsModel" "degree" "I", Cond.constantLong RX3 139 (10), Cond.methodLink RX3 35 yX3_in, Cond.static yX3_in, Cond.code yX3_in cX3_in 6 (some .boolean), Cond.methodLink RX3 146 yX3_findPart, Cond.instanceMethod yX3_findPart, Cond.selects RX3 yX3_findPart yX3_findPart, Cond.code yX3_findPart cX3_findPart 9 none, Cond.fieldLink RX3 19 "BitStreamsModel" "terms" "[I", Cond.fieldLink RX3 30 "BitStreamsModel" "scale" "I", Cond.methodLink RX3 129 yX3_chosen, Cond.static yX3_chosen, Cond.code yX3_chosen cX3_chosen 5 (some .long), Cond.methodLink RX3 116 yX3_common]
def wsX3_part_r2 : List Cond := [Cond.static yX3_common, Cond.code yX3_common cX3_common 10 (some .long)]
def wsX3_part : List Cond := .code yX3_part cX3_part 4 (some .long) :: ((wsX3_part_r1 ++ wsX3_part_r2) ++ wsX30)
def wsX3_mayBeMade : List Cond := .code yX3_mayBeMade cX3_mayBeMade 4 (some .boolean) :: ([.fieldLink RX3 132 "BitStreamsModel" "partUp" "J", .fieldLink RX3 136 "BitStreamsModel" "partLow" "J", .methodLink RX3 146 yX3_findPart, .instanceMethod yX3_findPart, .selects RX3 yX3_findPart yX3_findPart, .initialized RX3, .code yX3_findPart cX3_findPart 9 none, .fieldLink RX3 124 "BitStreamsModel" "degree" "I", .fieldLink RX3 19 "BitStreamsModel" "terms" "[I", .fieldLink RX3 30 "BitStreamsModel" "scale" "I", .methodLink RX3 129 yX3_chosen, .static yX3_chosen, .code yX3_chosen cX3_chosen 5 (some .long), .methodLink RX3 116 yX3_common, .static yX3_common, .code yX3_common cX3_common 10 (some .long)] ++ wsX30)
def wsX3_least : List Cond := .code yX3_least cX3_least 2 (some .int) :: ([.fieldLink RX3 124 "BitStreamsModel" "degree" "I", .methodLink RX3 150 yX3_mayBeMade, .instanceMethod yX3_mayBeMade, .selects RX3 yX3_mayBeMade yX3_mayBeMade, .initialized RX3, .code yX3_mayBeMade cX3_mayBeMade 4 (some .boolean), .fieldLink RX3 132 "BitStreamsModel" "partUp" "J", .fieldLink RX3 136 "BitStreamsModel" "partLow" "J", .methodLink RX3 146 yX3_findPart, .instanceMethod yX3_findPart, .selects RX3 yX3_findPart yX3_findPart, .code yX3_findPart cX3_findPart 9 none, .fieldLink RX3 19 "BitStreamsModel" "terms" "[I", .fieldLink RX3 30 "BitStreamsModel" "scale" "I", .methodLink RX3 129 yX3_chosen, .static yX3_chosen, .code yX3_chosen cX3_chosen 5 (some .long), .methodLink RX3 116 yX3_common, .static yX3_common, .code yX3_common cX3_common 10 (some .long)] ++ wsX30)
def wsX3_at : List Cond := .code yX3_at cX3_at 8 (some .int) :: ([.fieldLink RX3 23 "BitStreamsModel" "size" "I", .constant RX3 153 (-1000000000), .fieldLink RX3 124 "BitStreamsModel" "degree" "I", .fieldLink RX3 19 "BitStreamsModel" "terms" "[I", .fieldLink RX3 30 "BitStreamsModel" "scale" "I", .constantLong RX3 122 (1000), .methodLink RX3 35 yX3_in, .static yX3_in, .initialized RX3, .code yX3_in cX3_in 6 (some .boolean), .methodLink RX3 113 yX3_power, .static yX3_power, .code yX3_power cX3_power 6 (some .long)] ++ wsX30)
def wsX3_make_r1 : List Cond := [Cond.fieldLink RX3 23 "BitStreamsModel" "size" "I", Cond.fieldLink RX3 132 "BitStreamsModel" "partUp" "J", Cond.fieldLink RX3 136 "BitStreamsModel" "partLow" "J", Cond.fieldLink RX3 7 "BitStreamsModel" "rows" "[J", Cond.methodLink RX3 49 yX3_isStream, Cond.static yX3_isStream, Cond.initialized RX3, Cond.code yX3_isStream cX3_isStream 1 (some .boolean), Cond.constantLong RX3 33 (11), Cond.methodLink RX3 35 yX3_in, Cond.static yX3_in, Cond.code yX3_in cX3_in 6 (some .boolean), Cond.methodLink RX3 53 yX3_isSource, Cond.instanceMethod yX3_isSource, Cond.selects RX3 yX3_isSource yX3_isSource, Cond.code yX3_isSource cX3_isSource 3 (some .boolean), Cond.constantLong RX3 47 (3), Cond.methodLink RX3 141 yX3_isPartial, Cond.instanceMethod yX3_isPartial, Cond.selects RX3 yX3_isPartial yX3_isPartial, Cond.code yX3_isPartial cX3_isPartial 2 (some .boolean), Cond.fieldLink RX3 124 "BitStreamsModel" "degree" "I", Cond.constantLong RX3 139 (10), Cond.methodLink RX3 150 yX3_mayBeMade]
def wsX3_make_r2 : List Cond := [Cond.instanceMethod yX3_mayBeMade, Cond.selects RX3 yX3_mayBeMade yX3_mayBeMade, Cond.code yX3_mayBeMade cX3_mayBeMade 4 (some .boolean), Cond.methodLink RX3 146 yX3_findPart, Cond.instanceMethod yX3_findPart, Cond.selects RX3 yX3_findPart yX3_findPart, Cond.code yX3_findPart cX3_findPart 9 none, Cond.fieldLink RX3 19 "BitStreamsModel" "terms" "[I", Cond.fieldLink RX3 30 "BitStreamsModel" "scale" "I", Cond.methodLink RX3 129 yX3_chosen, Cond.static yX3_chosen, Cond.code yX3_chosen cX3_chosen 5 (some .long), Cond.methodLink RX3 116 yX3_common, Cond.static yX3_common, Cond.code yX3_common cX3_common 10 (some .long), Cond.methodLink RX3 57 yX3_sourceRow, Cond.instanceMethod yX3_sourceRow, Cond.selects RX3 yX3_sourceRow yX3_sourceRow, Cond.code yX3_sourceRow cX3_sourceRow 9 (some .long), Cond.methodLink RX3 43 yX3_round, Cond.instanceMethod yX3_round, Cond.selects RX3 yX3_round yX3_round, Cond.code yX3_round cX3_round 5 (some .int), Cond.methodLink RX3 39 yX3_bitOf]
def wsX3_make_r3 : List Cond := [Cond.instanceMethod yX3_bitOf, Cond.selects RX3 yX3_bitOf yX3_bitOf, Cond.code yX3_bitOf cX3_bitOf 4 (some .int), Cond.methodLink RX3 61 yX3_onesOf, Cond.instanceMethod yX3_onesOf, Cond.selects RX3 yX3_onesOf yX3_onesOf, Cond.code yX3_onesOf cX3_onesOf 5 (some .int)]
def wsX3_make : List Cond := .code yX3_make cX3_make 12 (some .int) :: ((wsX3_make_r1 ++ (wsX3_make_r2 ++ wsX3_make_r3)) ++ wsX30)
def wsX3_count : List Cond := .code yX3_count cX3_count 2 (some .int) :: ([.fieldLink RX3 23 "BitStreamsModel" "size" "I", .fieldLink RX3 124 "BitStreamsModel" "degree" "I", .fieldLink RX3 30 "BitStreamsModel" "scale" "I", .fieldLink RX3 92 "BitStreamsModel" "misses" "I"] ++ wsX30)
def wsX3_digest : List Cond := .code yX3_digest cX3_digest 4 (some .long) :: ([.constantLong RX3 154 (4867), .fieldLink RX3 23 "BitStreamsModel" "size" "I", .constantLong RX3 156 (31), .fieldLink RX3 7 "BitStreamsModel" "rows" "[J", .fieldLink RX3 27 "BitStreamsModel" "behind" "I", .fieldLink RX3 124 "BitStreamsModel" "degree" "I", .fieldLink RX3 30 "BitStreamsModel" "scale" "I", .fieldLink RX3 19 "BitStreamsModel" "terms" "[I", .fieldLink RX3 92 "BitStreamsModel" "misses" "I", .methodLink RX3 61 yX3_onesOf, .instanceMethod yX3_onesOf, .selects RX3 yX3_onesOf yX3_onesOf, .initialized RX3, .code yX3_onesOf cX3_onesOf 5 (some .int), .methodLink RX3 39 yX3_bitOf, .instanceMethod yX3_bitOf, .selects RX3 yX3_bitOf yX3_bitOf, .code yX3_bitOf cX3_bitOf 4 (some .int)] ++ wsX30)
def wsJ9_abs_0f7a4 : List Cond := .code yJ9_abs_0f7a4 cJ9_abs_0f7a4 1 (some .int) :: ([])
def wsJ9_abs_067f4 : List Cond := .code yJ9_abs_067f4 cJ9_abs_067f4 2 (some .long) :: ([])
def wsJ9_max_7cf53 : List Cond := .code yJ9_max_7cf53 cJ9_max_7cf53 2 (some .int) :: ([])
def wsJ9_max_f86c9 : List Cond := .code yJ9_max_f86c9 cJ9_max_f86c9 4 (some .long) :: ([])
def wsJ9_min_7cf53 : List Cond := .code yJ9_min_7cf53 cJ9_min_7cf53 2 (some .int) :: ([])
def wsL_law_r1 : List Cond := [Cond.classLink RL 7 RX2, Cond.instantiable RX2 10, Cond.initialized RX2, Cond.classLink RL 10 RX3, Cond.instantiable RX3 13, Cond.initialized RX3, Cond.constantLong RL 50 (4294967295), Cond.methodLink RL 9 yX2_init, Cond.instanceMethod yX2_init, Cond.code yX2_init cX2_init 1 none, Cond.methodLink RX2 1 objectInit, Cond.instanceMethod objectInit, Cond.code objectInit ⟨#[0xb1]⟩ 1 none, Cond.classLink RX2 7 RX1, Cond.instantiable RX1 2, Cond.initialized RX1, Cond.fieldLink RX2 10 "BitStreams" "rows" "LBitStreams$Rows;", Cond.classLink RX2 16 RX0, Cond.instantiable RX0 3, Cond.initialized RX0, Cond.fieldLink RX2 19 "BitStreams" "form" "LBitStreams$Form;", Cond.arrayClass .long, Cond.fieldLink RX2 23 "BitStreams" "streams" "[J", Cond.fieldLink RX2 27 "BitStreams" "firstRows" "[J"]
def wsL_law_r2 : List Cond := [Cond.fieldLink RX2 30 "BitStreams" "secondRows" "[J", Cond.fieldLink RX2 33 "BitStreams" "parts" "[J", Cond.fieldLink RX2 36 "BitStreams" "machineState" "I", Cond.fieldLink RX2 40 "BitStreams" "misses" "I", Cond.fieldLink RX2 43 "BitStreams" "missV" "I", Cond.fieldLink RX2 46 "BitStreams" "missW" "I", Cond.instanceMethod yX1_init, Cond.code yX1_init cX1_init 1 none, Cond.methodLink RX1 3 objectInit, Cond.fieldLink RX1 9 "BitStreams$Rows" "length" "I", Cond.fieldLink RX1 21 "BitStreams$Rows" "figures" "I", Cond.methodLink RX1 15 yJ6_bitCount_0f7a4, Cond.static yJ6_bitCount_0f7a4, Cond.initialized RJ6, Cond.code yJ6_bitCount_0f7a4 cJ6_bitCount_0f7a4 1 (some .int), Cond.constant RJ6 265 (1431655765), Cond.constant RJ6 266 (858993459), Cond.constant RJ6 267 (252645135), Cond.instanceMethod yX0_init, Cond.code yX0_init cX0_init 1 none, Cond.methodLink RX0 3 objectInit, Cond.arrayClass .int, Cond.fieldLink RX0 9 "BitStreams$Form" "numbers" "[I", Cond.fieldLink RX0 15 "BitStreams$Form" "degree" "I"]
def wsL_law_r3 : List Cond := [Cond.fieldLink RX0 19 "BitStreams$Form" "scale" "I", Cond.methodLink RL 12 yX3_init, Cond.instanceMethod yX3_init, Cond.code yX3_init cX3_init 1 none, Cond.methodLink RX3 1 objectInit, Cond.fieldLink RX3 7 "BitStreamsModel" "rows" "[J", Cond.fieldLink RX3 13 "BitStreamsModel" "firsts" "[J", Cond.fieldLink RX3 16 "BitStreamsModel" "others" "[J", Cond.fieldLink RX3 19 "BitStreamsModel" "terms" "[I", Cond.fieldLink RX3 23 "BitStreamsModel" "size" "I", Cond.fieldLink RX3 27 "BitStreamsModel" "behind" "I", Cond.fieldLink RX3 30 "BitStreamsModel" "scale" "I", Cond.methodLink RL 13 yX2_length, Cond.instanceMethod yX2_length, Cond.selects RX2 yX2_length yX2_length, Cond.code yX2_length cX2_length 4 (some .int), Cond.instanceMethod yX1_setLength, Cond.selects RX1 yX1_setLength yX1_setLength, Cond.code yX1_setLength cX1_setLength 2 none, Cond.methodLink RL 17 yX3_length, Cond.instanceMethod yX3_length, Cond.selects RX3 yX3_length yX3_length, Cond.code yX3_length cX3_length 4 (some .int), Cond.methodLink RL 18 yX2_source]
def wsL_law_r4 : List Cond := [Cond.instanceMethod yX2_source, Cond.selects RX2 yX2_source yX2_source, Cond.code yX2_source cX2_source 4 (some .int), Cond.methodLink RX2 56 yX2_isStream, Cond.static yX2_isStream, Cond.code yX2_isStream cX2_isStream 1 (some .boolean), Cond.methodLink RX2 89 yX2_isWithin, Cond.static yX2_isWithin, Cond.code yX2_isWithin cX2_isWithin 3 (some .boolean), Cond.methodLink RX2 60 yX2_isSource, Cond.static yX2_isSource, Cond.code yX2_isSource cX2_isSource 1 (some .boolean), Cond.methodLink RX2 63 yX2_isValue, Cond.instanceMethod yX2_isValue, Cond.selects RX2 yX2_isValue yX2_isValue, Cond.code yX2_isValue cX2_isValue 2 (some .boolean), Cond.instanceMethod yX1_ofSource, Cond.selects RX1 yX1_ofSource yX1_ofSource, Cond.code yX1_ofSource cX1_ofSource 3 (some .long), Cond.static yX2_lowBits, Cond.code yX2_lowBits cX2_lowBits 1 (some .long), Cond.constantLong RX2 81 (-1), Cond.methodLink RX1 31 yX1_turnedRow, Cond.instanceMethod yX1_turnedRow]
def wsL_law_r5 : List Cond := [Cond.selects RX1 yX1_turnedRow yX1_turnedRow, Cond.code yX1_turnedRow cX1_turnedRow 5 (some .long), Cond.methodLink RX1 40 yX1_turned, Cond.instanceMethod yX1_turned, Cond.selects RX1 yX1_turned yX1_turned, Cond.code yX1_turned cX1_turned 4 (some .int), Cond.methodLink RX1 34 yX1_spreadRow, Cond.instanceMethod yX1_spreadRow, Cond.selects RX1 yX1_spreadRow yX1_spreadRow, Cond.code yX1_spreadRow cX1_spreadRow 5 (some .long), Cond.methodLink RX1 37 yX1_registerRow, Cond.instanceMethod yX1_registerRow, Cond.selects RX1 yX1_registerRow yX1_registerRow, Cond.code yX1_registerRow cX1_registerRow 7 (some .long), Cond.methodLink RX1 43 yX1_tapsOfLength, Cond.instanceMethod yX1_tapsOfLength, Cond.selects RX1 yX1_tapsOfLength yX1_tapsOfLength, Cond.code yX1_tapsOfLength cX1_tapsOfLength 1 (some .int), Cond.methodLink RX2 70 yX2_setStream, Cond.instanceMethod yX2_setStream, Cond.selects RX2 yX2_setStream yX2_setStream, Cond.code yX2_setStream cX2_setStream 4 (some .int), Cond.methodLink RX2 101 yX2_lowBits, Cond.methodLink RX2 83 yJ13_bitCount_95d88]
def wsL_law_r6 : List Cond := [Cond.static yJ13_bitCount_95d88, Cond.initialized RJ13, Cond.code yJ13_bitCount_95d88 cJ13_bitCount_95d88 2 (some .int), Cond.constantLong RJ13 314 (6148914691236517205), Cond.constantLong RJ13 316 (3689348814741910323), Cond.constantLong RJ13 318 (1085102592571150095), Cond.methodLink RL 22 yX3_source, Cond.instanceMethod yX3_source, Cond.selects RX3 yX3_source yX3_source, Cond.code yX3_source cX3_source 4 (some .int), Cond.methodLink RX3 49 yX3_isStream, Cond.static yX3_isStream, Cond.code yX3_isStream cX3_isStream 1 (some .boolean), Cond.constantLong RX3 33 (11), Cond.methodLink RX3 35 yX3_in, Cond.static yX3_in, Cond.code yX3_in cX3_in 6 (some .boolean), Cond.methodLink RX3 53 yX3_isSource, Cond.instanceMethod yX3_isSource, Cond.selects RX3 yX3_isSource yX3_isSource, Cond.code yX3_isSource cX3_isSource 3 (some .boolean), Cond.constantLong RX3 47 (3), Cond.methodLink RX3 57 yX3_sourceRow, Cond.instanceMethod yX3_sourceRow]
def wsL_law_r7 : List Cond := [Cond.selects RX3 yX3_sourceRow yX3_sourceRow, Cond.code yX3_sourceRow cX3_sourceRow 9 (some .long), Cond.methodLink RX3 43 yX3_round, Cond.instanceMethod yX3_round, Cond.selects RX3 yX3_round yX3_round, Cond.code yX3_round cX3_round 5 (some .int), Cond.methodLink RX3 61 yX3_onesOf, Cond.instanceMethod yX3_onesOf, Cond.selects RX3 yX3_onesOf yX3_onesOf, Cond.code yX3_onesOf cX3_onesOf 5 (some .int), Cond.methodLink RX3 39 yX3_bitOf, Cond.instanceMethod yX3_bitOf, Cond.selects RX3 yX3_bitOf yX3_bitOf, Cond.code yX3_bitOf cX3_bitOf 4 (some .int), Cond.methodLink RL 23 yX2_put, Cond.instanceMethod yX2_put, Cond.selects RX2 yX2_put yX2_put, Cond.code yX2_put cX2_put 7 (some .int), Cond.methodLink RX2 74 yX2_isBit, Cond.instanceMethod yX2_isBit, Cond.selects RX2 yX2_isBit yX2_isBit, Cond.code yX2_isBit cX2_isBit 2 (some .boolean), Cond.methodLink RX2 77 yX2_bitOf, Cond.static yX2_bitOf]
def wsL_law_r8 : List Cond := [Cond.code yX2_bitOf cX2_bitOf 3 (some .int), Cond.methodLink RL 27 yX3_put, Cond.instanceMethod yX3_put, Cond.selects RX3 yX3_put yX3_put, Cond.code yX3_put cX3_put 5 (some .int), Cond.constantLong RX3 65 (-1), Cond.methodLink RL 28 yX2_bit, Cond.instanceMethod yX2_bit, Cond.selects RX2 yX2_bit yX2_bit, Cond.code yX2_bit cX2_bit 3 (some .int), Cond.methodLink RL 32 yX3_bit, Cond.instanceMethod yX3_bit, Cond.selects RX3 yX3_bit yX3_bit, Cond.code yX3_bit cX3_bit 3 (some .int), Cond.methodLink RL 33 yX2_ones, Cond.instanceMethod yX2_ones, Cond.selects RX2 yX2_ones yX2_ones, Cond.code yX2_ones cX2_ones 2 (some .int), Cond.methodLink RL 36 yX3_ones, Cond.instanceMethod yX3_ones, Cond.selects RX3 yX3_ones yX3_ones, Cond.code yX3_ones cX3_ones 2 (some .int), Cond.methodLink RL 37 yX2_gate, Cond.instanceMethod yX2_gate]
def wsL_law_r9 : List Cond := [Cond.selects RX2 yX2_gate yX2_gate, Cond.code yX2_gate cX2_gate 6 (some .int), Cond.methodLink RX2 93 yX2_gated, Cond.static yX2_gated, Cond.code yX2_gated cX2_gated 7 (some .long), Cond.methodLink RL 41 yX3_gate, Cond.instanceMethod yX3_gate, Cond.selects RX3 yX3_gate yX3_gate, Cond.code yX3_gate cX3_gate 6 (some .int), Cond.constantLong RX3 71 (6), Cond.methodLink RX3 73 yX3_gateRow, Cond.instanceMethod yX3_gateRow, Cond.selects RX3 yX3_gateRow yX3_gateRow, Cond.code yX3_gateRow cX3_gateRow 11 (some .long), Cond.methodLink RX3 67 yX3_gated, Cond.static yX3_gated, Cond.code yX3_gated cX3_gated 4 (some .int), Cond.methodLink RL 42 yX2_not, Cond.instanceMethod yX2_not, Cond.selects RX2 yX2_not yX2_not, Cond.code yX2_not cX2_not 3 (some .int), Cond.methodLink RL 45 yX3_not, Cond.instanceMethod yX3_not, Cond.selects RX3 yX3_not yX3_not]
def wsL_law_r10 : List Cond := [Cond.code yX3_not cX3_not 3 (some .int), Cond.methodLink RL 46 yX2_later, Cond.instanceMethod yX2_later, Cond.selects RX2 yX2_later yX2_later, Cond.code yX2_later cX2_later 4 (some .int), Cond.instanceMethod yX1_shifted, Cond.selects RX1 yX1_shifted yX1_shifted, Cond.code yX1_shifted cX1_shifted 5 (some .long), Cond.methodLink RX1 24 yX1_round, Cond.instanceMethod yX1_round, Cond.selects RX1 yX1_round yX1_round, Cond.code yX1_round cX1_round 2 (some .int), Cond.methodLink RL 49 yX3_later, Cond.instanceMethod yX3_later, Cond.selects RX3 yX3_later yX3_later, Cond.code yX3_later cX3_later 4 (some .int), Cond.constantLong RX3 77 (-64), Cond.constantLong RX3 79 (64), Cond.methodLink RX3 81 yX3_shifted, Cond.instanceMethod yX3_shifted, Cond.selects RX3 yX3_shifted yX3_shifted, Cond.code yX3_shifted cX3_shifted 7 (some .long), Cond.methodLink RL 52 yX2_flip, Cond.instanceMethod yX2_flip]
def wsL_law_r11 : List Cond := [Cond.selects RX2 yX2_flip yX2_flip, Cond.code yX2_flip cX2_flip 7 (some .int), Cond.methodLink RL 56 yX3_flip, Cond.instanceMethod yX3_flip, Cond.selects RX3 yX3_flip yX3_flip, Cond.code yX3_flip cX3_flip 8 (some .int), Cond.methodLink RL 57 yX2_both, Cond.instanceMethod yX2_both, Cond.selects RX2 yX2_both yX2_both, Cond.code yX2_both cX2_both 4 (some .int), Cond.methodLink RX2 105 yX2_onesOfSort, Cond.instanceMethod yX2_onesOfSort, Cond.selects RX2 yX2_onesOfSort yX2_onesOfSort, Cond.code yX2_onesOfSort cX2_onesOfSort 10 (some .int), Cond.methodLink RL 60 yX3_both, Cond.instanceMethod yX3_both, Cond.selects RX3 yX3_both yX3_both, Cond.code yX3_both cX3_both 4 (some .int), Cond.methodLink RX3 85 yX3_bothOf, Cond.instanceMethod yX3_bothOf, Cond.selects RX3 yX3_bothOf yX3_bothOf, Cond.code yX3_bothOf cX3_bothOf 8 (some .int), Cond.methodLink RL 61 yX2_together, Cond.instanceMethod yX2_together]
def wsL_law_r12 : List Cond := [Cond.selects RX2 yX2_together yX2_together, Cond.code yX2_together cX2_together 10 (some .int), Cond.constant RX2 109 (-100000), Cond.methodLink RX2 110 Lib.Math.min.name, Cond.static Lib.Math.min.name, Cond.initialized "java/lang/Math", Cond.code Lib.Math.min.name Lib.Math.min.code 2 (some .int), Cond.methodLink RX2 116 Lib.Math.max.name, Cond.static Lib.Math.max.name, Cond.code Lib.Math.max.name Lib.Math.max.code 2 (some .int), Cond.methodLink RL 64 yX3_together, Cond.instanceMethod yX3_together, Cond.selects RX3 yX3_together yX3_together, Cond.code yX3_together cX3_together 11 (some .int), Cond.constant RX3 89 (-100000), Cond.methodLink RL 65 yX2_miss, Cond.instanceMethod yX2_miss, Cond.selects RX2 yX2_miss yX2_miss, Cond.code yX2_miss cX2_miss 6 (some .int), Cond.methodLink RX2 119 yX2_greatestMiss, Cond.instanceMethod yX2_greatestMiss, Cond.selects RX2 yX2_greatestMiss yX2_greatestMiss, Cond.code yX2_greatestMiss cX2_greatestMiss 11 (some .int), Cond.methodLink RX2 182 Lib.Math.abs.name]
def wsL_law_r13 : List Cond := [Cond.static Lib.Math.abs.name, Cond.code Lib.Math.abs.name Lib.Math.abs.code 1 (some .int), Cond.methodLink RX2 178 yX2_dueOnes, Cond.instanceMethod yX2_dueOnes, Cond.selects RX2 yX2_dueOnes yX2_dueOnes, Cond.code yX2_dueOnes cX2_dueOnes 5 (some .int), Cond.methodLink RL 69 yX3_miss, Cond.instanceMethod yX3_miss, Cond.selects RX3 yX3_miss yX3_miss, Cond.code yX3_miss cX3_miss 9 (some .int), Cond.constantLong RX3 90 (63), Cond.fieldLink RX3 92 "BitStreamsModel" "misses" "I", Cond.fieldLink RX3 98 "BitStreamsModel" "missV" "I", Cond.fieldLink RX3 101 "BitStreamsModel" "missW" "I", Cond.methodLink RX3 95 yX3_due, Cond.instanceMethod yX3_due, Cond.selects RX3 yX3_due yX3_due, Cond.code yX3_due cX3_due 5 (some .int), Cond.methodLink RL 70 yX2_where, Cond.instanceMethod yX2_where, Cond.selects RX2 yX2_where yX2_where, Cond.code yX2_where cX2_where 2 (some .int), Cond.methodLink RL 73 yX3_where, Cond.instanceMethod yX3_where]
def wsL_law_r14 : List Cond := [Cond.selects RX3 yX3_where yX3_where, Cond.code yX3_where cX3_where 2 (some .int), Cond.methodLink RL 74 yX2_machine, Cond.instanceMethod yX2_machine, Cond.selects RX2 yX2_machine yX2_machine, Cond.code yX2_machine cX2_machine 4 (some .int), Cond.methodLink RX2 123 yX2_isMachine, Cond.static yX2_isMachine, Cond.code yX2_isMachine cX2_isMachine 1 (some .boolean), Cond.methodLink RX2 126 yX2_ranThrough, Cond.instanceMethod yX2_ranThrough, Cond.selects RX2 yX2_ranThrough yX2_ranThrough, Cond.code yX2_ranThrough cX2_ranThrough 8 (some .long), Cond.methodLink RX2 134 yX2_isUpper, Cond.static yX2_isUpper, Cond.code yX2_isUpper cX2_isUpper 2 (some .boolean), Cond.methodLink RL 77 yX3_machine, Cond.instanceMethod yX3_machine, Cond.selects RX3 yX3_machine yX3_machine, Cond.code yX3_machine cX3_machine 8 (some .int), Cond.methodLink RX3 108 yX3_isMachine, Cond.static yX3_isMachine, Cond.code yX3_isMachine cX3_isMachine 1 (some .boolean), Cond.constantLong RX3 104 (2)]
def wsL_law_r15 : List Cond := [Cond.constantLong RX3 106 (8), Cond.methodLink RL 78 yX2_state, Cond.instanceMethod yX2_state, Cond.selects RX2 yX2_state yX2_state, Cond.code yX2_state cX2_state 1 (some .int), Cond.methodLink RL 82 yX3_state, Cond.instanceMethod yX3_state, Cond.selects RX3 yX3_state yX3_state, Cond.code yX3_state cX3_state 1 (some .int), Cond.methodLink RL 83 yX2_ever, Cond.instanceMethod yX2_ever, Cond.selects RX2 yX2_ever yX2_ever, Cond.code yX2_ever cX2_ever 11 (some .long), Cond.constantLong RX2 129 (-102), Cond.methodLink RX2 131 yX2_power, Cond.static yX2_power, Cond.code yX2_power cX2_power 6 (some .long), Cond.methodLink RX2 138 yX2_inLowestTerms, Cond.static yX2_inLowestTerms, Cond.code yX2_inLowestTerms cX2_inLowestTerms 7 (some .long), Cond.methodLink RX2 191 Lib.MathLoose.abs_long.x, Cond.static Lib.MathLoose.abs_long.x, Cond.code Lib.MathLoose.abs_long.x Lib.MathLoose.abs_long.code 2 (some .long), Cond.methodLink RX2 194 yX2_commonDivisor]
def wsL_law_r16 : List Cond := [Cond.static yX2_commonDivisor, Cond.code yX2_commonDivisor cX2_commonDivisor 7 (some .long), Cond.methodLink RX2 198 Lib.MathLoose.max_long.x, Cond.static Lib.MathLoose.max_long.x, Cond.code Lib.MathLoose.max_long.x Lib.MathLoose.max_long.code 4 (some .long), Cond.methodLink RL 87 yX3_ever, Cond.instanceMethod yX3_ever, Cond.selects RX3 yX3_ever yX3_ever, Cond.code yX3_ever cX3_ever 11 (some .long), Cond.constantLong RX3 111 (-102), Cond.methodLink RX3 113 yX3_power, Cond.static yX3_power, Cond.code yX3_power cX3_power 6 (some .long), Cond.methodLink RX3 116 yX3_common, Cond.static yX3_common, Cond.code yX3_common cX3_common 10 (some .long), Cond.methodLink RL 88 yX2_degree, Cond.instanceMethod yX2_degree, Cond.selects RX2 yX2_degree yX2_degree, Cond.code yX2_degree cX2_degree 3 (some .int), Cond.instanceMethod yX0_setDegree, Cond.selects RX0 yX0_setDegree yX0_setDegree, Cond.code yX0_setDegree cX0_setDegree 4 none, Cond.methodLink RL 91 yX3_degree]
def wsL_law_r17 : List Cond := [Cond.instanceMethod yX3_degree, Cond.selects RX3 yX3_degree yX3_degree, Cond.code yX3_degree cX3_degree 4 (some .int), Cond.constantLong RX3 120 (4), Cond.constantLong RX3 122 (1000), Cond.fieldLink RX3 124 "BitStreamsModel" "degree" "I", Cond.methodLink RL 92 yX2_term, Cond.instanceMethod yX2_term, Cond.selects RX2 yX2_term yX2_term, Cond.code yX2_term cX2_term 4 (some .int), Cond.methodLink RL 95 yX3_term, Cond.instanceMethod yX3_term, Cond.selects RX3 yX3_term yX3_term, Cond.code yX3_term cX3_term 4 (some .int), Cond.constantLong RX3 127 (-1000), Cond.methodLink RL 96 yX2_part, Cond.instanceMethod yX2_part, Cond.selects RX2 yX2_part yX2_part, Cond.code yX2_part cX2_part 4 (some .long), Cond.constantLong RX2 153 (-101), Cond.instanceMethod yX0_partAbove, Cond.selects RX0 yX0_partAbove yX0_partAbove, Cond.code yX0_partAbove cX0_partAbove 6 (some .long), Cond.methodLink RX0 26 yX0_ways]
def wsL_law_r18 : List Cond := [Cond.static yX0_ways, Cond.code yX0_ways cX0_ways 5 (some .long), Cond.methodLink RX0 22 yX0_waysBut, Cond.instanceMethod yX0_waysBut, Cond.selects RX0 yX0_waysBut yX0_waysBut, Cond.code yX0_waysBut cX0_waysBut 6 (some .long), Cond.instanceMethod yX0_partBelow, Cond.selects RX0 yX0_partBelow yX0_partBelow, Cond.code yX0_partBelow cX0_partBelow 2 (some .long), Cond.methodLink RL 99 yX3_part, Cond.instanceMethod yX3_part, Cond.selects RX3 yX3_part yX3_part, Cond.code yX3_part cX3_part 4 (some .long), Cond.constantLong RX3 144 (-101), Cond.fieldLink RX3 132 "BitStreamsModel" "partUp" "J", Cond.fieldLink RX3 136 "BitStreamsModel" "partLow" "J", Cond.methodLink RX3 141 yX3_isPartial, Cond.instanceMethod yX3_isPartial, Cond.selects RX3 yX3_isPartial yX3_isPartial, Cond.code yX3_isPartial cX3_isPartial 2 (some .boolean), Cond.constantLong RX3 139 (10), Cond.methodLink RX3 146 yX3_findPart, Cond.instanceMethod yX3_findPart, Cond.selects RX3 yX3_findPart yX3_findPart]
def wsL_law_r19 : List Cond := [Cond.code yX3_findPart cX3_findPart 9 none, Cond.methodLink RX3 129 yX3_chosen, Cond.static yX3_chosen, Cond.code yX3_chosen cX3_chosen 5 (some .long), Cond.methodLink RL 100 yX2_least, Cond.instanceMethod yX2_least, Cond.selects RX2 yX2_least yX2_least, Cond.code yX2_least cX2_least 2 (some .int), Cond.instanceMethod yX0_mayBeMade, Cond.selects RX0 yX0_mayBeMade yX0_mayBeMade, Cond.code yX0_mayBeMade cX0_mayBeMade 7 (some .boolean), Cond.methodLink RX0 29 yX0_partBelow, Cond.methodLink RX0 33 yX0_partAbove, Cond.methodLink RL 103 yX3_least, Cond.instanceMethod yX3_least, Cond.selects RX3 yX3_least yX3_least, Cond.code yX3_least cX3_least 2 (some .int), Cond.methodLink RX3 150 yX3_mayBeMade, Cond.instanceMethod yX3_mayBeMade, Cond.selects RX3 yX3_mayBeMade yX3_mayBeMade, Cond.code yX3_mayBeMade cX3_mayBeMade 4 (some .boolean), Cond.methodLink RL 104 yX2_at, Cond.instanceMethod yX2_at, Cond.selects RX2 yX2_at yX2_at]
def wsL_law_r20 : List Cond := [Cond.code yX2_at cX2_at 2 (some .int), Cond.constant RX2 164 (-1000000000), Cond.instanceMethod yX0_thousandthsAt, Cond.selects RX0 yX0_thousandthsAt yX0_thousandthsAt, Cond.code yX0_thousandthsAt cX0_thousandthsAt 7 (some .int), Cond.methodLink RX0 40 Lib.MathLoose.max_long.x, Cond.constantLong RX0 46 (1000), Cond.methodLink RX0 48 yJ9_floorDiv_f86c9, Cond.static yJ9_floorDiv_f86c9, Cond.initialized RJ9, Cond.code yJ9_floorDiv_f86c9 cJ9_floorDiv_f86c9 6 (some .long), Cond.methodLink RL 107 yX3_at, Cond.instanceMethod yX3_at, Cond.selects RX3 yX3_at yX3_at, Cond.code yX3_at cX3_at 8 (some .int), Cond.constant RX3 153 (-1000000000), Cond.methodLink RL 108 yX2_make, Cond.instanceMethod yX2_make, Cond.selects RX2 yX2_make yX2_make, Cond.code yX2_make cX2_make 6 (some .int), Cond.methodLink RX2 168 yX2_formed, Cond.instanceMethod yX2_formed, Cond.selects RX2 yX2_formed yX2_formed, Cond.code yX2_formed cX2_formed 11 (some .long)]
def wsL_law_r21 : List Cond := [Cond.methodLink RL 111 yX3_make, Cond.instanceMethod yX3_make, Cond.selects RX3 yX3_make yX3_make, Cond.code yX3_make cX3_make 12 (some .int), Cond.methodLink RL 112 yX2_count, Cond.instanceMethod yX2_count, Cond.selects RX2 yX2_count yX2_count, Cond.code yX2_count cX2_count 2 (some .int), Cond.methodLink RL 115 yX3_count, Cond.instanceMethod yX3_count, Cond.selects RX3 yX3_count yX3_count, Cond.code yX3_count cX3_count 2 (some .int), Cond.methodLink RL 116 yX2_digest, Cond.instanceMethod yX2_digest, Cond.selects RX2 yX2_digest yX2_digest, Cond.code yX2_digest cX2_digest 4 (some .long), Cond.constantLong RX2 174 (4867), Cond.constantLong RX2 176 (31), Cond.methodLink RL 120 yX3_digest, Cond.instanceMethod yX3_digest, Cond.selects RX3 yX3_digest yX3_digest, Cond.code yX3_digest cX3_digest 4 (some .long), Cond.constantLong RX3 154 (4867), Cond.constantLong RX3 156 (31)]
def wsL_law : List Cond := (wsL_law_r1 ++ (wsL_law_r2 ++ (wsL_law_r3 ++ (wsL_law_r4 ++ (wsL_law_r5 ++ (wsL_law_r6 ++ (wsL_law_r7 ++ (wsL_law_r8 ++ (wsL_law_r9 ++ (wsL_law_r10 ++ (wsL_law_r11 ++ (wsL_law_r12 ++ (wsL_law_r13 ++ (wsL_law_r14 ++ (wsL_law_r15 ++ (wsL_law_r16 ++ (wsL_law_r17 ++ (wsL_law_r18 ++ (wsL_law_r19 ++ (wsL_law_r20 ++ wsL_law_r21)))))))))))))))))))) ++ wsX20 ++ wsX30 ++ wsX10 ++ wsX00 ++ ([] : List Cond)
set_option maxRecDepth 20000 in
theorem inlX0 : ∀ w ∈ wsX00, w ∈ wsL_law := fun _ h => List.mem_append_left _ (List.mem_append_right _ h)
theorem inlX1 : ∀ w ∈ wsX10, w ∈ wsL_law := fun _ h => List.mem_append_left _ (List.mem_append_left _ (List.mem_append_right _ h))
theorem inlX2 : ∀ w ∈ wsX20, w ∈ wsL_law := fun _ h => List.mem_append_left _ (List.mem_append_left _ (List.mem_append_left _ (List.mem_append_left _ (List.mem_append_right _ h))))
theorem inlX3 : ∀ w ∈ wsX30, w ∈ wsL_law := fun _ h => List.mem_append_left _ (List.mem_append_left _ (List.mem_append_left _ (List.mem_append_right _ h)))
end
section
theorem inJ6 : ∀ w ∈ wsJ60, w ∈ lw_tbl := by decide +kernel
theorem inJ13 : ∀ w ∈ wsJ130, w ∈ lw_tbl := by decide +kernel
theorem inJ9 : ∀ w ∈ wsJ90, w ∈ lw_tbl := by decide +kernel
theorem dX0_init_0 : decode cX0_init 0 = .ok (.aload_n 0, 1) := by decide +kernel
theorem dX0_init_1 : decode cX0_init 1 = .ok (.invokespecial 3, 3) := by decide +kernel
theorem dX0_init_4 : decode cX0_init 4 = .ok (.aload_n 0, 1) := by decide +kernel
theorem dX0_init_5 : decode cX0_init 5 = .ok (.iconst 5, 1) := by decide +kernel
theorem dX0_init_6 : decode cX0_init 6 = .ok (.newarray .int, 2) := by decide +kernel
theorem dX0_init_8 : decode cX0_init 8 = .ok (.putfield 9, 3) := by decide +kernel
theorem dX0_init_11 : decode cX0_init 11 = .ok (.aload_n 0, 1) := by decide +kernel
theorem dX0_init_12 : decode cX0_init 12 = .ok (.iconst 0, 1) := by decide +kernel
theorem dX0_init_13 : decode cX0_init 13 = .ok (.putfield 15, 3) := by decide +kernel
theorem dX0_init_16 : decode cX0_init 16 = .ok (.aload_n 0, 1) := by decide +kernel
theorem dX0_init_17 : decode cX0_init 17 = .ok (.iconst 1, 1) := by decide +kernel
theorem dX0_init_18 : decode cX0_init 18 = .ok (.putfield 19, 3) := by decide +kernel
theorem dX0_init_21 : decode cX0_init 21 = .ok (.return_, 1) := by decide +kernel
theorem dX0_setDegree_0 : decode cX0_setDegree 0 = .ok (.aload_n 0, 1) := by decide +kernel
theorem dX0_setDegree_1 : decode cX0_setDegree 1 = .ok (.iload_n 1, 1) := by decide +kernel
theorem dX0_setDegree_2 : decode cX0_setDegree 2 = .ok (.putfield 15, 3) := by decide +kernel
theorem dX0_setDegree_5 : decode cX0_setDegree 5 = .ok (.aload_n 0, 1) := by decide +kernel
theorem dX0_setDegree_6 : decode cX0_setDegree 6 = .ok (.iload_n 2, 1) := by decide +kernel
theorem dX0_setDegree_7 : decode cX0_setDegree 7 = .ok (.putfield 19, 3) := by decide +kernel
theorem dX0_setDegree_10 : decode cX0_setDegree 10 = .ok (.iload_n 1, 1) := by decide +kernel
theorem dX0_setDegree_11 : decode cX0_setDegree 11 = .ok (.iconst 1, 1) := by decide +kernel
theorem dX0_setDegree_12 : decode cX0_setDegree 12 = .ok (.iadd, 1) := by decide +kernel
theorem dX0_setDegree_13 : decode cX0_setDegree 13 = .ok (.istore_n 3, 1) := by decide +kernel
theorem dX0_setDegree_14 : decode cX0_setDegree 14 = .ok (.iload_n 3, 1) := by decide +kernel
theorem dX0_setDegree_15 : decode cX0_setDegree 15 = .ok (.iconst 4, 1) := by decide +kernel
theorem dX0_setDegree_16 : decode cX0_setDegree 16 = .ok (.if_icmp .gt 16, 3) := by decide +kernel
theorem dX0_setDegree_19 : decode cX0_setDegree 19 = .ok (.aload_n 0, 1) := by decide +kernel
theorem dX0_setDegree_20 : decode cX0_setDegree 20 = .ok (.getfield 9, 3) := by decide +kernel
theorem dX0_setDegree_23 : decode cX0_setDegree 23 = .ok (.iload_n 3, 1) := by decide +kernel
theorem dX0_setDegree_24 : decode cX0_setDegree 24 = .ok (.iconst 0, 1) := by decide +kernel
theorem dX0_setDegree_25 : decode cX0_setDegree 25 = .ok (.iastore, 1) := by decide +kernel
theorem dX0_setDegree_26 : decode cX0_setDegree 26 = .ok (.iinc 3 1, 3) := by decide +kernel
theorem dX0_setDegree_29 : decode cX0_setDegree 29 = .ok (.goto (-15), 3) := by decide +kernel
theorem dX0_setDegree_32 : decode cX0_setDegree 32 = .ok (.return_, 1) := by decide +kernel
set_option maxRecDepth 20000 in
theorem ggX0_partBelow_X0_waysBut : GoodIn wsX0_partBelow wsX0_waysBut := goodIn_r _ [6, 7, 8, 9, 5, 10, 11, 12, 13] (by decide +kernel) (by decide +kernel)
set_option maxRecDepth 20000 in
theorem gX0_partBelow_X0_waysBut : GoodIn wsX0_partBelow (wsV RX0 22 RX0 yX0_waysBut wsX0_waysBut) := goodIn_app (goodIn_of _ (by decide +kernel)) ggX0_partBelow_X0_waysBut
theorem dX0_partBelow_0 : decode cX0_partBelow 0 = .ok (.aload_n 0, 1) := by decide +kernel
theorem dX0_partBelow_1 : decode cX0_partBelow 1 = .ok (.getfield 19, 3) := by decide +kernel
theorem dX0_partBelow_4 : decode cX0_partBelow 4 = .ok (.i2l, 1) := by decide +kernel
theorem dX0_partBelow_5 : decode cX0_partBelow 5 = .ok (.aload_n 0, 1) := by decide +kernel
theorem dX0_partBelow_6 : decode cX0_partBelow 6 = .ok (.iload_n 1, 1) := by decide +kernel
theorem dX0_partBelow_7 : decode cX0_partBelow 7 = .ok (.iconst (-1), 1) := by decide +kernel
theorem dX0_partBelow_8 : decode cX0_partBelow 8 = .ok (.invokevirtual 22, 3) := by decide +kernel
theorem dX0_partBelow_11 : decode cX0_partBelow 11 = .ok (.lmul, 1) := by decide +kernel
theorem dX0_partBelow_12 : decode cX0_partBelow 12 = .ok (.lreturn, 1) := by decide +kernel
set_option maxRecDepth 20000 in
theorem ggX0_partAbove_X0_ways : GoodIn wsX0_partAbove wsX0_ways := goodIn_r _ [6] (by decide +kernel) (by decide +kernel)
set_option maxRecDepth 20000 in
theorem gX0_partAbove_X0_ways : GoodIn wsX0_partAbove (va_wsS RX0 26 yX0_ways wsX0_ways) := goodIn_app (goodIn_of _ (by decide +kernel)) ggX0_partAbove_X0_ways
set_option maxRecDepth 20000 in
theorem ggX0_partAbove_X0_waysBut : GoodIn wsX0_partAbove wsX0_waysBut := goodIn_r _ [10, 1, 3, 4, 5, 6, 11, 12, 13] (by decide +kernel) (by decide +kernel)
set_option maxRecDepth 20000 in
theorem gX0_partAbove_X0_waysBut : GoodIn wsX0_partAbove (wsV RX0 22 RX0 yX0_waysBut wsX0_waysBut) := goodIn_app (goodIn_of _ (by decide +kernel)) ggX0_partAbove_X0_waysBut
theorem dX0_partAbove_0 : decode cX0_partAbove 0 = .ok (.lconst 0, 1) := by decide +kernel
theorem dX0_partAbove_1 : decode cX0_partAbove 1 = .ok (.lstore_n 3, 1) := by decide +kernel
theorem dX0_partAbove_2 : decode cX0_partAbove 2 = .ok (.iconst 0, 1) := by decide +kernel
theorem dX0_partAbove_3 : decode cX0_partAbove 3 = .ok (.istore 5, 2) := by decide +kernel
theorem dX0_partAbove_5 : decode cX0_partAbove 5 = .ok (.iload 5, 2) := by decide +kernel
theorem dX0_partAbove_7 : decode cX0_partAbove 7 = .ok (.aload_n 0, 1) := by decide +kernel
theorem dX0_partAbove_8 : decode cX0_partAbove 8 = .ok (.getfield 15, 3) := by decide +kernel
theorem dX0_partAbove_11 : decode cX0_partAbove 11 = .ok (.if_icmp .gt 41, 3) := by decide +kernel
theorem dX0_partAbove_14 : decode cX0_partAbove 14 = .ok (.iload 5, 2) := by decide +kernel
theorem dX0_partAbove_16 : decode cX0_partAbove 16 = .ok (.iload_n 2, 1) := by decide +kernel
theorem dX0_partAbove_17 : decode cX0_partAbove 17 = .ok (.if_icmp .gt 35, 3) := by decide +kernel
theorem dX0_partAbove_20 : decode cX0_partAbove 20 = .ok (.lload_n 3, 1) := by decide +kernel
theorem dX0_partAbove_21 : decode cX0_partAbove 21 = .ok (.iload_n 2, 1) := by decide +kernel
theorem dX0_partAbove_22 : decode cX0_partAbove 22 = .ok (.iload 5, 2) := by decide +kernel
theorem dX0_partAbove_24 : decode cX0_partAbove 24 = .ok (.invokestatic 26, 3) := by decide +kernel
theorem dX0_partAbove_27 : decode cX0_partAbove 27 = .ok (.aload_n 0, 1) := by decide +kernel
theorem dX0_partAbove_28 : decode cX0_partAbove 28 = .ok (.getfield 9, 3) := by decide +kernel
theorem dX0_partAbove_31 : decode cX0_partAbove 31 = .ok (.iload 5, 2) := by decide +kernel
theorem dX0_partAbove_33 : decode cX0_partAbove 33 = .ok (.iaload, 1) := by decide +kernel
theorem dX0_partAbove_34 : decode cX0_partAbove 34 = .ok (.i2l, 1) := by decide +kernel
theorem dX0_partAbove_35 : decode cX0_partAbove 35 = .ok (.lmul, 1) := by decide +kernel
theorem dX0_partAbove_36 : decode cX0_partAbove 36 = .ok (.aload_n 0, 1) := by decide +kernel
theorem dX0_partAbove_37 : decode cX0_partAbove 37 = .ok (.iload_n 1, 1) := by decide +kernel
theorem dX0_partAbove_38 : decode cX0_partAbove 38 = .ok (.iload 5, 2) := by decide +kernel
theorem dX0_partAbove_40 : decode cX0_partAbove 40 = .ok (.invokevirtual 22, 3) := by decide +kernel
theorem dX0_partAbove_43 : decode cX0_partAbove 43 = .ok (.lmul, 1) := by decide +kernel
theorem dX0_partAbove_44 : decode cX0_partAbove 44 = .ok (.ladd, 1) := by decide +kernel
theorem dX0_partAbove_45 : decode cX0_partAbove 45 = .ok (.lstore_n 3, 1) := by decide +kernel
theorem dX0_partAbove_46 : decode cX0_partAbove 46 = .ok (.iinc 5 1, 3) := by decide +kernel
theorem dX0_partAbove_49 : decode cX0_partAbove 49 = .ok (.goto (-44), 3) := by decide +kernel
theorem dX0_partAbove_52 : decode cX0_partAbove 52 = .ok (.lload_n 3, 1) := by decide +kernel
theorem dX0_partAbove_53 : decode cX0_partAbove 53 = .ok (.lreturn, 1) := by decide +kernel
set_option maxRecDepth 20000 in
theorem ggX0_mayBeMade_X0_partBelow : GoodIn wsX0_mayBeMade wsX0_partBelow := goodIn_r _ [5, 6, 7, 8, 9, 4, 10, 11, 12, 13, 14, 20, 21, 22] (by decide +kernel) (by decide +kernel)
set_option maxRecDepth 20000 in
theorem gX0_mayBeMade_X0_partBelow : GoodIn wsX0_mayBeMade (wsV RX0 29 RX0 yX0_partBelow wsX0_partBelow) := goodIn_app (goodIn_of _ (by decide +kernel)) ggX0_mayBeMade_X0_partBelow
set_option maxRecDepth 20000 in
theorem ggX0_mayBeMade_X0_partAbove : GoodIn wsX0_mayBeMade wsX0_partAbove := goodIn_r _ [18, 11, 19, 12, 13, 4, 14, 7, 8, 9, 10, 20, 21, 22] (by decide +kernel) (by decide +kernel)
set_option maxRecDepth 20000 in
theorem gX0_mayBeMade_X0_partAbove : GoodIn wsX0_mayBeMade (wsV RX0 33 RX0 yX0_partAbove wsX0_partAbove) := goodIn_app (goodIn_of _ (by decide +kernel)) ggX0_mayBeMade_X0_partAbove
theorem dX0_mayBeMade_0 : decode cX0_mayBeMade 0 = .ok (.aload_n 0, 1) := by decide +kernel
theorem dX0_mayBeMade_1 : decode cX0_mayBeMade 1 = .ok (.iload_n 1, 1) := by decide +kernel
theorem dX0_mayBeMade_2 : decode cX0_mayBeMade 2 = .ok (.invokevirtual 29, 3) := by decide +kernel
theorem dX0_mayBeMade_5 : decode cX0_mayBeMade 5 = .ok (.lstore_n 2, 1) := by decide +kernel
theorem dX0_mayBeMade_6 : decode cX0_mayBeMade 6 = .ok (.iconst 0, 1) := by decide +kernel
theorem dX0_mayBeMade_7 : decode cX0_mayBeMade 7 = .ok (.istore 4, 2) := by decide +kernel
theorem dX0_mayBeMade_9 : decode cX0_mayBeMade 9 = .ok (.iload 4, 2) := by decide +kernel
theorem dX0_mayBeMade_11 : decode cX0_mayBeMade 11 = .ok (.iload_n 1, 1) := by decide +kernel
theorem dX0_mayBeMade_12 : decode cX0_mayBeMade 12 = .ok (.if_icmp .gt 34, 3) := by decide +kernel
theorem dX0_mayBeMade_15 : decode cX0_mayBeMade 15 = .ok (.aload_n 0, 1) := by decide +kernel
theorem dX0_mayBeMade_16 : decode cX0_mayBeMade 16 = .ok (.iload_n 1, 1) := by decide +kernel
theorem dX0_mayBeMade_17 : decode cX0_mayBeMade 17 = .ok (.iload 4, 2) := by decide +kernel
theorem dX0_mayBeMade_19 : decode cX0_mayBeMade 19 = .ok (.invokevirtual 33, 3) := by decide +kernel
theorem dX0_mayBeMade_22 : decode cX0_mayBeMade 22 = .ok (.lstore 5, 2) := by decide +kernel
theorem dX0_mayBeMade_24 : decode cX0_mayBeMade 24 = .ok (.lload 5, 2) := by decide +kernel
theorem dX0_mayBeMade_26 : decode cX0_mayBeMade 26 = .ok (.lconst 0, 1) := by decide +kernel
theorem dX0_mayBeMade_27 : decode cX0_mayBeMade 27 = .ok (.lcmp, 1) := by decide +kernel
theorem dX0_mayBeMade_28 : decode cX0_mayBeMade 28 = .ok (.ifCond .lt 10, 3) := by decide +kernel
theorem dX0_mayBeMade_31 : decode cX0_mayBeMade 31 = .ok (.lload 5, 2) := by decide +kernel
theorem dX0_mayBeMade_33 : decode cX0_mayBeMade 33 = .ok (.lload_n 2, 1) := by decide +kernel
theorem dX0_mayBeMade_34 : decode cX0_mayBeMade 34 = .ok (.lcmp, 1) := by decide +kernel
theorem dX0_mayBeMade_35 : decode cX0_mayBeMade 35 = .ok (.ifCond .le 5, 3) := by decide +kernel
theorem dX0_mayBeMade_38 : decode cX0_mayBeMade 38 = .ok (.iconst 0, 1) := by decide +kernel
theorem dX0_mayBeMade_39 : decode cX0_mayBeMade 39 = .ok (.ireturn, 1) := by decide +kernel
theorem dX0_mayBeMade_40 : decode cX0_mayBeMade 40 = .ok (.iinc 4 1, 3) := by decide +kernel
theorem dX0_mayBeMade_43 : decode cX0_mayBeMade 43 = .ok (.goto (-34), 3) := by decide +kernel
theorem dX0_mayBeMade_46 : decode cX0_mayBeMade 46 = .ok (.iconst 1, 1) := by decide +kernel
theorem dX0_mayBeMade_47 : decode cX0_mayBeMade 47 = .ok (.ireturn, 1) := by decide +kernel
set_option maxRecDepth 20000 in
theorem ggX0_thousandthsAt_X2_power : GoodIn wsX0_thousandthsAt wsX2_power := goodIn_r _ [11] (by decide +kernel) (by decide +kernel)
set_option maxRecDepth 20000 in
theorem gX0_thousandthsAt_X2_power_n36 : GoodIn wsX0_thousandthsAt (wsX2_power) := ggX0_thousandthsAt_X2_power
set_option maxRecDepth 20000 in
theorem ggX0_thousandthsAt_J9_floorDiv_f86c9 : GoodIn wsX0_thousandthsAt wsJ9_floorDiv_f86c9 := goodIn_r _ [15] (by decide +kernel) (by decide +kernel)
set_option maxRecDepth 20000 in
theorem gX0_thousandthsAt_J9_floorDiv_f86c9 : GoodIn wsX0_thousandthsAt (va_wsS RX0 48 yJ9_floorDiv_f86c9 wsJ9_floorDiv_f86c9) := goodIn_app (goodIn_of _ (by decide +kernel)) ggX0_thousandthsAt_J9_floorDiv_f86c9
theorem dX0_thousandthsAt_0 : decode cX0_thousandthsAt 0 = .ok (.lconst 0, 1) := by decide +kernel
theorem dX0_thousandthsAt_1 : decode cX0_thousandthsAt 1 = .ok (.lstore_n 3, 1) := by decide +kernel
theorem dX0_thousandthsAt_2 : decode cX0_thousandthsAt 2 = .ok (.iconst 0, 1) := by decide +kernel
theorem dX0_thousandthsAt_3 : decode cX0_thousandthsAt 3 = .ok (.istore 5, 2) := by decide +kernel
theorem dX0_thousandthsAt_5 : decode cX0_thousandthsAt 5 = .ok (.iload 5, 2) := by decide +kernel
theorem dX0_thousandthsAt_7 : decode cX0_thousandthsAt 7 = .ok (.aload_n 0, 1) := by decide +kernel
theorem dX0_thousandthsAt_8 : decode cX0_thousandthsAt 8 = .ok (.getfield 15, 3) := by decide +kernel
theorem dX0_thousandthsAt_11 : decode cX0_thousandthsAt 11 = .ok (.if_icmp .gt 41, 3) := by decide +kernel
theorem dX0_thousandthsAt_14 : decode cX0_thousandthsAt 14 = .ok (.lload_n 3, 1) := by decide +kernel
theorem dX0_thousandthsAt_15 : decode cX0_thousandthsAt 15 = .ok (.aload_n 0, 1) := by decide +kernel
theorem dX0_thousandthsAt_16 : decode cX0_thousandthsAt 16 = .ok (.getfield 9, 3) := by decide +kernel
theorem dX0_thousandthsAt_19 : decode cX0_thousandthsAt 19 = .ok (.iload 5, 2) := by decide +kernel
theorem dX0_thousandthsAt_21 : decode cX0_thousandthsAt 21 = .ok (.iaload, 1) := by decide +kernel
theorem dX0_thousandthsAt_22 : decode cX0_thousandthsAt 22 = .ok (.i2l, 1) := by decide +kernel
theorem dX0_thousandthsAt_23 : decode cX0_thousandthsAt 23 = .ok (.iload_n 1, 1) := by decide +kernel
theorem dX0_thousandthsAt_24 : decode cX0_thousandthsAt 24 = .ok (.i2l, 1) := by decide +kernel
theorem dX0_thousandthsAt_25 : decode cX0_thousandthsAt 25 = .ok (.iload 5, 2) := by decide +kernel
theorem dX0_thousandthsAt_27 : decode cX0_thousandthsAt 27 = .ok (.invokestatic 36, 3) := by decide +kernel
theorem dX0_thousandthsAt_30 : decode cX0_thousandthsAt 30 = .ok (.lmul, 1) := by decide +kernel
theorem dX0_thousandthsAt_31 : decode cX0_thousandthsAt 31 = .ok (.iload_n 2, 1) := by decide +kernel
theorem dX0_thousandthsAt_32 : decode cX0_thousandthsAt 32 = .ok (.i2l, 1) := by decide +kernel
theorem dX0_thousandthsAt_33 : decode cX0_thousandthsAt 33 = .ok (.aload_n 0, 1) := by decide +kernel
theorem dX0_thousandthsAt_34 : decode cX0_thousandthsAt 34 = .ok (.getfield 15, 3) := by decide +kernel
theorem dX0_thousandthsAt_37 : decode cX0_thousandthsAt 37 = .ok (.iload 5, 2) := by decide +kernel
theorem dX0_thousandthsAt_39 : decode cX0_thousandthsAt 39 = .ok (.isub, 1) := by decide +kernel
theorem dX0_thousandthsAt_40 : decode cX0_thousandthsAt 40 = .ok (.invokestatic 36, 3) := by decide +kernel
theorem dX0_thousandthsAt_43 : decode cX0_thousandthsAt 43 = .ok (.lmul, 1) := by decide +kernel
theorem dX0_thousandthsAt_44 : decode cX0_thousandthsAt 44 = .ok (.ladd, 1) := by decide +kernel
theorem dX0_thousandthsAt_45 : decode cX0_thousandthsAt 45 = .ok (.lstore_n 3, 1) := by decide +kernel
theorem dX0_thousandthsAt_46 : decode cX0_thousandthsAt 46 = .ok (.iinc 5 1, 3) := by decide +kernel
theorem dX0_thousandthsAt_49 : decode cX0_thousandthsAt 49 = .ok (.goto (-44), 3) := by decide +kernel
theorem dX0_thousandthsAt_52 : decode cX0_thousandthsAt 52 = .ok (.aload_n 0, 1) := by decide +kernel
theorem dX0_thousandthsAt_53 : decode cX0_thousandthsAt 53 = .ok (.getfield 19, 3) := by decide +kernel
theorem dX0_thousandthsAt_56 : decode cX0_thousandthsAt 56 = .ok (.i2l, 1) := by decide +kernel
theorem dX0_thousandthsAt_57 : decode cX0_thousandthsAt 57 = .ok (.iload_n 2, 1) := by decide +kernel
theorem dX0_thousandthsAt_58 : decode cX0_thousandthsAt 58 = .ok (.i2l, 1) := by decide +kernel
theorem dX0_thousandthsAt_59 : decode cX0_thousandthsAt 59 = .ok (.aload_n 0, 1) := by decide +kernel
theorem dX0_thousandthsAt_60 : decode cX0_thousandthsAt 60 = .ok (.getfield 15, 3) := by decide +kernel
theorem dX0_thousandthsAt_63 : decode cX0_thousandthsAt 63 = .ok (.invokestatic 36, 3) := by decide +kernel
theorem dX0_thousandthsAt_66 : decode cX0_thousandthsAt 66 = .ok (.lmul, 1) := by decide +kernel
theorem dX0_thousandthsAt_67 : decode cX0_thousandthsAt 67 = .ok (.lconst 1, 1) := by decide +kernel
theorem dX0_thousandthsAt_68 : decode cX0_thousandthsAt 68 = .ok (.invokestatic 40, 3) := by decide +kernel
theorem dX0_thousandthsAt_71 : decode cX0_thousandthsAt 71 = .ok (.lstore 5, 2) := by decide +kernel
theorem dX0_thousandthsAt_73 : decode cX0_thousandthsAt 73 = .ok (.ldc2_w 46, 3) := by decide +kernel
theorem dX0_thousandthsAt_76 : decode cX0_thousandthsAt 76 = .ok (.lload_n 3, 1) := by decide +kernel
theorem dX0_thousandthsAt_77 : decode cX0_thousandthsAt 77 = .ok (.lmul, 1) := by decide +kernel
theorem dX0_thousandthsAt_78 : decode cX0_thousandthsAt 78 = .ok (.lload 5, 2) := by decide +kernel
theorem dX0_thousandthsAt_80 : decode cX0_thousandthsAt 80 = .ok (.invokestatic 48, 3) := by decide +kernel
theorem dX0_thousandthsAt_83 : decode cX0_thousandthsAt 83 = .ok (.l2i, 1) := by decide +kernel
theorem dX0_thousandthsAt_84 : decode cX0_thousandthsAt 84 = .ok (.ireturn, 1) := by decide +kernel
set_option maxRecDepth 20000 in
theorem ggX0_waysBut_X0_ways : GoodIn wsX0_waysBut wsX0_ways := goodIn_r _ [5] (by decide +kernel) (by decide +kernel)
set_option maxRecDepth 20000 in
theorem gX0_waysBut_X0_ways : GoodIn wsX0_waysBut (va_wsS RX0 26 yX0_ways wsX0_ways) := goodIn_app (goodIn_of _ (by decide +kernel)) ggX0_waysBut_X0_ways
theorem dX0_waysBut_0 : decode cX0_waysBut 0 = .ok (.lconst 1, 1) := by decide +kernel
theorem dX0_waysBut_1 : decode cX0_waysBut 1 = .ok (.lstore_n 3, 1) := by decide +kernel
theorem dX0_waysBut_2 : decode cX0_waysBut 2 = .ok (.iconst 0, 1) := by decide +kernel
theorem dX0_waysBut_3 : decode cX0_waysBut 3 = .ok (.istore 5, 2) := by decide +kernel
theorem dX0_waysBut_5 : decode cX0_waysBut 5 = .ok (.iload 5, 2) := by decide +kernel
theorem dX0_waysBut_7 : decode cX0_waysBut 7 = .ok (.aload_n 0, 1) := by decide +kernel
theorem dX0_waysBut_8 : decode cX0_waysBut 8 = .ok (.getfield 15, 3) := by decide +kernel
theorem dX0_waysBut_11 : decode cX0_waysBut 11 = .ok (.if_icmp .gt 24, 3) := by decide +kernel
theorem dX0_waysBut_14 : decode cX0_waysBut 14 = .ok (.iload 5, 2) := by decide +kernel
theorem dX0_waysBut_16 : decode cX0_waysBut 16 = .ok (.iload_n 2, 1) := by decide +kernel
theorem dX0_waysBut_17 : decode cX0_waysBut 17 = .ok (.if_icmp .eq 12, 3) := by decide +kernel
theorem dX0_waysBut_20 : decode cX0_waysBut 20 = .ok (.lload_n 3, 1) := by decide +kernel
theorem dX0_waysBut_21 : decode cX0_waysBut 21 = .ok (.iload_n 1, 1) := by decide +kernel
theorem dX0_waysBut_22 : decode cX0_waysBut 22 = .ok (.iload 5, 2) := by decide +kernel
theorem dX0_waysBut_24 : decode cX0_waysBut 24 = .ok (.invokestatic 26, 3) := by decide +kernel
theorem dX0_waysBut_27 : decode cX0_waysBut 27 = .ok (.lmul, 1) := by decide +kernel
theorem dX0_waysBut_28 : decode cX0_waysBut 28 = .ok (.lstore_n 3, 1) := by decide +kernel
theorem dX0_waysBut_29 : decode cX0_waysBut 29 = .ok (.iinc 5 1, 3) := by decide +kernel
theorem dX0_waysBut_32 : decode cX0_waysBut 32 = .ok (.goto (-27), 3) := by decide +kernel
theorem dX0_waysBut_35 : decode cX0_waysBut 35 = .ok (.lload_n 3, 1) := by decide +kernel
theorem dX0_waysBut_36 : decode cX0_waysBut 36 = .ok (.lreturn, 1) := by decide +kernel
theorem dX0_ways_0 : decode cX0_ways 0 = .ok (.lconst 1, 1) := by decide +kernel
theorem dX0_ways_1 : decode cX0_ways 1 = .ok (.lstore_n 2, 1) := by decide +kernel
theorem dX0_ways_2 : decode cX0_ways 2 = .ok (.iconst 1, 1) := by decide +kernel
theorem dX0_ways_3 : decode cX0_ways 3 = .ok (.istore 4, 2) := by decide +kernel
theorem dX0_ways_5 : decode cX0_ways 5 = .ok (.iload 4, 2) := by decide +kernel
theorem dX0_ways_7 : decode cX0_ways 7 = .ok (.iload_n 1, 1) := by decide +kernel
theorem dX0_ways_8 : decode cX0_ways 8 = .ok (.if_icmp .gt 23, 3) := by decide +kernel
theorem dX0_ways_11 : decode cX0_ways 11 = .ok (.lload_n 2, 1) := by decide +kernel
theorem dX0_ways_12 : decode cX0_ways 12 = .ok (.iload_n 0, 1) := by decide +kernel
theorem dX0_ways_13 : decode cX0_ways 13 = .ok (.iload_n 1, 1) := by decide +kernel
theorem dX0_ways_14 : decode cX0_ways 14 = .ok (.isub, 1) := by decide +kernel
theorem dX0_ways_15 : decode cX0_ways 15 = .ok (.iload 4, 2) := by decide +kernel
theorem dX0_ways_17 : decode cX0_ways 17 = .ok (.iadd, 1) := by decide +kernel
theorem dX0_ways_18 : decode cX0_ways 18 = .ok (.i2l, 1) := by decide +kernel
theorem dX0_ways_19 : decode cX0_ways 19 = .ok (.lmul, 1) := by decide +kernel
theorem dX0_ways_20 : decode cX0_ways 20 = .ok (.iload 4, 2) := by decide +kernel
theorem dX0_ways_22 : decode cX0_ways 22 = .ok (.i2l, 1) := by decide +kernel
theorem dX0_ways_23 : decode cX0_ways 23 = .ok (.ldiv, 1) := by decide +kernel
theorem dX0_ways_24 : decode cX0_ways 24 = .ok (.lstore_n 2, 1) := by decide +kernel
theorem dX0_ways_25 : decode cX0_ways 25 = .ok (.iinc 4 1, 3) := by decide +kernel
theorem dX0_ways_28 : decode cX0_ways 28 = .ok (.goto (-23), 3) := by decide +kernel
theorem dX0_ways_31 : decode cX0_ways 31 = .ok (.lload_n 2, 1) := by decide +kernel
theorem dX0_ways_32 : decode cX0_ways 32 = .ok (.lreturn, 1) := by decide +kernel
set_option maxRecDepth 20000 in
theorem ggX1_init_J6_bitCount_0f7a4 : GoodIn wsX1_init wsJ6_bitCount_0f7a4 := goodIn_r _ [9, 10, 11, 12] (by decide +kernel) (by decide +kernel)
set_option maxRecDepth 20000 in
theorem gX1_init_J6_bitCount_0f7a4 : GoodIn wsX1_init (va_wsS RX1 15 yJ6_bitCount_0f7a4 wsJ6_bitCount_0f7a4) := goodIn_app (goodIn_of _ (by decide +kernel)) ggX1_init_J6_bitCount_0f7a4
theorem dX1_init_0 : decode cX1_init 0 = .ok (.aload_n 0, 1) := by decide +kernel
theorem dX1_init_1 : decode cX1_init 1 = .ok (.invokespecial 3, 3) := by decide +kernel
theorem dX1_init_4 : decode cX1_init 4 = .ok (.aload_n 0, 1) := by decide +kernel
theorem dX1_init_5 : decode cX1_init 5 = .ok (.bipush 8, 2) := by decide +kernel
theorem dX1_init_7 : decode cX1_init 7 = .ok (.putfield 9, 3) := by decide +kernel
theorem dX1_init_10 : decode cX1_init 10 = .ok (.aload_n 0, 1) := by decide +kernel
theorem dX1_init_11 : decode cX1_init 11 = .ok (.bipush 7, 2) := by decide +kernel
theorem dX1_init_13 : decode cX1_init 13 = .ok (.invokestatic 15, 3) := by decide +kernel
theorem dX1_init_16 : decode cX1_init 16 = .ok (.putfield 21, 3) := by decide +kernel
theorem dX1_init_19 : decode cX1_init 19 = .ok (.return_, 1) := by decide +kernel
set_option maxRecDepth 20000 in
theorem ggX1_setLength_J6_bitCount_0f7a4 : GoodIn wsX1_setLength wsJ6_bitCount_0f7a4 := goodIn_r _ [6, 7, 8, 9] (by decide +kernel) (by decide +kernel)
set_option maxRecDepth 20000 in
theorem gX1_setLength_J6_bitCount_0f7a4 : GoodIn wsX1_setLength (va_wsS RX1 15 yJ6_bitCount_0f7a4 wsJ6_bitCount_0f7a4) := goodIn_app (goodIn_of _ (by decide +kernel)) ggX1_setLength_J6_bitCount_0f7a4
theorem dX1_setLength_0 : decode cX1_setLength 0 = .ok (.aload_n 0, 1) := by decide +kernel
theorem dX1_setLength_1 : decode cX1_setLength 1 = .ok (.iload_n 1, 1) := by decide +kernel
theorem dX1_setLength_2 : decode cX1_setLength 2 = .ok (.putfield 9, 3) := by decide +kernel
theorem dX1_setLength_5 : decode cX1_setLength 5 = .ok (.aload_n 0, 1) := by decide +kernel
theorem dX1_setLength_6 : decode cX1_setLength 6 = .ok (.iload_n 1, 1) := by decide +kernel
theorem dX1_setLength_7 : decode cX1_setLength 7 = .ok (.iconst 1, 1) := by decide +kernel
theorem dX1_setLength_8 : decode cX1_setLength 8 = .ok (.isub, 1) := by decide +kernel
theorem dX1_setLength_9 : decode cX1_setLength 9 = .ok (.invokestatic 15, 3) := by decide +kernel
theorem dX1_setLength_12 : decode cX1_setLength 12 = .ok (.putfield 21, 3) := by decide +kernel
theorem dX1_setLength_15 : decode cX1_setLength 15 = .ok (.return_, 1) := by decide +kernel
theorem dX1_round_0 : decode cX1_round 0 = .ok (.iload_n 1, 1) := by decide +kernel
theorem dX1_round_1 : decode cX1_round 1 = .ok (.aload_n 0, 1) := by decide +kernel
theorem dX1_round_2 : decode cX1_round 2 = .ok (.getfield 9, 3) := by decide +kernel
theorem dX1_round_5 : decode cX1_round 5 = .ok (.iconst 1, 1) := by decide +kernel
theorem dX1_round_6 : decode cX1_round 6 = .ok (.isub, 1) := by decide +kernel
theorem dX1_round_7 : decode cX1_round 7 = .ok (.iand, 1) := by decide +kernel
theorem dX1_round_8 : decode cX1_round 8 = .ok (.ireturn, 1) := by decide +kernel
theorem dX1_turned_0 : decode cX1_turned 0 = .ok (.iconst 0, 1) := by decide +kernel
theorem dX1_turned_1 : decode cX1_turned 1 = .ok (.istore_n 2, 1) := by decide +kernel
theorem dX1_turned_2 : decode cX1_turned 2 = .ok (.iconst 0, 1) := by decide +kernel
theorem dX1_turned_3 : decode cX1_turned 3 = .ok (.istore_n 3, 1) := by decide +kernel
theorem dX1_turned_4 : decode cX1_turned 4 = .ok (.iload_n 3, 1) := by decide +kernel
theorem dX1_turned_5 : decode cX1_turned 5 = .ok (.aload_n 0, 1) := by decide +kernel
theorem dX1_turned_6 : decode cX1_turned 6 = .ok (.getfield 21, 3) := by decide +kernel
theorem dX1_turned_9 : decode cX1_turned 9 = .ok (.if_icmp .ge 19, 3) := by decide +kernel
theorem dX1_turned_12 : decode cX1_turned 12 = .ok (.iload_n 2, 1) := by decide +kernel
theorem dX1_turned_13 : decode cX1_turned 13 = .ok (.iconst 1, 1) := by decide +kernel
theorem dX1_turned_14 : decode cX1_turned 14 = .ok (.ishl, 1) := by decide +kernel
theorem dX1_turned_15 : decode cX1_turned 15 = .ok (.iload_n 1, 1) := by decide +kernel
theorem dX1_turned_16 : decode cX1_turned 16 = .ok (.iload_n 3, 1) := by decide +kernel
theorem dX1_turned_17 : decode cX1_turned 17 = .ok (.ishr, 1) := by decide +kernel
theorem dX1_turned_18 : decode cX1_turned 18 = .ok (.iconst 1, 1) := by decide +kernel
theorem dX1_turned_19 : decode cX1_turned 19 = .ok (.iand, 1) := by decide +kernel
theorem dX1_turned_20 : decode cX1_turned 20 = .ok (.ior, 1) := by decide +kernel
theorem dX1_turned_21 : decode cX1_turned 21 = .ok (.istore_n 2, 1) := by decide +kernel
theorem dX1_turned_22 : decode cX1_turned 22 = .ok (.iinc 3 1, 3) := by decide +kernel
theorem dX1_turned_25 : decode cX1_turned 25 = .ok (.goto (-21), 3) := by decide +kernel
theorem dX1_turned_28 : decode cX1_turned 28 = .ok (.iload_n 2, 1) := by decide +kernel
theorem dX1_turned_29 : decode cX1_turned 29 = .ok (.ireturn, 1) := by decide +kernel
set_option maxRecDepth 20000 in
theorem ggX1_shifted_X1_round : GoodIn wsX1_shifted wsX1_round := goodIn_r _ [6, 1, 11, 12] (by decide +kernel) (by decide +kernel)
set_option maxRecDepth 20000 in
theorem gX1_shifted_X1_round : GoodIn wsX1_shifted (wsV RX1 24 RX1 yX1_round wsX1_round) := goodIn_app (goodIn_of _ (by decide +kernel)) ggX1_shifted_X1_round
set_option maxRecDepth 20000 in
theorem ggX1_shifted_X2_lowBits : GoodIn wsX1_shifted wsX2_lowBits := goodIn_r _ [9, 10] (by decide +kernel) (by decide +kernel)
set_option maxRecDepth 20000 in
theorem gX1_shifted_X2_lowBits_n27 : GoodIn wsX1_shifted (wsX2_lowBits) := ggX1_shifted_X2_lowBits
theorem dX1_shifted_0 : decode cX1_shifted 0 = .ok (.aload_n 0, 1) := by decide +kernel
theorem dX1_shifted_1 : decode cX1_shifted 1 = .ok (.iload_n 3, 1) := by decide +kernel
theorem dX1_shifted_2 : decode cX1_shifted 2 = .ok (.invokevirtual 24, 3) := by decide +kernel
theorem dX1_shifted_5 : decode cX1_shifted 5 = .ok (.istore 4, 2) := by decide +kernel
theorem dX1_shifted_7 : decode cX1_shifted 7 = .ok (.lload_n 1, 1) := by decide +kernel
theorem dX1_shifted_8 : decode cX1_shifted 8 = .ok (.iload 4, 2) := by decide +kernel
theorem dX1_shifted_10 : decode cX1_shifted 10 = .ok (.lushr, 1) := by decide +kernel
theorem dX1_shifted_11 : decode cX1_shifted 11 = .ok (.lload_n 1, 1) := by decide +kernel
theorem dX1_shifted_12 : decode cX1_shifted 12 = .ok (.aload_n 0, 1) := by decide +kernel
theorem dX1_shifted_13 : decode cX1_shifted 13 = .ok (.getfield 9, 3) := by decide +kernel
theorem dX1_shifted_16 : decode cX1_shifted 16 = .ok (.iload 4, 2) := by decide +kernel
theorem dX1_shifted_18 : decode cX1_shifted 18 = .ok (.isub, 1) := by decide +kernel
theorem dX1_shifted_19 : decode cX1_shifted 19 = .ok (.lshl, 1) := by decide +kernel
theorem dX1_shifted_20 : decode cX1_shifted 20 = .ok (.lor, 1) := by decide +kernel
theorem dX1_shifted_21 : decode cX1_shifted 21 = .ok (.aload_n 0, 1) := by decide +kernel
theorem dX1_shifted_22 : decode cX1_shifted 22 = .ok (.getfield 9, 3) := by decide +kernel
theorem dX1_shifted_25 : decode cX1_shifted 25 = .ok (.invokestatic 27, 3) := by decide +kernel
theorem dX1_shifted_28 : decode cX1_shifted 28 = .ok (.land, 1) := by decide +kernel
theorem dX1_shifted_29 : decode cX1_shifted 29 = .ok (.lreturn, 1) := by decide +kernel
set_option maxRecDepth 20000 in
theorem ggX1_ofSource_X2_lowBits : GoodIn wsX1_ofSource wsX2_lowBits := goodIn_r _ [3, 4] (by decide +kernel) (by decide +kernel)
set_option maxRecDepth 20000 in
theorem gX1_ofSource_X2_lowBits_n27 : GoodIn wsX1_ofSource (wsX2_lowBits) := ggX1_ofSource_X2_lowBits
set_option maxRecDepth 20000 in
theorem ggX1_ofSource_X1_turnedRow : GoodIn wsX1_ofSource wsX1_turnedRow := goodIn_r _ [9, 10, 11, 12, 8, 13, 14, 28, 29] (by decide +kernel) (by decide +kernel)
set_option maxRecDepth 20000 in
theorem gX1_ofSource_X1_turnedRow : GoodIn wsX1_ofSource (wsV RX1 31 RX1 yX1_turnedRow wsX1_turnedRow) := goodIn_app (goodIn_of _ (by decide +kernel)) ggX1_ofSource_X1_turnedRow
set_option maxRecDepth 20000 in
theorem ggX1_ofSource_X1_spreadRow : GoodIn wsX1_ofSource wsX1_spreadRow := goodIn_r _ [18, 19, 14, 28, 29] (by decide +kernel) (by decide +kernel)
set_option maxRecDepth 20000 in
theorem gX1_ofSource_X1_spreadRow : GoodIn wsX1_ofSource (wsV RX1 34 RX1 yX1_spreadRow wsX1_spreadRow) := goodIn_app (goodIn_of _ (by decide +kernel)) ggX1_ofSource_X1_spreadRow
set_option maxRecDepth 20000 in
theorem ggX1_ofSource_X1_registerRow : GoodIn wsX1_ofSource wsX1_registerRow := goodIn_r _ [23, 19, 24, 25, 26, 8, 27, 28, 29] (by decide +kernel) (by decide +kernel)
set_option maxRecDepth 20000 in
theorem gX1_ofSource_X1_registerRow : GoodIn wsX1_ofSource (wsV RX1 37 RX1 yX1_registerRow wsX1_registerRow) := goodIn_app (goodIn_of _ (by decide +kernel)) ggX1_ofSource_X1_registerRow
theorem dX1_ofSource_0 : decode cX1_ofSource 0 = .ok (.iload_n 1, 1) := by decide +kernel
theorem dX1_ofSource_1 : decode cX1_ofSource 1 = .ok (.tableswitch 44 0 2 #[27, 32, 38], 27) := by decide +kernel
theorem dX1_ofSource_28 : decode cX1_ofSource 28 = .ok (.iload_n 2, 1) := by decide +kernel
theorem dX1_ofSource_29 : decode cX1_ofSource 29 = .ok (.invokestatic 27, 3) := by decide +kernel
theorem dX1_ofSource_32 : decode cX1_ofSource 32 = .ok (.lreturn, 1) := by decide +kernel
theorem dX1_ofSource_33 : decode cX1_ofSource 33 = .ok (.aload_n 0, 1) := by decide +kernel
theorem dX1_ofSource_34 : decode cX1_ofSource 34 = .ok (.iload_n 2, 1) := by decide +kernel
theorem dX1_ofSource_35 : decode cX1_ofSource 35 = .ok (.invokevirtual 31, 3) := by decide +kernel
theorem dX1_ofSource_38 : decode cX1_ofSource 38 = .ok (.lreturn, 1) := by decide +kernel
theorem dX1_ofSource_39 : decode cX1_ofSource 39 = .ok (.aload_n 0, 1) := by decide +kernel
theorem dX1_ofSource_40 : decode cX1_ofSource 40 = .ok (.iload_n 2, 1) := by decide +kernel
theorem dX1_ofSource_41 : decode cX1_ofSource 41 = .ok (.invokevirtual 34, 3) := by decide +kernel
theorem dX1_ofSource_44 : decode cX1_ofSource 44 = .ok (.lreturn, 1) := by decide +kernel
theorem dX1_ofSource_45 : decode cX1_ofSource 45 = .ok (.aload_n 0, 1) := by decide +kernel
theorem dX1_ofSource_46 : decode cX1_ofSource 46 = .ok (.iload_n 2, 1) := by decide +kernel
theorem dX1_ofSource_47 : decode cX1_ofSource 47 = .ok (.invokevirtual 37, 3) := by decide +kernel
theorem dX1_ofSource_50 : decode cX1_ofSource 50 = .ok (.lreturn, 1) := by decide +kernel
set_option maxRecDepth 20000 in
theorem ggX1_turnedRow_X1_turned : GoodIn wsX1_turnedRow wsX1_turned := goodIn_r _ [5, 6, 7, 8] (by decide +kernel) (by decide +kernel)
set_option maxRecDepth 20000 in
theorem gX1_turnedRow_X1_turned : GoodIn wsX1_turnedRow (wsV RX1 40 RX1 yX1_turned wsX1_turned) := goodIn_app (goodIn_of _ (by decide +kernel)) ggX1_turnedRow_X1_turned
theorem dX1_turnedRow_0 : decode cX1_turnedRow 0 = .ok (.lconst 0, 1) := by decide +kernel
theorem dX1_turnedRow_1 : decode cX1_turnedRow 1 = .ok (.lstore_n 2, 1) := by decide +kernel
theorem dX1_turnedRow_2 : decode cX1_turnedRow 2 = .ok (.iconst 0, 1) := by decide +kernel
theorem dX1_turnedRow_3 : decode cX1_turnedRow 3 = .ok (.istore 4, 2) := by decide +kernel
theorem dX1_turnedRow_5 : decode cX1_turnedRow 5 = .ok (.iload 4, 2) := by decide +kernel
theorem dX1_turnedRow_7 : decode cX1_turnedRow 7 = .ok (.iload_n 1, 1) := by decide +kernel
theorem dX1_turnedRow_8 : decode cX1_turnedRow 8 = .ok (.if_icmp .ge 20, 3) := by decide +kernel
theorem dX1_turnedRow_11 : decode cX1_turnedRow 11 = .ok (.lload_n 2, 1) := by decide +kernel
theorem dX1_turnedRow_12 : decode cX1_turnedRow 12 = .ok (.lconst 1, 1) := by decide +kernel
theorem dX1_turnedRow_13 : decode cX1_turnedRow 13 = .ok (.aload_n 0, 1) := by decide +kernel
theorem dX1_turnedRow_14 : decode cX1_turnedRow 14 = .ok (.iload 4, 2) := by decide +kernel
theorem dX1_turnedRow_16 : decode cX1_turnedRow 16 = .ok (.invokevirtual 40, 3) := by decide +kernel
theorem dX1_turnedRow_19 : decode cX1_turnedRow 19 = .ok (.lshl, 1) := by decide +kernel
theorem dX1_turnedRow_20 : decode cX1_turnedRow 20 = .ok (.lor, 1) := by decide +kernel
theorem dX1_turnedRow_21 : decode cX1_turnedRow 21 = .ok (.lstore_n 2, 1) := by decide +kernel
theorem dX1_turnedRow_22 : decode cX1_turnedRow 22 = .ok (.iinc 4 1, 3) := by decide +kernel
theorem dX1_turnedRow_25 : decode cX1_turnedRow 25 = .ok (.goto (-20), 3) := by decide +kernel
theorem dX1_turnedRow_28 : decode cX1_turnedRow 28 = .ok (.lload_n 2, 1) := by decide +kernel
theorem dX1_turnedRow_29 : decode cX1_turnedRow 29 = .ok (.lreturn, 1) := by decide +kernel
theorem dX1_spreadRow_0 : decode cX1_spreadRow 0 = .ok (.lconst 0, 1) := by decide +kernel
theorem dX1_spreadRow_1 : decode cX1_spreadRow 1 = .ok (.lstore_n 2, 1) := by decide +kernel
theorem dX1_spreadRow_2 : decode cX1_spreadRow 2 = .ok (.iconst 0, 1) := by decide +kernel
theorem dX1_spreadRow_3 : decode cX1_spreadRow 3 = .ok (.istore 4, 2) := by decide +kernel
theorem dX1_spreadRow_5 : decode cX1_spreadRow 5 = .ok (.iload 4, 2) := by decide +kernel
theorem dX1_spreadRow_7 : decode cX1_spreadRow 7 = .ok (.aload_n 0, 1) := by decide +kernel
theorem dX1_spreadRow_8 : decode cX1_spreadRow 8 = .ok (.getfield 9, 3) := by decide +kernel
theorem dX1_spreadRow_11 : decode cX1_spreadRow 11 = .ok (.if_icmp .ge 39, 3) := by decide +kernel
theorem dX1_spreadRow_14 : decode cX1_spreadRow 14 = .ok (.iload_n 1, 1) := by decide +kernel
theorem dX1_spreadRow_15 : decode cX1_spreadRow 15 = .ok (.iload 4, 2) := by decide +kernel
theorem dX1_spreadRow_17 : decode cX1_spreadRow 17 = .ok (.iconst 1, 1) := by decide +kernel
theorem dX1_spreadRow_18 : decode cX1_spreadRow 18 = .ok (.iadd, 1) := by decide +kernel
theorem dX1_spreadRow_19 : decode cX1_spreadRow 19 = .ok (.imul, 1) := by decide +kernel
theorem dX1_spreadRow_20 : decode cX1_spreadRow 20 = .ok (.aload_n 0, 1) := by decide +kernel
theorem dX1_spreadRow_21 : decode cX1_spreadRow 21 = .ok (.getfield 21, 3) := by decide +kernel
theorem dX1_spreadRow_24 : decode cX1_spreadRow 24 = .ok (.ishr, 1) := by decide +kernel
theorem dX1_spreadRow_25 : decode cX1_spreadRow 25 = .ok (.iload_n 1, 1) := by decide +kernel
theorem dX1_spreadRow_26 : decode cX1_spreadRow 26 = .ok (.iload 4, 2) := by decide +kernel
theorem dX1_spreadRow_28 : decode cX1_spreadRow 28 = .ok (.imul, 1) := by decide +kernel
theorem dX1_spreadRow_29 : decode cX1_spreadRow 29 = .ok (.aload_n 0, 1) := by decide +kernel
theorem dX1_spreadRow_30 : decode cX1_spreadRow 30 = .ok (.getfield 21, 3) := by decide +kernel
theorem dX1_spreadRow_33 : decode cX1_spreadRow 33 = .ok (.ishr, 1) := by decide +kernel
theorem dX1_spreadRow_34 : decode cX1_spreadRow 34 = .ok (.if_icmp .le 10, 3) := by decide +kernel
theorem dX1_spreadRow_37 : decode cX1_spreadRow 37 = .ok (.lload_n 2, 1) := by decide +kernel
theorem dX1_spreadRow_38 : decode cX1_spreadRow 38 = .ok (.lconst 1, 1) := by decide +kernel
theorem dX1_spreadRow_39 : decode cX1_spreadRow 39 = .ok (.iload 4, 2) := by decide +kernel
theorem dX1_spreadRow_41 : decode cX1_spreadRow 41 = .ok (.lshl, 1) := by decide +kernel
theorem dX1_spreadRow_42 : decode cX1_spreadRow 42 = .ok (.lor, 1) := by decide +kernel
theorem dX1_spreadRow_43 : decode cX1_spreadRow 43 = .ok (.lstore_n 2, 1) := by decide +kernel
theorem dX1_spreadRow_44 : decode cX1_spreadRow 44 = .ok (.iinc 4 1, 3) := by decide +kernel
theorem dX1_spreadRow_47 : decode cX1_spreadRow 47 = .ok (.goto (-42), 3) := by decide +kernel
theorem dX1_spreadRow_50 : decode cX1_spreadRow 50 = .ok (.lload_n 2, 1) := by decide +kernel
theorem dX1_spreadRow_51 : decode cX1_spreadRow 51 = .ok (.lreturn, 1) := by decide +kernel
set_option maxRecDepth 20000 in
theorem ggX1_registerRow_X1_tapsOfLength : GoodIn wsX1_registerRow wsX1_tapsOfLength := goodIn_r _ [6, 1, 7, 8] (by decide +kernel) (by decide +kernel)
set_option maxRecDepth 20000 in
theorem gX1_registerRow_X1_tapsOfLength : GoodIn wsX1_registerRow (wsV RX1 43 RX1 yX1_tapsOfLength wsX1_tapsOfLength) := goodIn_app (goodIn_of _ (by decide +kernel)) ggX1_registerRow_X1_tapsOfLength
theorem dX1_registerRow_0 : decode cX1_registerRow 0 = .ok (.aload_n 0, 1) := by decide +kernel
theorem dX1_registerRow_1 : decode cX1_registerRow 1 = .ok (.invokevirtual 43, 3) := by decide +kernel
theorem dX1_registerRow_4 : decode cX1_registerRow 4 = .ok (.istore_n 2, 1) := by decide +kernel
theorem dX1_registerRow_5 : decode cX1_registerRow 5 = .ok (.iconst 1, 1) := by decide +kernel
theorem dX1_registerRow_6 : decode cX1_registerRow 6 = .ok (.istore_n 3, 1) := by decide +kernel
theorem dX1_registerRow_7 : decode cX1_registerRow 7 = .ok (.lconst 0, 1) := by decide +kernel
theorem dX1_registerRow_8 : decode cX1_registerRow 8 = .ok (.lstore 4, 2) := by decide +kernel
theorem dX1_registerRow_10 : decode cX1_registerRow 10 = .ok (.iconst 0, 1) := by decide +kernel
theorem dX1_registerRow_11 : decode cX1_registerRow 11 = .ok (.istore 6, 2) := by decide +kernel
theorem dX1_registerRow_13 : decode cX1_registerRow 13 = .ok (.iload 6, 2) := by decide +kernel
theorem dX1_registerRow_15 : decode cX1_registerRow 15 = .ok (.aload_n 0, 1) := by decide +kernel
theorem dX1_registerRow_16 : decode cX1_registerRow 16 = .ok (.getfield 9, 3) := by decide +kernel
theorem dX1_registerRow_19 : decode cX1_registerRow 19 = .ok (.iconst 1, 1) := by decide +kernel
theorem dX1_registerRow_20 : decode cX1_registerRow 20 = .ok (.isub, 1) := by decide +kernel
theorem dX1_registerRow_21 : decode cX1_registerRow 21 = .ok (.if_icmp .ge 42, 3) := by decide +kernel
theorem dX1_registerRow_24 : decode cX1_registerRow 24 = .ok (.iload_n 3, 1) := by decide +kernel
theorem dX1_registerRow_25 : decode cX1_registerRow 25 = .ok (.iload_n 1, 1) := by decide +kernel
theorem dX1_registerRow_26 : decode cX1_registerRow 26 = .ok (.if_icmp .gt 12, 3) := by decide +kernel
theorem dX1_registerRow_29 : decode cX1_registerRow 29 = .ok (.lload 4, 2) := by decide +kernel
theorem dX1_registerRow_31 : decode cX1_registerRow 31 = .ok (.lconst 1, 1) := by decide +kernel
theorem dX1_registerRow_32 : decode cX1_registerRow 32 = .ok (.iload 6, 2) := by decide +kernel
theorem dX1_registerRow_34 : decode cX1_registerRow 34 = .ok (.lshl, 1) := by decide +kernel
theorem dX1_registerRow_35 : decode cX1_registerRow 35 = .ok (.lor, 1) := by decide +kernel
theorem dX1_registerRow_36 : decode cX1_registerRow 36 = .ok (.lstore 4, 2) := by decide +kernel
theorem dX1_registerRow_38 : decode cX1_registerRow 38 = .ok (.iload_n 3, 1) := by decide +kernel
theorem dX1_registerRow_39 : decode cX1_registerRow 39 = .ok (.iconst 1, 1) := by decide +kernel
theorem dX1_registerRow_40 : decode cX1_registerRow 40 = .ok (.iand, 1) := by decide +kernel
theorem dX1_registerRow_41 : decode cX1_registerRow 41 = .ok (.iconst 1, 1) := by decide +kernel
theorem dX1_registerRow_42 : decode cX1_registerRow 42 = .ok (.if_icmp .ne 11, 3) := by decide +kernel
theorem dX1_registerRow_45 : decode cX1_registerRow 45 = .ok (.iload_n 3, 1) := by decide +kernel
theorem dX1_registerRow_46 : decode cX1_registerRow 46 = .ok (.iconst 1, 1) := by decide +kernel
theorem dX1_registerRow_47 : decode cX1_registerRow 47 = .ok (.ishr, 1) := by decide +kernel
theorem dX1_registerRow_48 : decode cX1_registerRow 48 = .ok (.iload_n 2, 1) := by decide +kernel
theorem dX1_registerRow_49 : decode cX1_registerRow 49 = .ok (.ixor, 1) := by decide +kernel
theorem dX1_registerRow_50 : decode cX1_registerRow 50 = .ok (.goto 6, 3) := by decide +kernel
theorem dX1_registerRow_53 : decode cX1_registerRow 53 = .ok (.iload_n 3, 1) := by decide +kernel
theorem dX1_registerRow_54 : decode cX1_registerRow 54 = .ok (.iconst 1, 1) := by decide +kernel
theorem dX1_registerRow_55 : decode cX1_registerRow 55 = .ok (.ishr, 1) := by decide +kernel
theorem dX1_registerRow_56 : decode cX1_registerRow 56 = .ok (.istore_n 3, 1) := by decide +kernel
theorem dX1_registerRow_57 : decode cX1_registerRow 57 = .ok (.iinc 6 1, 3) := by decide +kernel
theorem dX1_registerRow_60 : decode cX1_registerRow 60 = .ok (.goto (-47), 3) := by decide +kernel
theorem dX1_registerRow_63 : decode cX1_registerRow 63 = .ok (.aload_n 0, 1) := by decide +kernel
theorem dX1_registerRow_64 : decode cX1_registerRow 64 = .ok (.getfield 9, 3) := by decide +kernel
theorem dX1_registerRow_67 : decode cX1_registerRow 67 = .ok (.iload_n 1, 1) := by decide +kernel
theorem dX1_registerRow_68 : decode cX1_registerRow 68 = .ok (.if_icmp .gt 17, 3) := by decide +kernel
theorem dX1_registerRow_71 : decode cX1_registerRow 71 = .ok (.lload 4, 2) := by decide +kernel
theorem dX1_registerRow_73 : decode cX1_registerRow 73 = .ok (.lconst 1, 1) := by decide +kernel
theorem dX1_registerRow_74 : decode cX1_registerRow 74 = .ok (.aload_n 0, 1) := by decide +kernel
theorem dX1_registerRow_75 : decode cX1_registerRow 75 = .ok (.getfield 9, 3) := by decide +kernel
theorem dX1_registerRow_78 : decode cX1_registerRow 78 = .ok (.iconst 1, 1) := by decide +kernel
theorem dX1_registerRow_79 : decode cX1_registerRow 79 = .ok (.isub, 1) := by decide +kernel
theorem dX1_registerRow_80 : decode cX1_registerRow 80 = .ok (.lshl, 1) := by decide +kernel
theorem dX1_registerRow_81 : decode cX1_registerRow 81 = .ok (.lor, 1) := by decide +kernel
theorem dX1_registerRow_82 : decode cX1_registerRow 82 = .ok (.goto 5, 3) := by decide +kernel
theorem dX1_registerRow_85 : decode cX1_registerRow 85 = .ok (.lload 4, 2) := by decide +kernel
theorem dX1_registerRow_87 : decode cX1_registerRow 87 = .ok (.lreturn, 1) := by decide +kernel
theorem dX1_tapsOfLength_0 : decode cX1_tapsOfLength 0 = .ok (.aload_n 0, 1) := by decide +kernel
theorem dX1_tapsOfLength_1 : decode cX1_tapsOfLength 1 = .ok (.getfield 9, 3) := by decide +kernel
theorem dX1_tapsOfLength_4 : decode cX1_tapsOfLength 4 = .ok (.lookupswitch 45 #[(8, 36), (16, 39), (32, 42)], 36) := by decide +kernel
theorem dX1_tapsOfLength_40 : decode cX1_tapsOfLength 40 = .ok (.bipush 6, 2) := by decide +kernel
theorem dX1_tapsOfLength_42 : decode cX1_tapsOfLength 42 = .ok (.ireturn, 1) := by decide +kernel
theorem dX1_tapsOfLength_43 : decode cX1_tapsOfLength 43 = .ok (.bipush 12, 2) := by decide +kernel
theorem dX1_tapsOfLength_45 : decode cX1_tapsOfLength 45 = .ok (.ireturn, 1) := by decide +kernel
theorem dX1_tapsOfLength_46 : decode cX1_tapsOfLength 46 = .ok (.bipush 20, 2) := by decide +kernel
theorem dX1_tapsOfLength_48 : decode cX1_tapsOfLength 48 = .ok (.ireturn, 1) := by decide +kernel
theorem dX1_tapsOfLength_49 : decode cX1_tapsOfLength 49 = .ok (.bipush 48, 2) := by decide +kernel
theorem dX1_tapsOfLength_51 : decode cX1_tapsOfLength 51 = .ok (.ireturn, 1) := by decide +kernel
set_option maxRecDepth 20000 in
theorem ggX2_init_X1_init : GoodIn wsX2_init wsX1_init := goodIn_r _ [22, 23, 2, 3, 24, 25, 26, 27, 28, 29, 30, 31, 32, 40, 41] (by decide +kernel) (by decide +kernel)
set_option maxRecDepth 20000 in
theorem gX2_init_X1_init_n9 : GoodIn wsX2_init (wsX1_init) := ggX2_init_X1_init
set_option maxRecDepth 20000 in
theorem ggX2_init_X0_init : GoodIn wsX2_init wsX0_init := goodIn_r _ [34, 35, 2, 3, 36, 37, 38, 39, 52, 53, 54] (by decide +kernel) (by decide +kernel)
set_option maxRecDepth 20000 in
theorem gX2_init_X0_init_n18 : GoodIn wsX2_init (wsX0_init) := ggX2_init_X0_init
theorem dX2_init_0 : decode cX2_init 0 = .ok (.aload_n 0, 1) := by decide +kernel
theorem dX2_init_1 : decode cX2_init 1 = .ok (.invokespecial 1, 3) := by decide +kernel
theorem dX2_init_4 : decode cX2_init 4 = .ok (.aload_n 0, 1) := by decide +kernel
theorem dX2_init_5 : decode cX2_init 5 = .ok (.new 7, 3) := by decide +kernel
theorem dX2_init_8 : decode cX2_init 8 = .ok (.dup, 1) := by decide +kernel
theorem dX2_init_9 : decode cX2_init 9 = .ok (.invokespecial 9, 3) := by decide +kernel
theorem dX2_init_12 : decode cX2_init 12 = .ok (.putfield 10, 3) := by decide +kernel
theorem dX2_init_15 : decode cX2_init 15 = .ok (.aload_n 0, 1) := by decide +kernel
theorem dX2_init_16 : decode cX2_init 16 = .ok (.new 16, 3) := by decide +kernel
theorem dX2_init_19 : decode cX2_init 19 = .ok (.dup, 1) := by decide +kernel
theorem dX2_init_20 : decode cX2_init 20 = .ok (.invokespecial 18, 3) := by decide +kernel
theorem dX2_init_23 : decode cX2_init 23 = .ok (.putfield 19, 3) := by decide +kernel
theorem dX2_init_26 : decode cX2_init 26 = .ok (.aload_n 0, 1) := by decide +kernel
theorem dX2_init_27 : decode cX2_init 27 = .ok (.bipush 12, 2) := by decide +kernel
theorem dX2_init_29 : decode cX2_init 29 = .ok (.newarray .long, 2) := by decide +kernel
theorem dX2_init_31 : decode cX2_init 31 = .ok (.putfield 23, 3) := by decide +kernel
theorem dX2_init_34 : decode cX2_init 34 = .ok (.aload_n 0, 1) := by decide +kernel
theorem dX2_init_35 : decode cX2_init 35 = .ok (.bipush 65, 2) := by decide +kernel
theorem dX2_init_37 : decode cX2_init 37 = .ok (.newarray .long, 2) := by decide +kernel
theorem dX2_init_39 : decode cX2_init 39 = .ok (.putfield 27, 3) := by decide +kernel
theorem dX2_init_42 : decode cX2_init 42 = .ok (.aload_n 0, 1) := by decide +kernel
theorem dX2_init_43 : decode cX2_init 43 = .ok (.bipush 65, 2) := by decide +kernel
theorem dX2_init_45 : decode cX2_init 45 = .ok (.newarray .long, 2) := by decide +kernel
theorem dX2_init_47 : decode cX2_init 47 = .ok (.putfield 30, 3) := by decide +kernel
theorem dX2_init_50 : decode cX2_init 50 = .ok (.aload_n 0, 1) := by decide +kernel
theorem dX2_init_51 : decode cX2_init 51 = .ok (.bipush 11, 2) := by decide +kernel
theorem dX2_init_53 : decode cX2_init 53 = .ok (.newarray .long, 2) := by decide +kernel
theorem dX2_init_55 : decode cX2_init 55 = .ok (.putfield 33, 3) := by decide +kernel
theorem dX2_init_58 : decode cX2_init 58 = .ok (.aload_n 0, 1) := by decide +kernel
theorem dX2_init_59 : decode cX2_init 59 = .ok (.iconst (-1), 1) := by decide +kernel
theorem dX2_init_60 : decode cX2_init 60 = .ok (.putfield 36, 3) := by decide +kernel
theorem dX2_init_63 : decode cX2_init 63 = .ok (.aload_n 0, 1) := by decide +kernel
theorem dX2_init_64 : decode cX2_init 64 = .ok (.iconst 0, 1) := by decide +kernel
theorem dX2_init_65 : decode cX2_init 65 = .ok (.putfield 40, 3) := by decide +kernel
theorem dX2_init_68 : decode cX2_init 68 = .ok (.aload_n 0, 1) := by decide +kernel
theorem dX2_init_69 : decode cX2_init 69 = .ok (.iconst 0, 1) := by decide +kernel
theorem dX2_init_70 : decode cX2_init 70 = .ok (.putfield 43, 3) := by decide +kernel
theorem dX2_init_73 : decode cX2_init 73 = .ok (.aload_n 0, 1) := by decide +kernel
theorem dX2_init_74 : decode cX2_init 74 = .ok (.iconst 0, 1) := by decide +kernel
theorem dX2_init_75 : decode cX2_init 75 = .ok (.putfield 46, 3) := by decide +kernel
theorem dX2_init_78 : decode cX2_init 78 = .ok (.return_, 1) := by decide +kernel
set_option maxRecDepth 20000 in
theorem ggX2_length_X1_setLength : GoodIn wsX2_length wsX1_setLength := goodIn_r _ [6, 7, 8, 9, 10, 11, 12, 13, 14, 15, 26, 27] (by decide +kernel) (by decide +kernel)
set_option maxRecDepth 20000 in
theorem gX2_length_X1_setLength_n52 : GoodIn wsX2_length (wsX1_setLength) := ggX2_length_X1_setLength
theorem dX2_length_0 : decode cX2_length 0 = .ok (.iload_n 1, 1) := by decide +kernel
theorem dX2_length_1 : decode cX2_length 1 = .ok (.bipush 8, 2) := by decide +kernel
theorem dX2_length_3 : decode cX2_length 3 = .ok (.if_icmp .eq 24, 3) := by decide +kernel
theorem dX2_length_6 : decode cX2_length 6 = .ok (.iload_n 1, 1) := by decide +kernel
theorem dX2_length_7 : decode cX2_length 7 = .ok (.bipush 16, 2) := by decide +kernel
theorem dX2_length_9 : decode cX2_length 9 = .ok (.if_icmp .eq 18, 3) := by decide +kernel
theorem dX2_length_12 : decode cX2_length 12 = .ok (.iload_n 1, 1) := by decide +kernel
theorem dX2_length_13 : decode cX2_length 13 = .ok (.bipush 32, 2) := by decide +kernel
theorem dX2_length_15 : decode cX2_length 15 = .ok (.if_icmp .eq 12, 3) := by decide +kernel
theorem dX2_length_18 : decode cX2_length 18 = .ok (.iload_n 1, 1) := by decide +kernel
theorem dX2_length_19 : decode cX2_length 19 = .ok (.bipush 64, 2) := by decide +kernel
theorem dX2_length_21 : decode cX2_length 21 = .ok (.if_icmp .eq 6, 3) := by decide +kernel
theorem dX2_length_24 : decode cX2_length 24 = .ok (.bipush (-102), 2) := by decide +kernel
theorem dX2_length_26 : decode cX2_length 26 = .ok (.ireturn, 1) := by decide +kernel
theorem dX2_length_27 : decode cX2_length 27 = .ok (.aload_n 0, 1) := by decide +kernel
theorem dX2_length_28 : decode cX2_length 28 = .ok (.getfield 10, 3) := by decide +kernel
theorem dX2_length_31 : decode cX2_length 31 = .ok (.getfield 49, 3) := by decide +kernel
theorem dX2_length_34 : decode cX2_length 34 = .ok (.istore_n 2, 1) := by decide +kernel
theorem dX2_length_35 : decode cX2_length 35 = .ok (.aload_n 0, 1) := by decide +kernel
theorem dX2_length_36 : decode cX2_length 36 = .ok (.getfield 10, 3) := by decide +kernel
theorem dX2_length_39 : decode cX2_length 39 = .ok (.iload_n 1, 1) := by decide +kernel
theorem dX2_length_40 : decode cX2_length 40 = .ok (.invokevirtual 52, 3) := by decide +kernel
theorem dX2_length_43 : decode cX2_length 43 = .ok (.iconst 0, 1) := by decide +kernel
theorem dX2_length_44 : decode cX2_length 44 = .ok (.istore_n 3, 1) := by decide +kernel
theorem dX2_length_45 : decode cX2_length 45 = .ok (.iload_n 3, 1) := by decide +kernel
theorem dX2_length_46 : decode cX2_length 46 = .ok (.bipush 12, 2) := by decide +kernel
theorem dX2_length_48 : decode cX2_length 48 = .ok (.if_icmp .ge 16, 3) := by decide +kernel
theorem dX2_length_51 : decode cX2_length 51 = .ok (.aload_n 0, 1) := by decide +kernel
theorem dX2_length_52 : decode cX2_length 52 = .ok (.getfield 23, 3) := by decide +kernel
theorem dX2_length_55 : decode cX2_length 55 = .ok (.iload_n 3, 1) := by decide +kernel
theorem dX2_length_56 : decode cX2_length 56 = .ok (.lconst 0, 1) := by decide +kernel
theorem dX2_length_57 : decode cX2_length 57 = .ok (.lastore, 1) := by decide +kernel
theorem dX2_length_58 : decode cX2_length 58 = .ok (.iinc 3 1, 3) := by decide +kernel
theorem dX2_length_61 : decode cX2_length 61 = .ok (.goto (-16), 3) := by decide +kernel
theorem dX2_length_64 : decode cX2_length 64 = .ok (.iload_n 2, 1) := by decide +kernel
theorem dX2_length_65 : decode cX2_length 65 = .ok (.ireturn, 1) := by decide +kernel
set_option maxRecDepth 20000 in
theorem ggX2_source_X2_isStream : GoodIn wsX2_source wsX2_isStream := goodIn_r _ [5, 6, 7, 4, 8] (by decide +kernel) (by decide +kernel)
set_option maxRecDepth 20000 in
theorem gX2_source_X2_isStream : GoodIn wsX2_source (va_wsS RX2 56 yX2_isStream wsX2_isStream) := goodIn_app (goodIn_of _ (by decide +kernel)) ggX2_source_X2_isStream
set_option maxRecDepth 20000 in
theorem ggX2_source_X2_isSource : GoodIn wsX2_source wsX2_isSource := goodIn_r _ [11, 6, 7, 4, 8] (by decide +kernel) (by decide +kernel)
set_option maxRecDepth 20000 in
theorem gX2_source_X2_isSource : GoodIn wsX2_source (va_wsS RX2 60 yX2_isSource wsX2_isSource) := goodIn_app (goodIn_of _ (by decide +kernel)) ggX2_source_X2_isSource
set_option maxRecDepth 20000 in
theorem ggX2_source_X2_isValue : GoodIn wsX2_source wsX2_isValue := goodIn_r _ [15, 1, 6, 7, 4, 8, 58, 59, 60, 61, 62, 63, 64, 65, 66, 67, 68, 69] (by decide +kernel) (by decide +kernel)
set_option maxRecDepth 20000 in
theorem gX2_source_X2_isValue : GoodIn wsX2_source (wsV RX2 63 RX2 yX2_isValue wsX2_isValue) := goodIn_app (goodIn_of _ (by decide +kernel)) ggX2_source_X2_isValue
set_option maxRecDepth 20000 in
theorem ggX2_source_X1_ofSource : GoodIn wsX2_source wsX1_ofSource := goodIn_r _ [19, 20, 4, 21, 22, 23, 24, 25, 17, 26, 27, 28, 29, 30, 31, 32, 33, 34, 35, 36, 37, 38, 39, 40, 41, 42, 43, 44, 68, 69] (by decide +kernel) (by decide +kernel)
set_option maxRecDepth 20000 in
theorem gX2_source_X1_ofSource_n66 : GoodIn wsX2_source (wsX1_ofSource) := ggX2_source_X1_ofSource
set_option maxRecDepth 20000 in
theorem ggX2_source_X2_setStream : GoodIn wsX2_source wsX2_setStream := goodIn_r _ [48, 49, 1, 50, 20, 4, 21, 22, 51, 52, 53, 54, 55, 56, 57, 58, 59, 60, 61, 62, 63, 64, 65, 66, 67, 68, 69] (by decide +kernel) (by decide +kernel)
set_option maxRecDepth 20000 in
theorem gX2_source_X2_setStream : GoodIn wsX2_source (wsV RX2 70 RX2 yX2_setStream wsX2_setStream) := goodIn_app (goodIn_of _ (by decide +kernel)) ggX2_source_X2_setStream
theorem dX2_source_0 : decode cX2_source 0 = .ok (.iload_n 1, 1) := by decide +kernel
theorem dX2_source_1 : decode cX2_source 1 = .ok (.invokestatic 56, 3) := by decide +kernel
theorem dX2_source_4 : decode cX2_source 4 = .ok (.ifCond .ne 6, 3) := by decide +kernel
theorem dX2_source_7 : decode cX2_source 7 = .ok (.bipush (-101), 2) := by decide +kernel
theorem dX2_source_9 : decode cX2_source 9 = .ok (.ireturn, 1) := by decide +kernel
theorem dX2_source_10 : decode cX2_source 10 = .ok (.iload_n 2, 1) := by decide +kernel
theorem dX2_source_11 : decode cX2_source 11 = .ok (.invokestatic 60, 3) := by decide +kernel
theorem dX2_source_14 : decode cX2_source 14 = .ok (.ifCond .eq 11, 3) := by decide +kernel
theorem dX2_source_17 : decode cX2_source 17 = .ok (.aload_n 0, 1) := by decide +kernel
theorem dX2_source_18 : decode cX2_source 18 = .ok (.iload_n 3, 1) := by decide +kernel
theorem dX2_source_19 : decode cX2_source 19 = .ok (.invokevirtual 63, 3) := by decide +kernel
theorem dX2_source_22 : decode cX2_source 22 = .ok (.ifCond .ne 6, 3) := by decide +kernel
theorem dX2_source_25 : decode cX2_source 25 = .ok (.bipush (-102), 2) := by decide +kernel
theorem dX2_source_27 : decode cX2_source 27 = .ok (.ireturn, 1) := by decide +kernel
theorem dX2_source_28 : decode cX2_source 28 = .ok (.aload_n 0, 1) := by decide +kernel
theorem dX2_source_29 : decode cX2_source 29 = .ok (.iload_n 1, 1) := by decide +kernel
theorem dX2_source_30 : decode cX2_source 30 = .ok (.aload_n 0, 1) := by decide +kernel
theorem dX2_source_31 : decode cX2_source 31 = .ok (.getfield 10, 3) := by decide +kernel
theorem dX2_source_34 : decode cX2_source 34 = .ok (.iload_n 2, 1) := by decide +kernel
theorem dX2_source_35 : decode cX2_source 35 = .ok (.iload_n 3, 1) := by decide +kernel
theorem dX2_source_36 : decode cX2_source 36 = .ok (.invokevirtual 66, 3) := by decide +kernel
theorem dX2_source_39 : decode cX2_source 39 = .ok (.invokevirtual 70, 3) := by decide +kernel
theorem dX2_source_42 : decode cX2_source 42 = .ok (.ireturn, 1) := by decide +kernel
set_option maxRecDepth 20000 in
theorem ggX2_put_X2_isStream : GoodIn wsX2_put wsX2_isStream := goodIn_r _ [6, 7, 8, 5, 9] (by decide +kernel) (by decide +kernel)
set_option maxRecDepth 20000 in
theorem gX2_put_X2_isStream : GoodIn wsX2_put (va_wsS RX2 56 yX2_isStream wsX2_isStream) := goodIn_app (goodIn_of _ (by decide +kernel)) ggX2_put_X2_isStream
set_option maxRecDepth 20000 in
theorem ggX2_put_X2_isBit : GoodIn wsX2_put wsX2_isBit := goodIn_r _ [13, 14, 7, 8, 5, 9, 18, 19, 20, 21, 22, 23, 24, 25, 26, 27, 28, 29] (by decide +kernel) (by decide +kernel)
set_option maxRecDepth 20000 in
theorem gX2_put_X2_isBit : GoodIn wsX2_put (wsV RX2 74 RX2 yX2_isBit wsX2_isBit) := goodIn_app (goodIn_of _ (by decide +kernel)) ggX2_put_X2_isBit
end
section
set_option maxRecDepth 20000 in
theorem ggX2_put_X2_bitOf : GoodIn wsX2_put wsX2_bitOf := goodIn_r _ [17] (by decide +kernel) (by decide +kernel)
set_option maxRecDepth 20000 in
theorem gX2_put_X2_bitOf : GoodIn wsX2_put (va_wsS RX2 77 yX2_bitOf wsX2_bitOf) := goodIn_app (goodIn_of _ (by decide +kernel)) ggX2_put_X2_bitOf
theorem dX2_put_0 : decode cX2_put 0 = .ok (.iload_n 1, 1) := by decide +kernel
theorem dX2_put_1 : decode cX2_put 1 = .ok (.invokestatic 56, 3) := by decide +kernel
theorem dX2_put_4 : decode cX2_put 4 = .ok (.ifCond .eq 11, 3) := by decide +kernel
theorem dX2_put_7 : decode cX2_put 7 = .ok (.aload_n 0, 1) := by decide +kernel
theorem dX2_put_8 : decode cX2_put 8 = .ok (.iload_n 2, 1) := by decide +kernel
theorem dX2_put_9 : decode cX2_put 9 = .ok (.invokevirtual 74, 3) := by decide +kernel
theorem dX2_put_12 : decode cX2_put 12 = .ok (.ifCond .ne 6, 3) := by decide +kernel
theorem dX2_put_15 : decode cX2_put 15 = .ok (.bipush (-101), 2) := by decide +kernel
theorem dX2_put_17 : decode cX2_put 17 = .ok (.ireturn, 1) := by decide +kernel
theorem dX2_put_18 : decode cX2_put 18 = .ok (.aload_n 0, 1) := by decide +kernel
theorem dX2_put_19 : decode cX2_put 19 = .ok (.getfield 23, 3) := by decide +kernel
theorem dX2_put_22 : decode cX2_put 22 = .ok (.iload_n 1, 1) := by decide +kernel
theorem dX2_put_23 : decode cX2_put 23 = .ok (.laload, 1) := by decide +kernel
theorem dX2_put_24 : decode cX2_put 24 = .ok (.iload_n 2, 1) := by decide +kernel
theorem dX2_put_25 : decode cX2_put 25 = .ok (.invokestatic 77, 3) := by decide +kernel
theorem dX2_put_28 : decode cX2_put 28 = .ok (.istore 4, 2) := by decide +kernel
theorem dX2_put_30 : decode cX2_put 30 = .ok (.lconst 1, 1) := by decide +kernel
theorem dX2_put_31 : decode cX2_put 31 = .ok (.iload_n 2, 1) := by decide +kernel
theorem dX2_put_32 : decode cX2_put 32 = .ok (.lshl, 1) := by decide +kernel
theorem dX2_put_33 : decode cX2_put 33 = .ok (.lstore 5, 2) := by decide +kernel
theorem dX2_put_35 : decode cX2_put 35 = .ok (.aload_n 0, 1) := by decide +kernel
theorem dX2_put_36 : decode cX2_put 36 = .ok (.getfield 23, 3) := by decide +kernel
theorem dX2_put_39 : decode cX2_put 39 = .ok (.iload_n 1, 1) := by decide +kernel
theorem dX2_put_40 : decode cX2_put 40 = .ok (.iload_n 3, 1) := by decide +kernel
theorem dX2_put_41 : decode cX2_put 41 = .ok (.ifCond .eq 15, 3) := by decide +kernel
theorem dX2_put_44 : decode cX2_put 44 = .ok (.aload_n 0, 1) := by decide +kernel
theorem dX2_put_45 : decode cX2_put 45 = .ok (.getfield 23, 3) := by decide +kernel
theorem dX2_put_48 : decode cX2_put 48 = .ok (.iload_n 1, 1) := by decide +kernel
theorem dX2_put_49 : decode cX2_put 49 = .ok (.laload, 1) := by decide +kernel
theorem dX2_put_50 : decode cX2_put 50 = .ok (.lload 5, 2) := by decide +kernel
theorem dX2_put_52 : decode cX2_put 52 = .ok (.lor, 1) := by decide +kernel
theorem dX2_put_53 : decode cX2_put 53 = .ok (.goto 16, 3) := by decide +kernel
theorem dX2_put_56 : decode cX2_put 56 = .ok (.aload_n 0, 1) := by decide +kernel
theorem dX2_put_57 : decode cX2_put 57 = .ok (.getfield 23, 3) := by decide +kernel
theorem dX2_put_60 : decode cX2_put 60 = .ok (.iload_n 1, 1) := by decide +kernel
theorem dX2_put_61 : decode cX2_put 61 = .ok (.laload, 1) := by decide +kernel
theorem dX2_put_62 : decode cX2_put 62 = .ok (.lload 5, 2) := by decide +kernel
theorem dX2_put_64 : decode cX2_put 64 = .ok (.ldc2_w 81, 3) := by decide +kernel
theorem dX2_put_67 : decode cX2_put 67 = .ok (.lxor, 1) := by decide +kernel
theorem dX2_put_68 : decode cX2_put 68 = .ok (.land, 1) := by decide +kernel
theorem dX2_put_69 : decode cX2_put 69 = .ok (.lastore, 1) := by decide +kernel
theorem dX2_put_70 : decode cX2_put 70 = .ok (.iload 4, 2) := by decide +kernel
theorem dX2_put_72 : decode cX2_put 72 = .ok (.ireturn, 1) := by decide +kernel
set_option maxRecDepth 20000 in
theorem ggX2_bit_X2_isStream : GoodIn wsX2_bit wsX2_isStream := goodIn_r _ [5, 6, 7, 4, 8] (by decide +kernel) (by decide +kernel)
set_option maxRecDepth 20000 in
theorem gX2_bit_X2_isStream : GoodIn wsX2_bit (va_wsS RX2 56 yX2_isStream wsX2_isStream) := goodIn_app (goodIn_of _ (by decide +kernel)) ggX2_bit_X2_isStream
set_option maxRecDepth 20000 in
theorem ggX2_bit_X2_isBit : GoodIn wsX2_bit wsX2_isBit := goodIn_r _ [12, 13, 6, 7, 4, 8, 17, 18, 19, 20, 21, 22, 23, 24, 25, 26, 27, 28] (by decide +kernel) (by decide +kernel)
set_option maxRecDepth 20000 in
theorem gX2_bit_X2_isBit : GoodIn wsX2_bit (wsV RX2 74 RX2 yX2_isBit wsX2_isBit) := goodIn_app (goodIn_of _ (by decide +kernel)) ggX2_bit_X2_isBit
set_option maxRecDepth 20000 in
theorem ggX2_bit_X2_bitOf : GoodIn wsX2_bit wsX2_bitOf := goodIn_r _ [16] (by decide +kernel) (by decide +kernel)
set_option maxRecDepth 20000 in
theorem gX2_bit_X2_bitOf : GoodIn wsX2_bit (va_wsS RX2 77 yX2_bitOf wsX2_bitOf) := goodIn_app (goodIn_of _ (by decide +kernel)) ggX2_bit_X2_bitOf
theorem dX2_bit_0 : decode cX2_bit 0 = .ok (.iload_n 1, 1) := by decide +kernel
theorem dX2_bit_1 : decode cX2_bit 1 = .ok (.invokestatic 56, 3) := by decide +kernel
theorem dX2_bit_4 : decode cX2_bit 4 = .ok (.ifCond .eq 11, 3) := by decide +kernel
theorem dX2_bit_7 : decode cX2_bit 7 = .ok (.aload_n 0, 1) := by decide +kernel
theorem dX2_bit_8 : decode cX2_bit 8 = .ok (.iload_n 2, 1) := by decide +kernel
theorem dX2_bit_9 : decode cX2_bit 9 = .ok (.invokevirtual 74, 3) := by decide +kernel
theorem dX2_bit_12 : decode cX2_bit 12 = .ok (.ifCond .ne 6, 3) := by decide +kernel
theorem dX2_bit_15 : decode cX2_bit 15 = .ok (.bipush (-101), 2) := by decide +kernel
theorem dX2_bit_17 : decode cX2_bit 17 = .ok (.ireturn, 1) := by decide +kernel
theorem dX2_bit_18 : decode cX2_bit 18 = .ok (.aload_n 0, 1) := by decide +kernel
theorem dX2_bit_19 : decode cX2_bit 19 = .ok (.getfield 23, 3) := by decide +kernel
theorem dX2_bit_22 : decode cX2_bit 22 = .ok (.iload_n 1, 1) := by decide +kernel
theorem dX2_bit_23 : decode cX2_bit 23 = .ok (.laload, 1) := by decide +kernel
theorem dX2_bit_24 : decode cX2_bit 24 = .ok (.iload_n 2, 1) := by decide +kernel
theorem dX2_bit_25 : decode cX2_bit 25 = .ok (.invokestatic 77, 3) := by decide +kernel
theorem dX2_bit_28 : decode cX2_bit 28 = .ok (.ireturn, 1) := by decide +kernel
set_option maxRecDepth 20000 in
theorem ggX2_ones_X2_isStream : GoodIn wsX2_ones wsX2_isStream := goodIn_r _ [5, 6, 7, 4, 8] (by decide +kernel) (by decide +kernel)
set_option maxRecDepth 20000 in
theorem gX2_ones_X2_isStream : GoodIn wsX2_ones (va_wsS RX2 56 yX2_isStream wsX2_isStream) := goodIn_app (goodIn_of _ (by decide +kernel)) ggX2_ones_X2_isStream
set_option maxRecDepth 20000 in
theorem ggX2_ones_J13_bitCount_95d88 : GoodIn wsX2_ones wsJ13_bitCount_95d88 := goodIn_r _ [12, 13, 14, 15] (by decide +kernel) (by decide +kernel)
set_option maxRecDepth 20000 in
theorem gX2_ones_J13_bitCount_95d88 : GoodIn wsX2_ones (va_wsS RX2 83 yJ13_bitCount_95d88 wsJ13_bitCount_95d88) := goodIn_app (goodIn_of _ (by decide +kernel)) ggX2_ones_J13_bitCount_95d88
theorem dX2_ones_0 : decode cX2_ones 0 = .ok (.iload_n 1, 1) := by decide +kernel
theorem dX2_ones_1 : decode cX2_ones 1 = .ok (.invokestatic 56, 3) := by decide +kernel
theorem dX2_ones_4 : decode cX2_ones 4 = .ok (.ifCond .ne 6, 3) := by decide +kernel
theorem dX2_ones_7 : decode cX2_ones 7 = .ok (.bipush (-101), 2) := by decide +kernel
theorem dX2_ones_9 : decode cX2_ones 9 = .ok (.ireturn, 1) := by decide +kernel
theorem dX2_ones_10 : decode cX2_ones 10 = .ok (.aload_n 0, 1) := by decide +kernel
theorem dX2_ones_11 : decode cX2_ones 11 = .ok (.getfield 23, 3) := by decide +kernel
theorem dX2_ones_14 : decode cX2_ones 14 = .ok (.iload_n 1, 1) := by decide +kernel
theorem dX2_ones_15 : decode cX2_ones 15 = .ok (.laload, 1) := by decide +kernel
theorem dX2_ones_16 : decode cX2_ones 16 = .ok (.invokestatic 83, 3) := by decide +kernel
theorem dX2_ones_19 : decode cX2_ones 19 = .ok (.ireturn, 1) := by decide +kernel
set_option maxRecDepth 20000 in
theorem ggX2_gate_X2_isWithin : GoodIn wsX2_gate wsX2_isWithin := goodIn_r _ [5] (by decide +kernel) (by decide +kernel)
set_option maxRecDepth 20000 in
theorem gX2_gate_X2_isWithin : GoodIn wsX2_gate (va_wsS RX2 89 yX2_isWithin wsX2_isWithin) := goodIn_app (goodIn_of _ (by decide +kernel)) ggX2_gate_X2_isWithin
set_option maxRecDepth 20000 in
theorem ggX2_gate_X2_isStream : GoodIn wsX2_gate wsX2_isStream := goodIn_r _ [8, 2, 3, 4, 5] (by decide +kernel) (by decide +kernel)
set_option maxRecDepth 20000 in
theorem gX2_gate_X2_isStream : GoodIn wsX2_gate (va_wsS RX2 56 yX2_isStream wsX2_isStream) := goodIn_app (goodIn_of _ (by decide +kernel)) ggX2_gate_X2_isStream
set_option maxRecDepth 20000 in
theorem ggX2_gate_X2_gated : GoodIn wsX2_gate wsX2_gated := goodIn_r _ [11, 12] (by decide +kernel) (by decide +kernel)
set_option maxRecDepth 20000 in
theorem gX2_gate_X2_gated : GoodIn wsX2_gate (va_wsS RX2 93 yX2_gated wsX2_gated) := goodIn_app (goodIn_of _ (by decide +kernel)) ggX2_gate_X2_gated
set_option maxRecDepth 20000 in
theorem ggX2_gate_X2_setStream : GoodIn wsX2_gate wsX2_setStream := goodIn_r _ [16, 1, 17, 18, 19, 4, 20, 12, 21, 22, 23, 24, 25, 26, 27, 28, 29, 30, 31, 32, 33, 34, 35, 36, 37, 38, 39] (by decide +kernel) (by decide +kernel)
set_option maxRecDepth 20000 in
theorem gX2_gate_X2_setStream : GoodIn wsX2_gate (wsV RX2 70 RX2 yX2_setStream wsX2_setStream) := goodIn_app (goodIn_of _ (by decide +kernel)) ggX2_gate_X2_setStream
theorem dX2_gate_0 : decode cX2_gate 0 = .ok (.iload_n 1, 1) := by decide +kernel
theorem dX2_gate_1 : decode cX2_gate 1 = .ok (.iconst 0, 1) := by decide +kernel
theorem dX2_gate_2 : decode cX2_gate 2 = .ok (.bipush 6, 2) := by decide +kernel
theorem dX2_gate_4 : decode cX2_gate 4 = .ok (.invokestatic 89, 3) := by decide +kernel
theorem dX2_gate_7 : decode cX2_gate 7 = .ok (.ifCond .ne 6, 3) := by decide +kernel
theorem dX2_gate_10 : decode cX2_gate 10 = .ok (.bipush (-102), 2) := by decide +kernel
theorem dX2_gate_12 : decode cX2_gate 12 = .ok (.ireturn, 1) := by decide +kernel
theorem dX2_gate_13 : decode cX2_gate 13 = .ok (.iload 5, 2) := by decide +kernel
theorem dX2_gate_15 : decode cX2_gate 15 = .ok (.invokestatic 56, 3) := by decide +kernel
theorem dX2_gate_18 : decode cX2_gate 18 = .ok (.ifCond .eq 17, 3) := by decide +kernel
theorem dX2_gate_21 : decode cX2_gate 21 = .ok (.iload_n 2, 1) := by decide +kernel
theorem dX2_gate_22 : decode cX2_gate 22 = .ok (.invokestatic 56, 3) := by decide +kernel
theorem dX2_gate_25 : decode cX2_gate 25 = .ok (.ifCond .eq 10, 3) := by decide +kernel
theorem dX2_gate_28 : decode cX2_gate 28 = .ok (.iload_n 3, 1) := by decide +kernel
theorem dX2_gate_29 : decode cX2_gate 29 = .ok (.invokestatic 56, 3) := by decide +kernel
theorem dX2_gate_32 : decode cX2_gate 32 = .ok (.ifCond .ne 6, 3) := by decide +kernel
theorem dX2_gate_35 : decode cX2_gate 35 = .ok (.bipush (-101), 2) := by decide +kernel
theorem dX2_gate_37 : decode cX2_gate 37 = .ok (.ireturn, 1) := by decide +kernel
theorem dX2_gate_38 : decode cX2_gate 38 = .ok (.iload_n 1, 1) := by decide +kernel
theorem dX2_gate_39 : decode cX2_gate 39 = .ok (.iconst 5, 1) := by decide +kernel
theorem dX2_gate_40 : decode cX2_gate 40 = .ok (.if_icmp .eq 33, 3) := by decide +kernel
theorem dX2_gate_43 : decode cX2_gate 43 = .ok (.iload_n 1, 1) := by decide +kernel
theorem dX2_gate_44 : decode cX2_gate 44 = .ok (.bipush 6, 2) := by decide +kernel
theorem dX2_gate_46 : decode cX2_gate 46 = .ok (.if_icmp .eq 27, 3) := by decide +kernel
theorem dX2_gate_49 : decode cX2_gate 49 = .ok (.aload_n 0, 1) := by decide +kernel
theorem dX2_gate_50 : decode cX2_gate 50 = .ok (.iload 5, 2) := by decide +kernel
theorem dX2_gate_52 : decode cX2_gate 52 = .ok (.iload_n 1, 1) := by decide +kernel
theorem dX2_gate_53 : decode cX2_gate 53 = .ok (.aload_n 0, 1) := by decide +kernel
theorem dX2_gate_54 : decode cX2_gate 54 = .ok (.getfield 23, 3) := by decide +kernel
theorem dX2_gate_57 : decode cX2_gate 57 = .ok (.iload_n 2, 1) := by decide +kernel
theorem dX2_gate_58 : decode cX2_gate 58 = .ok (.laload, 1) := by decide +kernel
theorem dX2_gate_59 : decode cX2_gate 59 = .ok (.aload_n 0, 1) := by decide +kernel
theorem dX2_gate_60 : decode cX2_gate 60 = .ok (.getfield 23, 3) := by decide +kernel
theorem dX2_gate_63 : decode cX2_gate 63 = .ok (.iload_n 3, 1) := by decide +kernel
theorem dX2_gate_64 : decode cX2_gate 64 = .ok (.laload, 1) := by decide +kernel
theorem dX2_gate_65 : decode cX2_gate 65 = .ok (.lconst 0, 1) := by decide +kernel
theorem dX2_gate_66 : decode cX2_gate 66 = .ok (.invokestatic 93, 3) := by decide +kernel
theorem dX2_gate_69 : decode cX2_gate 69 = .ok (.invokevirtual 70, 3) := by decide +kernel
theorem dX2_gate_72 : decode cX2_gate 72 = .ok (.ireturn, 1) := by decide +kernel
theorem dX2_gate_73 : decode cX2_gate 73 = .ok (.iload 4, 2) := by decide +kernel
theorem dX2_gate_75 : decode cX2_gate 75 = .ok (.invokestatic 56, 3) := by decide +kernel
theorem dX2_gate_78 : decode cX2_gate 78 = .ok (.ifCond .ne 6, 3) := by decide +kernel
theorem dX2_gate_81 : decode cX2_gate 81 = .ok (.bipush (-101), 2) := by decide +kernel
theorem dX2_gate_83 : decode cX2_gate 83 = .ok (.ireturn, 1) := by decide +kernel
theorem dX2_gate_84 : decode cX2_gate 84 = .ok (.aload_n 0, 1) := by decide +kernel
theorem dX2_gate_85 : decode cX2_gate 85 = .ok (.iload 5, 2) := by decide +kernel
theorem dX2_gate_87 : decode cX2_gate 87 = .ok (.iload_n 1, 1) := by decide +kernel
theorem dX2_gate_88 : decode cX2_gate 88 = .ok (.aload_n 0, 1) := by decide +kernel
theorem dX2_gate_89 : decode cX2_gate 89 = .ok (.getfield 23, 3) := by decide +kernel
theorem dX2_gate_92 : decode cX2_gate 92 = .ok (.iload_n 2, 1) := by decide +kernel
theorem dX2_gate_93 : decode cX2_gate 93 = .ok (.laload, 1) := by decide +kernel
theorem dX2_gate_94 : decode cX2_gate 94 = .ok (.aload_n 0, 1) := by decide +kernel
theorem dX2_gate_95 : decode cX2_gate 95 = .ok (.getfield 23, 3) := by decide +kernel
theorem dX2_gate_98 : decode cX2_gate 98 = .ok (.iload_n 3, 1) := by decide +kernel
theorem dX2_gate_99 : decode cX2_gate 99 = .ok (.laload, 1) := by decide +kernel
theorem dX2_gate_100 : decode cX2_gate 100 = .ok (.aload_n 0, 1) := by decide +kernel
theorem dX2_gate_101 : decode cX2_gate 101 = .ok (.getfield 23, 3) := by decide +kernel
theorem dX2_gate_104 : decode cX2_gate 104 = .ok (.iload 4, 2) := by decide +kernel
theorem dX2_gate_106 : decode cX2_gate 106 = .ok (.laload, 1) := by decide +kernel
theorem dX2_gate_107 : decode cX2_gate 107 = .ok (.invokestatic 93, 3) := by decide +kernel
theorem dX2_gate_110 : decode cX2_gate 110 = .ok (.invokevirtual 70, 3) := by decide +kernel
theorem dX2_gate_113 : decode cX2_gate 113 = .ok (.ireturn, 1) := by decide +kernel
set_option maxRecDepth 20000 in
theorem ggX2_not_X2_isStream : GoodIn wsX2_not wsX2_isStream := goodIn_r _ [6, 7, 8, 5, 9] (by decide +kernel) (by decide +kernel)
set_option maxRecDepth 20000 in
theorem gX2_not_X2_isStream : GoodIn wsX2_not (va_wsS RX2 56 yX2_isStream wsX2_isStream) := goodIn_app (goodIn_of _ (by decide +kernel)) ggX2_not_X2_isStream
set_option maxRecDepth 20000 in
theorem ggX2_not_X2_setStream : GoodIn wsX2_not wsX2_setStream := goodIn_r _ [13, 1, 14, 15, 16, 5, 17, 2, 18, 19, 20, 21, 22, 23, 24, 25, 26, 27, 28, 29, 30, 31, 32, 33, 34, 35, 36] (by decide +kernel) (by decide +kernel)
set_option maxRecDepth 20000 in
theorem gX2_not_X2_setStream : GoodIn wsX2_not (wsV RX2 70 RX2 yX2_setStream wsX2_setStream) := goodIn_app (goodIn_of _ (by decide +kernel)) ggX2_not_X2_setStream
theorem dX2_not_0 : decode cX2_not 0 = .ok (.iload_n 1, 1) := by decide +kernel
theorem dX2_not_1 : decode cX2_not 1 = .ok (.invokestatic 56, 3) := by decide +kernel
theorem dX2_not_4 : decode cX2_not 4 = .ok (.ifCond .eq 10, 3) := by decide +kernel
theorem dX2_not_7 : decode cX2_not 7 = .ok (.iload_n 2, 1) := by decide +kernel
theorem dX2_not_8 : decode cX2_not 8 = .ok (.invokestatic 56, 3) := by decide +kernel
theorem dX2_not_11 : decode cX2_not 11 = .ok (.ifCond .ne 6, 3) := by decide +kernel
theorem dX2_not_14 : decode cX2_not 14 = .ok (.bipush (-101), 2) := by decide +kernel
theorem dX2_not_16 : decode cX2_not 16 = .ok (.ireturn, 1) := by decide +kernel
theorem dX2_not_17 : decode cX2_not 17 = .ok (.aload_n 0, 1) := by decide +kernel
theorem dX2_not_18 : decode cX2_not 18 = .ok (.iload_n 2, 1) := by decide +kernel
theorem dX2_not_19 : decode cX2_not 19 = .ok (.aload_n 0, 1) := by decide +kernel
theorem dX2_not_20 : decode cX2_not 20 = .ok (.getfield 23, 3) := by decide +kernel
theorem dX2_not_23 : decode cX2_not 23 = .ok (.iload_n 1, 1) := by decide +kernel
theorem dX2_not_24 : decode cX2_not 24 = .ok (.laload, 1) := by decide +kernel
theorem dX2_not_25 : decode cX2_not 25 = .ok (.ldc2_w 81, 3) := by decide +kernel
theorem dX2_not_28 : decode cX2_not 28 = .ok (.lxor, 1) := by decide +kernel
theorem dX2_not_29 : decode cX2_not 29 = .ok (.invokevirtual 70, 3) := by decide +kernel
theorem dX2_not_32 : decode cX2_not 32 = .ok (.ireturn, 1) := by decide +kernel
set_option maxRecDepth 20000 in
theorem ggX2_later_X2_isStream : GoodIn wsX2_later wsX2_isStream := goodIn_r _ [6, 7, 8, 5, 9] (by decide +kernel) (by decide +kernel)
set_option maxRecDepth 20000 in
theorem gX2_later_X2_isStream : GoodIn wsX2_later (va_wsS RX2 56 yX2_isStream wsX2_isStream) := goodIn_app (goodIn_of _ (by decide +kernel)) ggX2_later_X2_isStream
set_option maxRecDepth 20000 in
theorem ggX2_later_X2_isWithin : GoodIn wsX2_later wsX2_isWithin := goodIn_r _ [9] (by decide +kernel) (by decide +kernel)
set_option maxRecDepth 20000 in
theorem gX2_later_X2_isWithin : GoodIn wsX2_later (va_wsS RX2 89 yX2_isWithin wsX2_isWithin) := goodIn_app (goodIn_of _ (by decide +kernel)) ggX2_later_X2_isWithin
set_option maxRecDepth 20000 in
theorem ggX2_later_X1_shifted : GoodIn wsX2_later wsX1_shifted := goodIn_r _ [13, 14, 15, 16, 17, 11, 18, 19, 5, 20, 21, 44, 45] (by decide +kernel) (by decide +kernel)
set_option maxRecDepth 20000 in
theorem gX2_later_X1_shifted_n97 : GoodIn wsX2_later (wsX1_shifted) := ggX2_later_X1_shifted
set_option maxRecDepth 20000 in
theorem ggX2_later_X2_setStream : GoodIn wsX2_later wsX2_setStream := goodIn_r _ [25, 2, 1, 26, 19, 5, 20, 21, 27, 28, 29, 30, 31, 32, 33, 34, 35, 36, 37, 38, 39, 40, 41, 42, 43, 44, 45] (by decide +kernel) (by decide +kernel)
set_option maxRecDepth 20000 in
theorem gX2_later_X2_setStream : GoodIn wsX2_later (wsV RX2 70 RX2 yX2_setStream wsX2_setStream) := goodIn_app (goodIn_of _ (by decide +kernel)) ggX2_later_X2_setStream
theorem dX2_later_0 : decode cX2_later 0 = .ok (.iload_n 1, 1) := by decide +kernel
theorem dX2_later_1 : decode cX2_later 1 = .ok (.invokestatic 56, 3) := by decide +kernel
theorem dX2_later_4 : decode cX2_later 4 = .ok (.ifCond .eq 10, 3) := by decide +kernel
theorem dX2_later_7 : decode cX2_later 7 = .ok (.iload_n 3, 1) := by decide +kernel
theorem dX2_later_8 : decode cX2_later 8 = .ok (.invokestatic 56, 3) := by decide +kernel
theorem dX2_later_11 : decode cX2_later 11 = .ok (.ifCond .ne 6, 3) := by decide +kernel
theorem dX2_later_14 : decode cX2_later 14 = .ok (.bipush (-101), 2) := by decide +kernel
theorem dX2_later_16 : decode cX2_later 16 = .ok (.ireturn, 1) := by decide +kernel
theorem dX2_later_17 : decode cX2_later 17 = .ok (.iload_n 2, 1) := by decide +kernel
theorem dX2_later_18 : decode cX2_later 18 = .ok (.bipush (-64), 2) := by decide +kernel
theorem dX2_later_20 : decode cX2_later 20 = .ok (.bipush 64, 2) := by decide +kernel
theorem dX2_later_22 : decode cX2_later 22 = .ok (.invokestatic 89, 3) := by decide +kernel
theorem dX2_later_25 : decode cX2_later 25 = .ok (.ifCond .ne 6, 3) := by decide +kernel
theorem dX2_later_28 : decode cX2_later 28 = .ok (.bipush (-102), 2) := by decide +kernel
theorem dX2_later_30 : decode cX2_later 30 = .ok (.ireturn, 1) := by decide +kernel
theorem dX2_later_31 : decode cX2_later 31 = .ok (.aload_n 0, 1) := by decide +kernel
theorem dX2_later_32 : decode cX2_later 32 = .ok (.iload_n 3, 1) := by decide +kernel
theorem dX2_later_33 : decode cX2_later 33 = .ok (.aload_n 0, 1) := by decide +kernel
theorem dX2_later_34 : decode cX2_later 34 = .ok (.getfield 10, 3) := by decide +kernel
theorem dX2_later_37 : decode cX2_later 37 = .ok (.aload_n 0, 1) := by decide +kernel
theorem dX2_later_38 : decode cX2_later 38 = .ok (.getfield 23, 3) := by decide +kernel
theorem dX2_later_41 : decode cX2_later 41 = .ok (.iload_n 1, 1) := by decide +kernel
theorem dX2_later_42 : decode cX2_later 42 = .ok (.laload, 1) := by decide +kernel
theorem dX2_later_43 : decode cX2_later 43 = .ok (.iload_n 2, 1) := by decide +kernel
theorem dX2_later_44 : decode cX2_later 44 = .ok (.ineg, 1) := by decide +kernel
theorem dX2_later_45 : decode cX2_later 45 = .ok (.invokevirtual 97, 3) := by decide +kernel
theorem dX2_later_48 : decode cX2_later 48 = .ok (.invokevirtual 70, 3) := by decide +kernel
theorem dX2_later_51 : decode cX2_later 51 = .ok (.ireturn, 1) := by decide +kernel
set_option maxRecDepth 20000 in
theorem ggX2_flip_X2_isStream : GoodIn wsX2_flip wsX2_isStream := goodIn_r _ [6, 7, 8, 5, 9] (by decide +kernel) (by decide +kernel)
set_option maxRecDepth 20000 in
theorem gX2_flip_X2_isStream : GoodIn wsX2_flip (va_wsS RX2 56 yX2_isStream wsX2_isStream) := goodIn_app (goodIn_of _ (by decide +kernel)) ggX2_flip_X2_isStream
set_option maxRecDepth 20000 in
theorem ggX2_flip_X2_isWithin : GoodIn wsX2_flip wsX2_isWithin := goodIn_r _ [9] (by decide +kernel) (by decide +kernel)
set_option maxRecDepth 20000 in
theorem gX2_flip_X2_isWithin : GoodIn wsX2_flip (va_wsS RX2 89 yX2_isWithin wsX2_isWithin) := goodIn_app (goodIn_of _ (by decide +kernel)) ggX2_flip_X2_isWithin
set_option maxRecDepth 20000 in
theorem ggX2_flip_X2_lowBits : GoodIn wsX2_flip wsX2_lowBits := goodIn_r _ [12, 13] (by decide +kernel) (by decide +kernel)
set_option maxRecDepth 20000 in
theorem gX2_flip_X2_lowBits : GoodIn wsX2_flip (va_wsS RX2 101 yX2_lowBits wsX2_lowBits) := goodIn_app (goodIn_of _ (by decide +kernel)) ggX2_flip_X2_lowBits
set_option maxRecDepth 20000 in
theorem ggX2_flip_J13_bitCount_95d88 : GoodIn wsX2_flip wsJ13_bitCount_95d88 := goodIn_r _ [17, 18, 19, 20] (by decide +kernel) (by decide +kernel)
set_option maxRecDepth 20000 in
theorem gX2_flip_J13_bitCount_95d88 : GoodIn wsX2_flip (va_wsS RX2 83 yJ13_bitCount_95d88 wsJ13_bitCount_95d88) := goodIn_app (goodIn_of _ (by decide +kernel)) ggX2_flip_J13_bitCount_95d88
theorem dX2_flip_0 : decode cX2_flip 0 = .ok (.iload_n 1, 1) := by decide +kernel
theorem dX2_flip_1 : decode cX2_flip 1 = .ok (.invokestatic 56, 3) := by decide +kernel
theorem dX2_flip_4 : decode cX2_flip 4 = .ok (.ifCond .ne 6, 3) := by decide +kernel
theorem dX2_flip_7 : decode cX2_flip 7 = .ok (.bipush (-101), 2) := by decide +kernel
theorem dX2_flip_9 : decode cX2_flip 9 = .ok (.ireturn, 1) := by decide +kernel
theorem dX2_flip_10 : decode cX2_flip 10 = .ok (.iload 4, 2) := by decide +kernel
theorem dX2_flip_12 : decode cX2_flip 12 = .ok (.iconst 0, 1) := by decide +kernel
theorem dX2_flip_13 : decode cX2_flip 13 = .ok (.aload_n 0, 1) := by decide +kernel
theorem dX2_flip_14 : decode cX2_flip 14 = .ok (.getfield 10, 3) := by decide +kernel
theorem dX2_flip_17 : decode cX2_flip 17 = .ok (.getfield 49, 3) := by decide +kernel
theorem dX2_flip_20 : decode cX2_flip 20 = .ok (.invokestatic 89, 3) := by decide +kernel
theorem dX2_flip_23 : decode cX2_flip 23 = .ok (.ifCond .ne 6, 3) := by decide +kernel
theorem dX2_flip_26 : decode cX2_flip 26 = .ok (.bipush (-102), 2) := by decide +kernel
theorem dX2_flip_28 : decode cX2_flip 28 = .ok (.ireturn, 1) := by decide +kernel
theorem dX2_flip_29 : decode cX2_flip 29 = .ok (.lload_n 2, 1) := by decide +kernel
theorem dX2_flip_30 : decode cX2_flip 30 = .ok (.iload 4, 2) := by decide +kernel
theorem dX2_flip_32 : decode cX2_flip 32 = .ok (.invokestatic 101, 3) := by decide +kernel
theorem dX2_flip_35 : decode cX2_flip 35 = .ok (.land, 1) := by decide +kernel
theorem dX2_flip_36 : decode cX2_flip 36 = .ok (.lstore 5, 2) := by decide +kernel
theorem dX2_flip_38 : decode cX2_flip 38 = .ok (.aload_n 0, 1) := by decide +kernel
theorem dX2_flip_39 : decode cX2_flip 39 = .ok (.getfield 23, 3) := by decide +kernel
theorem dX2_flip_42 : decode cX2_flip 42 = .ok (.iload_n 1, 1) := by decide +kernel
theorem dX2_flip_43 : decode cX2_flip 43 = .ok (.dup2, 1) := by decide +kernel
theorem dX2_flip_44 : decode cX2_flip 44 = .ok (.laload, 1) := by decide +kernel
theorem dX2_flip_45 : decode cX2_flip 45 = .ok (.lload 5, 2) := by decide +kernel
theorem dX2_flip_47 : decode cX2_flip 47 = .ok (.lxor, 1) := by decide +kernel
theorem dX2_flip_48 : decode cX2_flip 48 = .ok (.lastore, 1) := by decide +kernel
theorem dX2_flip_49 : decode cX2_flip 49 = .ok (.lload 5, 2) := by decide +kernel
theorem dX2_flip_51 : decode cX2_flip 51 = .ok (.invokestatic 83, 3) := by decide +kernel
theorem dX2_flip_54 : decode cX2_flip 54 = .ok (.ireturn, 1) := by decide +kernel
set_option maxRecDepth 20000 in
theorem ggX2_both_X2_isStream : GoodIn wsX2_both wsX2_isStream := goodIn_r _ [5, 6, 7, 4, 8] (by decide +kernel) (by decide +kernel)
set_option maxRecDepth 20000 in
theorem gX2_both_X2_isStream : GoodIn wsX2_both (va_wsS RX2 56 yX2_isStream wsX2_isStream) := goodIn_app (goodIn_of _ (by decide +kernel)) ggX2_both_X2_isStream
set_option maxRecDepth 20000 in
theorem ggX2_both_X2_isWithin : GoodIn wsX2_both wsX2_isWithin := goodIn_r _ [8] (by decide +kernel) (by decide +kernel)
set_option maxRecDepth 20000 in
theorem gX2_both_X2_isWithin : GoodIn wsX2_both (va_wsS RX2 89 yX2_isWithin wsX2_isWithin) := goodIn_app (goodIn_of _ (by decide +kernel)) ggX2_both_X2_isWithin
set_option maxRecDepth 20000 in
theorem ggX2_both_X2_onesOfSort : GoodIn wsX2_both wsX2_onesOfSort := goodIn_r _ [12, 13, 14, 15, 16, 4, 17, 18, 19, 20, 21, 22, 23, 24, 25, 26, 27, 28, 29, 30, 31, 32, 33, 34, 35, 36] (by decide +kernel) (by decide +kernel)
set_option maxRecDepth 20000 in
theorem gX2_both_X2_onesOfSort : GoodIn wsX2_both (wsV RX2 105 RX2 yX2_onesOfSort wsX2_onesOfSort) := goodIn_app (goodIn_of _ (by decide +kernel)) ggX2_both_X2_onesOfSort
theorem dX2_both_0 : decode cX2_both 0 = .ok (.iload_n 1, 1) := by decide +kernel
theorem dX2_both_1 : decode cX2_both 1 = .ok (.invokestatic 56, 3) := by decide +kernel
theorem dX2_both_4 : decode cX2_both 4 = .ok (.ifCond .eq 10, 3) := by decide +kernel
theorem dX2_both_7 : decode cX2_both 7 = .ok (.iload_n 2, 1) := by decide +kernel
theorem dX2_both_8 : decode cX2_both 8 = .ok (.invokestatic 56, 3) := by decide +kernel
theorem dX2_both_11 : decode cX2_both 11 = .ok (.ifCond .ne 6, 3) := by decide +kernel
theorem dX2_both_14 : decode cX2_both 14 = .ok (.bipush (-101), 2) := by decide +kernel
theorem dX2_both_16 : decode cX2_both 16 = .ok (.ireturn, 1) := by decide +kernel
theorem dX2_both_17 : decode cX2_both 17 = .ok (.iload_n 3, 1) := by decide +kernel
theorem dX2_both_18 : decode cX2_both 18 = .ok (.iconst 0, 1) := by decide +kernel
theorem dX2_both_19 : decode cX2_both 19 = .ok (.iconst 3, 1) := by decide +kernel
theorem dX2_both_20 : decode cX2_both 20 = .ok (.invokestatic 89, 3) := by decide +kernel
theorem dX2_both_23 : decode cX2_both 23 = .ok (.ifCond .ne 6, 3) := by decide +kernel
theorem dX2_both_26 : decode cX2_both 26 = .ok (.bipush (-102), 2) := by decide +kernel
theorem dX2_both_28 : decode cX2_both 28 = .ok (.ireturn, 1) := by decide +kernel
theorem dX2_both_29 : decode cX2_both 29 = .ok (.aload_n 0, 1) := by decide +kernel
theorem dX2_both_30 : decode cX2_both 30 = .ok (.aload_n 0, 1) := by decide +kernel
theorem dX2_both_31 : decode cX2_both 31 = .ok (.getfield 23, 3) := by decide +kernel
theorem dX2_both_34 : decode cX2_both 34 = .ok (.iload_n 1, 1) := by decide +kernel
theorem dX2_both_35 : decode cX2_both 35 = .ok (.laload, 1) := by decide +kernel
theorem dX2_both_36 : decode cX2_both 36 = .ok (.aload_n 0, 1) := by decide +kernel
theorem dX2_both_37 : decode cX2_both 37 = .ok (.getfield 23, 3) := by decide +kernel
theorem dX2_both_40 : decode cX2_both 40 = .ok (.iload_n 2, 1) := by decide +kernel
theorem dX2_both_41 : decode cX2_both 41 = .ok (.laload, 1) := by decide +kernel
theorem dX2_both_42 : decode cX2_both 42 = .ok (.iload_n 3, 1) := by decide +kernel
theorem dX2_both_43 : decode cX2_both 43 = .ok (.invokevirtual 105, 3) := by decide +kernel
theorem dX2_both_46 : decode cX2_both 46 = .ok (.ireturn, 1) := by decide +kernel
set_option maxRecDepth 20000 in
theorem ggX2_together_X2_isStream : GoodIn wsX2_together wsX2_isStream := goodIn_r _ [14, 15, 16, 13, 17] (by decide +kernel) (by decide +kernel)
set_option maxRecDepth 20000 in
theorem gX2_together_X2_isStream : GoodIn wsX2_together (va_wsS RX2 56 yX2_isStream wsX2_isStream) := goodIn_app (goodIn_of _ (by decide +kernel)) ggX2_together_X2_isStream
set_option maxRecDepth 20000 in
theorem ggX2_together_X2_onesOfSort : GoodIn wsX2_together wsX2_onesOfSort := goodIn_r _ [21, 22, 3, 23, 24, 13, 25, 26, 27, 28, 29, 30, 31, 32, 33, 34, 35, 36, 37, 38, 39, 40, 41, 42, 43, 44] (by decide +kernel) (by decide +kernel)
set_option maxRecDepth 20000 in
theorem gX2_together_X2_onesOfSort : GoodIn wsX2_together (wsV RX2 105 RX2 yX2_onesOfSort wsX2_onesOfSort) := goodIn_app (goodIn_of _ (by decide +kernel)) ggX2_together_X2_onesOfSort
theorem dX2_together_0 : decode cX2_together 0 = .ok (.iload_n 1, 1) := by decide +kernel
theorem dX2_together_1 : decode cX2_together 1 = .ok (.invokestatic 56, 3) := by decide +kernel
theorem dX2_together_4 : decode cX2_together 4 = .ok (.ifCond .eq 10, 3) := by decide +kernel
theorem dX2_together_7 : decode cX2_together 7 = .ok (.iload_n 2, 1) := by decide +kernel
theorem dX2_together_8 : decode cX2_together 8 = .ok (.invokestatic 56, 3) := by decide +kernel
theorem dX2_together_11 : decode cX2_together 11 = .ok (.ifCond .ne 6, 3) := by decide +kernel
theorem dX2_together_14 : decode cX2_together 14 = .ok (.ldc 109, 2) := by decide +kernel
theorem dX2_together_16 : decode cX2_together 16 = .ok (.ireturn, 1) := by decide +kernel
theorem dX2_together_17 : decode cX2_together 17 = .ok (.aload_n 0, 1) := by decide +kernel
theorem dX2_together_18 : decode cX2_together 18 = .ok (.aload_n 0, 1) := by decide +kernel
theorem dX2_together_19 : decode cX2_together 19 = .ok (.getfield 23, 3) := by decide +kernel
theorem dX2_together_22 : decode cX2_together 22 = .ok (.iload_n 1, 1) := by decide +kernel
theorem dX2_together_23 : decode cX2_together 23 = .ok (.laload, 1) := by decide +kernel
theorem dX2_together_24 : decode cX2_together 24 = .ok (.aload_n 0, 1) := by decide +kernel
theorem dX2_together_25 : decode cX2_together 25 = .ok (.getfield 23, 3) := by decide +kernel
theorem dX2_together_28 : decode cX2_together 28 = .ok (.iload_n 2, 1) := by decide +kernel
theorem dX2_together_29 : decode cX2_together 29 = .ok (.laload, 1) := by decide +kernel
theorem dX2_together_30 : decode cX2_together 30 = .ok (.iconst 0, 1) := by decide +kernel
theorem dX2_together_31 : decode cX2_together 31 = .ok (.invokevirtual 105, 3) := by decide +kernel
theorem dX2_together_34 : decode cX2_together 34 = .ok (.istore_n 3, 1) := by decide +kernel
theorem dX2_together_35 : decode cX2_together 35 = .ok (.aload_n 0, 1) := by decide +kernel
theorem dX2_together_36 : decode cX2_together 36 = .ok (.aload_n 0, 1) := by decide +kernel
theorem dX2_together_37 : decode cX2_together 37 = .ok (.getfield 23, 3) := by decide +kernel
theorem dX2_together_40 : decode cX2_together 40 = .ok (.iload_n 1, 1) := by decide +kernel
theorem dX2_together_41 : decode cX2_together 41 = .ok (.laload, 1) := by decide +kernel
theorem dX2_together_42 : decode cX2_together 42 = .ok (.aload_n 0, 1) := by decide +kernel
theorem dX2_together_43 : decode cX2_together 43 = .ok (.getfield 23, 3) := by decide +kernel
theorem dX2_together_46 : decode cX2_together 46 = .ok (.iload_n 2, 1) := by decide +kernel
theorem dX2_together_47 : decode cX2_together 47 = .ok (.laload, 1) := by decide +kernel
theorem dX2_together_48 : decode cX2_together 48 = .ok (.iconst 1, 1) := by decide +kernel
theorem dX2_together_49 : decode cX2_together 49 = .ok (.invokevirtual 105, 3) := by decide +kernel
theorem dX2_together_52 : decode cX2_together 52 = .ok (.istore 4, 2) := by decide +kernel
theorem dX2_together_54 : decode cX2_together 54 = .ok (.aload_n 0, 1) := by decide +kernel
theorem dX2_together_55 : decode cX2_together 55 = .ok (.aload_n 0, 1) := by decide +kernel
theorem dX2_together_56 : decode cX2_together 56 = .ok (.getfield 23, 3) := by decide +kernel
theorem dX2_together_59 : decode cX2_together 59 = .ok (.iload_n 1, 1) := by decide +kernel
theorem dX2_together_60 : decode cX2_together 60 = .ok (.laload, 1) := by decide +kernel
theorem dX2_together_61 : decode cX2_together 61 = .ok (.aload_n 0, 1) := by decide +kernel
theorem dX2_together_62 : decode cX2_together 62 = .ok (.getfield 23, 3) := by decide +kernel
theorem dX2_together_65 : decode cX2_together 65 = .ok (.iload_n 2, 1) := by decide +kernel
theorem dX2_together_66 : decode cX2_together 66 = .ok (.laload, 1) := by decide +kernel
theorem dX2_together_67 : decode cX2_together 67 = .ok (.iconst 2, 1) := by decide +kernel
theorem dX2_together_68 : decode cX2_together 68 = .ok (.invokevirtual 105, 3) := by decide +kernel
theorem dX2_together_71 : decode cX2_together 71 = .ok (.istore 5, 2) := by decide +kernel
theorem dX2_together_73 : decode cX2_together 73 = .ok (.aload_n 0, 1) := by decide +kernel
theorem dX2_together_74 : decode cX2_together 74 = .ok (.aload_n 0, 1) := by decide +kernel
theorem dX2_together_75 : decode cX2_together 75 = .ok (.getfield 23, 3) := by decide +kernel
theorem dX2_together_78 : decode cX2_together 78 = .ok (.iload_n 1, 1) := by decide +kernel
theorem dX2_together_79 : decode cX2_together 79 = .ok (.laload, 1) := by decide +kernel
theorem dX2_together_80 : decode cX2_together 80 = .ok (.aload_n 0, 1) := by decide +kernel
theorem dX2_together_81 : decode cX2_together 81 = .ok (.getfield 23, 3) := by decide +kernel
theorem dX2_together_84 : decode cX2_together 84 = .ok (.iload_n 2, 1) := by decide +kernel
theorem dX2_together_85 : decode cX2_together 85 = .ok (.laload, 1) := by decide +kernel
theorem dX2_together_86 : decode cX2_together 86 = .ok (.iconst 3, 1) := by decide +kernel
theorem dX2_together_87 : decode cX2_together 87 = .ok (.invokevirtual 105, 3) := by decide +kernel
theorem dX2_together_90 : decode cX2_together 90 = .ok (.istore 6, 2) := by decide +kernel
theorem dX2_together_92 : decode cX2_together 92 = .ok (.iload_n 3, 1) := by decide +kernel
theorem dX2_together_93 : decode cX2_together 93 = .ok (.iload 6, 2) := by decide +kernel
theorem dX2_together_95 : decode cX2_together 95 = .ok (.imul, 1) := by decide +kernel
theorem dX2_together_96 : decode cX2_together 96 = .ok (.iload 4, 2) := by decide +kernel
theorem dX2_together_98 : decode cX2_together 98 = .ok (.iload 5, 2) := by decide +kernel
theorem dX2_together_100 : decode cX2_together 100 = .ok (.imul, 1) := by decide +kernel
theorem dX2_together_101 : decode cX2_together 101 = .ok (.isub, 1) := by decide +kernel
theorem dX2_together_102 : decode cX2_together 102 = .ok (.istore 7, 2) := by decide +kernel
theorem dX2_together_104 : decode cX2_together 104 = .ok (.iload_n 3, 1) := by decide +kernel
theorem dX2_together_105 : decode cX2_together 105 = .ok (.iload 4, 2) := by decide +kernel
theorem dX2_together_107 : decode cX2_together 107 = .ok (.iadd, 1) := by decide +kernel
theorem dX2_together_108 : decode cX2_together 108 = .ok (.iload_n 3, 1) := by decide +kernel
theorem dX2_together_109 : decode cX2_together 109 = .ok (.iload 5, 2) := by decide +kernel
theorem dX2_together_111 : decode cX2_together 111 = .ok (.iadd, 1) := by decide +kernel
theorem dX2_together_112 : decode cX2_together 112 = .ok (.imul, 1) := by decide +kernel
theorem dX2_together_113 : decode cX2_together 113 = .ok (.istore 8, 2) := by decide +kernel
theorem dX2_together_115 : decode cX2_together 115 = .ok (.iload 7, 2) := by decide +kernel
theorem dX2_together_117 : decode cX2_together 117 = .ok (.ifCond .le 28, 3) := by decide +kernel
theorem dX2_together_120 : decode cX2_together 120 = .ok (.aload_n 0, 1) := by decide +kernel
theorem dX2_together_121 : decode cX2_together 121 = .ok (.getfield 10, 3) := by decide +kernel
theorem dX2_together_124 : decode cX2_together 124 = .ok (.getfield 49, 3) := by decide +kernel
theorem dX2_together_127 : decode cX2_together 127 = .ok (.iload_n 3, 1) := by decide +kernel
theorem dX2_together_128 : decode cX2_together 128 = .ok (.iload 4, 2) := by decide +kernel
theorem dX2_together_130 : decode cX2_together 130 = .ok (.iadd, 1) := by decide +kernel
theorem dX2_together_131 : decode cX2_together 131 = .ok (.iload_n 3, 1) := by decide +kernel
theorem dX2_together_132 : decode cX2_together 132 = .ok (.iload 5, 2) := by decide +kernel
theorem dX2_together_134 : decode cX2_together 134 = .ok (.iadd, 1) := by decide +kernel
theorem dX2_together_135 : decode cX2_together 135 = .ok (.invokestatic 110, 3) := by decide +kernel
theorem dX2_together_138 : decode cX2_together 138 = .ok (.imul, 1) := by decide +kernel
theorem dX2_together_139 : decode cX2_together 139 = .ok (.iload 8, 2) := by decide +kernel
theorem dX2_together_141 : decode cX2_together 141 = .ok (.isub, 1) := by decide +kernel
theorem dX2_together_142 : decode cX2_together 142 = .ok (.goto 22, 3) := by decide +kernel
theorem dX2_together_145 : decode cX2_together 145 = .ok (.iload 8, 2) := by decide +kernel
theorem dX2_together_147 : decode cX2_together 147 = .ok (.aload_n 0, 1) := by decide +kernel
theorem dX2_together_148 : decode cX2_together 148 = .ok (.getfield 10, 3) := by decide +kernel
theorem dX2_together_151 : decode cX2_together 151 = .ok (.getfield 49, 3) := by decide +kernel
theorem dX2_together_154 : decode cX2_together 154 = .ok (.iload_n 3, 1) := by decide +kernel
theorem dX2_together_155 : decode cX2_together 155 = .ok (.iload 6, 2) := by decide +kernel
theorem dX2_together_157 : decode cX2_together 157 = .ok (.isub, 1) := by decide +kernel
theorem dX2_together_158 : decode cX2_together 158 = .ok (.iconst 0, 1) := by decide +kernel
theorem dX2_together_159 : decode cX2_together 159 = .ok (.invokestatic 116, 3) := by decide +kernel
theorem dX2_together_162 : decode cX2_together 162 = .ok (.imul, 1) := by decide +kernel
theorem dX2_together_163 : decode cX2_together 163 = .ok (.isub, 1) := by decide +kernel
theorem dX2_together_164 : decode cX2_together 164 = .ok (.istore 9, 2) := by decide +kernel
theorem dX2_together_166 : decode cX2_together 166 = .ok (.iload 7, 2) := by decide +kernel
theorem dX2_together_168 : decode cX2_together 168 = .ok (.ifCond .eq 8, 3) := by decide +kernel
theorem dX2_together_171 : decode cX2_together 171 = .ok (.iload 9, 2) := by decide +kernel
theorem dX2_together_173 : decode cX2_together 173 = .ok (.ifCond .ne 5, 3) := by decide +kernel
theorem dX2_together_176 : decode cX2_together 176 = .ok (.iconst 0, 1) := by decide +kernel
theorem dX2_together_177 : decode cX2_together 177 = .ok (.ireturn, 1) := by decide +kernel
theorem dX2_together_178 : decode cX2_together 178 = .ok (.sipush 1000, 3) := by decide +kernel
theorem dX2_together_181 : decode cX2_together 181 = .ok (.iload 7, 2) := by decide +kernel
theorem dX2_together_183 : decode cX2_together 183 = .ok (.imul, 1) := by decide +kernel
theorem dX2_together_184 : decode cX2_together 184 = .ok (.iload 9, 2) := by decide +kernel
theorem dX2_together_186 : decode cX2_together 186 = .ok (.idiv, 1) := by decide +kernel
theorem dX2_together_187 : decode cX2_together 187 = .ok (.ireturn, 1) := by decide +kernel
set_option maxRecDepth 20000 in
theorem ggX2_miss_X2_isWithin : GoodIn wsX2_miss wsX2_isWithin := goodIn_r _ [8] (by decide +kernel) (by decide +kernel)
set_option maxRecDepth 20000 in
theorem gX2_miss_X2_isWithin : GoodIn wsX2_miss (va_wsS RX2 89 yX2_isWithin wsX2_isWithin) := goodIn_app (goodIn_of _ (by decide +kernel)) ggX2_miss_X2_isWithin
set_option maxRecDepth 20000 in
theorem ggX2_miss_X2_isSource : GoodIn wsX2_miss wsX2_isSource := goodIn_r _ [11, 5, 6, 7, 8] (by decide +kernel) (by decide +kernel)
set_option maxRecDepth 20000 in
theorem gX2_miss_X2_isSource : GoodIn wsX2_miss (va_wsS RX2 60 yX2_isSource wsX2_isSource) := goodIn_app (goodIn_of _ (by decide +kernel)) ggX2_miss_X2_isSource
set_option maxRecDepth 20000 in
theorem ggX2_miss_X1_ofSource : GoodIn wsX2_miss wsX1_ofSource := goodIn_r _ [15, 16, 7, 17, 18, 19, 20, 21, 13, 22, 23, 24, 25, 26, 27, 28, 29, 30, 31, 32, 33, 34, 35, 36, 37, 38, 39, 40, 83, 84] (by decide +kernel) (by decide +kernel)
set_option maxRecDepth 20000 in
theorem gX2_miss_X1_ofSource_n66 : GoodIn wsX2_miss (wsX1_ofSource) := ggX2_miss_X1_ofSource
set_option maxRecDepth 20000 in
theorem ggX2_miss_X1_shifted : GoodIn wsX2_miss wsX1_shifted := goodIn_r _ [43, 32, 44, 45, 46, 13, 47, 16, 7, 17, 18, 83, 84] (by decide +kernel) (by decide +kernel)
set_option maxRecDepth 20000 in
theorem gX2_miss_X1_shifted_n97 : GoodIn wsX2_miss (wsX1_shifted) := ggX2_miss_X1_shifted
set_option maxRecDepth 20000 in
theorem ggX2_miss_X2_greatestMiss : GoodIn wsX2_miss wsX2_greatestMiss := goodIn_r _ [51, 2, 3, 4, 52, 53, 54, 55, 56, 57, 58, 16, 7, 17, 18, 59, 60, 61, 62, 63, 64, 65, 66, 67, 68, 69, 70, 71, 72, 73, 74, 75, 76, 77, 78, 79, 80, 81, 82, 83, 84] (by decide +kernel) (by decide +kernel)
set_option maxRecDepth 20000 in
theorem gX2_miss_X2_greatestMiss : GoodIn wsX2_miss (wsV RX2 119 RX2 yX2_greatestMiss wsX2_greatestMiss) := goodIn_app (goodIn_of _ (by decide +kernel)) ggX2_miss_X2_greatestMiss
theorem dX2_miss_0 : decode cX2_miss 0 = .ok (.iload_n 1, 1) := by decide +kernel
theorem dX2_miss_1 : decode cX2_miss 1 = .ok (.iconst 0, 1) := by decide +kernel
theorem dX2_miss_2 : decode cX2_miss 2 = .ok (.iconst 3, 1) := by decide +kernel
theorem dX2_miss_3 : decode cX2_miss 3 = .ok (.invokestatic 89, 3) := by decide +kernel
theorem dX2_miss_6 : decode cX2_miss 6 = .ok (.ifCond .eq 28, 3) := by decide +kernel
theorem dX2_miss_9 : decode cX2_miss 9 = .ok (.iload_n 2, 1) := by decide +kernel
theorem dX2_miss_10 : decode cX2_miss 10 = .ok (.invokestatic 60, 3) := by decide +kernel
theorem dX2_miss_13 : decode cX2_miss 13 = .ok (.ifCond .eq 21, 3) := by decide +kernel
theorem dX2_miss_16 : decode cX2_miss 16 = .ok (.iload_n 3, 1) := by decide +kernel
theorem dX2_miss_17 : decode cX2_miss 17 = .ok (.invokestatic 60, 3) := by decide +kernel
theorem dX2_miss_20 : decode cX2_miss 20 = .ok (.ifCond .eq 14, 3) := by decide +kernel
theorem dX2_miss_23 : decode cX2_miss 23 = .ok (.iload 4, 2) := by decide +kernel
theorem dX2_miss_25 : decode cX2_miss 25 = .ok (.iconst 0, 1) := by decide +kernel
theorem dX2_miss_26 : decode cX2_miss 26 = .ok (.bipush 63, 2) := by decide +kernel
theorem dX2_miss_28 : decode cX2_miss 28 = .ok (.invokestatic 89, 3) := by decide +kernel
theorem dX2_miss_31 : decode cX2_miss 31 = .ok (.ifCond .ne 6, 3) := by decide +kernel
theorem dX2_miss_34 : decode cX2_miss 34 = .ok (.bipush (-102), 2) := by decide +kernel
theorem dX2_miss_36 : decode cX2_miss 36 = .ok (.ireturn, 1) := by decide +kernel
theorem dX2_miss_37 : decode cX2_miss 37 = .ok (.aload_n 0, 1) := by decide +kernel
theorem dX2_miss_38 : decode cX2_miss 38 = .ok (.getfield 40, 3) := by decide +kernel
theorem dX2_miss_41 : decode cX2_miss 41 = .ok (.bipush 60, 2) := by decide +kernel
theorem dX2_miss_43 : decode cX2_miss 43 = .ok (.if_icmp .lt 6, 3) := by decide +kernel
theorem dX2_miss_46 : decode cX2_miss 46 = .ok (.bipush (-103), 2) := by decide +kernel
theorem dX2_miss_48 : decode cX2_miss 48 = .ok (.ireturn, 1) := by decide +kernel
theorem dX2_miss_49 : decode cX2_miss 49 = .ok (.aload_n 0, 1) := by decide +kernel
theorem dX2_miss_50 : decode cX2_miss 50 = .ok (.dup, 1) := by decide +kernel
theorem dX2_miss_51 : decode cX2_miss 51 = .ok (.getfield 40, 3) := by decide +kernel
theorem dX2_miss_54 : decode cX2_miss 54 = .ok (.iconst 1, 1) := by decide +kernel
theorem dX2_miss_55 : decode cX2_miss 55 = .ok (.iadd, 1) := by decide +kernel
theorem dX2_miss_56 : decode cX2_miss 56 = .ok (.putfield 40, 3) := by decide +kernel
theorem dX2_miss_59 : decode cX2_miss 59 = .ok (.iconst 0, 1) := by decide +kernel
theorem dX2_miss_60 : decode cX2_miss 60 = .ok (.istore 5, 2) := by decide +kernel
theorem dX2_miss_62 : decode cX2_miss 62 = .ok (.iload 5, 2) := by decide +kernel
theorem dX2_miss_64 : decode cX2_miss 64 = .ok (.aload_n 0, 1) := by decide +kernel
theorem dX2_miss_65 : decode cX2_miss 65 = .ok (.getfield 10, 3) := by decide +kernel
theorem dX2_miss_68 : decode cX2_miss 68 = .ok (.getfield 49, 3) := by decide +kernel
theorem dX2_miss_71 : decode cX2_miss 71 = .ok (.if_icmp .gt 52, 3) := by decide +kernel
theorem dX2_miss_74 : decode cX2_miss 74 = .ok (.aload_n 0, 1) := by decide +kernel
theorem dX2_miss_75 : decode cX2_miss 75 = .ok (.getfield 27, 3) := by decide +kernel
theorem dX2_miss_78 : decode cX2_miss 78 = .ok (.iload 5, 2) := by decide +kernel
theorem dX2_miss_80 : decode cX2_miss 80 = .ok (.aload_n 0, 1) := by decide +kernel
theorem dX2_miss_81 : decode cX2_miss 81 = .ok (.getfield 10, 3) := by decide +kernel
theorem dX2_miss_84 : decode cX2_miss 84 = .ok (.iload_n 2, 1) := by decide +kernel
theorem dX2_miss_85 : decode cX2_miss 85 = .ok (.iload 5, 2) := by decide +kernel
theorem dX2_miss_87 : decode cX2_miss 87 = .ok (.invokevirtual 66, 3) := by decide +kernel
theorem dX2_miss_90 : decode cX2_miss 90 = .ok (.lastore, 1) := by decide +kernel
theorem dX2_miss_91 : decode cX2_miss 91 = .ok (.aload_n 0, 1) := by decide +kernel
theorem dX2_miss_92 : decode cX2_miss 92 = .ok (.getfield 30, 3) := by decide +kernel
theorem dX2_miss_95 : decode cX2_miss 95 = .ok (.iload 5, 2) := by decide +kernel
theorem dX2_miss_97 : decode cX2_miss 97 = .ok (.aload_n 0, 1) := by decide +kernel
theorem dX2_miss_98 : decode cX2_miss 98 = .ok (.getfield 10, 3) := by decide +kernel
theorem dX2_miss_101 : decode cX2_miss 101 = .ok (.aload_n 0, 1) := by decide +kernel
theorem dX2_miss_102 : decode cX2_miss 102 = .ok (.getfield 10, 3) := by decide +kernel
theorem dX2_miss_105 : decode cX2_miss 105 = .ok (.iload_n 3, 1) := by decide +kernel
theorem dX2_miss_106 : decode cX2_miss 106 = .ok (.iload 5, 2) := by decide +kernel
theorem dX2_miss_108 : decode cX2_miss 108 = .ok (.invokevirtual 66, 3) := by decide +kernel
theorem dX2_miss_111 : decode cX2_miss 111 = .ok (.iload 4, 2) := by decide +kernel
theorem dX2_miss_113 : decode cX2_miss 113 = .ok (.invokevirtual 97, 3) := by decide +kernel
theorem dX2_miss_116 : decode cX2_miss 116 = .ok (.lastore, 1) := by decide +kernel
theorem dX2_miss_117 : decode cX2_miss 117 = .ok (.iinc 5 1, 3) := by decide +kernel
theorem dX2_miss_120 : decode cX2_miss 120 = .ok (.goto (-58), 3) := by decide +kernel
theorem dX2_miss_123 : decode cX2_miss 123 = .ok (.aload_n 0, 1) := by decide +kernel
theorem dX2_miss_124 : decode cX2_miss 124 = .ok (.iload_n 1, 1) := by decide +kernel
theorem dX2_miss_125 : decode cX2_miss 125 = .ok (.invokevirtual 119, 3) := by decide +kernel
theorem dX2_miss_128 : decode cX2_miss 128 = .ok (.ireturn, 1) := by decide +kernel
set_option maxRecDepth 20000 in
theorem ggX2_where_X2_isWithin : GoodIn wsX2_where wsX2_isWithin := goodIn_r _ [7] (by decide +kernel) (by decide +kernel)
set_option maxRecDepth 20000 in
theorem gX2_where_X2_isWithin : GoodIn wsX2_where (va_wsS RX2 89 yX2_isWithin wsX2_isWithin) := goodIn_app (goodIn_of _ (by decide +kernel)) ggX2_where_X2_isWithin
theorem dX2_where_0 : decode cX2_where 0 = .ok (.aload_n 0, 1) := by decide +kernel
theorem dX2_where_1 : decode cX2_where 1 = .ok (.getfield 40, 3) := by decide +kernel
theorem dX2_where_4 : decode cX2_where 4 = .ok (.ifCond .ne 6, 3) := by decide +kernel
theorem dX2_where_7 : decode cX2_where 7 = .ok (.bipush (-103), 2) := by decide +kernel
theorem dX2_where_9 : decode cX2_where 9 = .ok (.ireturn, 1) := by decide +kernel
theorem dX2_where_10 : decode cX2_where 10 = .ok (.iload_n 1, 1) := by decide +kernel
theorem dX2_where_11 : decode cX2_where 11 = .ok (.iconst 0, 1) := by decide +kernel
theorem dX2_where_12 : decode cX2_where 12 = .ok (.iconst 1, 1) := by decide +kernel
theorem dX2_where_13 : decode cX2_where 13 = .ok (.invokestatic 89, 3) := by decide +kernel
theorem dX2_where_16 : decode cX2_where 16 = .ok (.ifCond .ne 6, 3) := by decide +kernel
theorem dX2_where_19 : decode cX2_where 19 = .ok (.bipush (-102), 2) := by decide +kernel
theorem dX2_where_21 : decode cX2_where 21 = .ok (.ireturn, 1) := by decide +kernel
theorem dX2_where_22 : decode cX2_where 22 = .ok (.iload_n 1, 1) := by decide +kernel
theorem dX2_where_23 : decode cX2_where 23 = .ok (.ifCond .ne 10, 3) := by decide +kernel
theorem dX2_where_26 : decode cX2_where 26 = .ok (.aload_n 0, 1) := by decide +kernel
theorem dX2_where_27 : decode cX2_where 27 = .ok (.getfield 43, 3) := by decide +kernel
theorem dX2_where_30 : decode cX2_where 30 = .ok (.goto 7, 3) := by decide +kernel
theorem dX2_where_33 : decode cX2_where 33 = .ok (.aload_n 0, 1) := by decide +kernel
theorem dX2_where_34 : decode cX2_where 34 = .ok (.getfield 46, 3) := by decide +kernel
theorem dX2_where_37 : decode cX2_where 37 = .ok (.ireturn, 1) := by decide +kernel
set_option maxRecDepth 20000 in
theorem ggX2_machine_X2_isStream : GoodIn wsX2_machine wsX2_isStream := goodIn_r _ [5, 6, 7, 4, 8] (by decide +kernel) (by decide +kernel)
set_option maxRecDepth 20000 in
theorem gX2_machine_X2_isStream : GoodIn wsX2_machine (va_wsS RX2 56 yX2_isStream wsX2_isStream) := goodIn_app (goodIn_of _ (by decide +kernel)) ggX2_machine_X2_isStream
set_option maxRecDepth 20000 in
theorem ggX2_machine_X2_isMachine : GoodIn wsX2_machine wsX2_isMachine := goodIn_r _ [11, 6, 7, 4, 8] (by decide +kernel) (by decide +kernel)
set_option maxRecDepth 20000 in
theorem gX2_machine_X2_isMachine : GoodIn wsX2_machine (va_wsS RX2 123 yX2_isMachine wsX2_isMachine) := goodIn_app (goodIn_of _ (by decide +kernel)) ggX2_machine_X2_isMachine
set_option maxRecDepth 20000 in
theorem ggX2_machine_X2_ranThrough : GoodIn wsX2_machine wsX2_ranThrough := goodIn_r _ [15, 16, 17, 18, 19, 20, 21, 22, 23, 24, 25, 26, 4, 27, 28, 29, 30, 46, 47, 48, 49, 50, 51, 52, 53, 54, 55, 56, 57] (by decide +kernel) (by decide +kernel)
set_option maxRecDepth 20000 in
theorem gX2_machine_X2_ranThrough : GoodIn wsX2_machine (wsV RX2 126 RX2 yX2_ranThrough wsX2_ranThrough) := goodIn_app (goodIn_of _ (by decide +kernel)) ggX2_machine_X2_ranThrough
set_option maxRecDepth 20000 in
theorem ggX2_machine_X2_setStream : GoodIn wsX2_machine wsX2_setStream := goodIn_r _ [34, 1, 16, 35, 36, 4, 37, 38, 39, 40, 41, 42, 43, 44, 45, 46, 47, 48, 49, 50, 51, 52, 53, 54, 55, 56, 57] (by decide +kernel) (by decide +kernel)
set_option maxRecDepth 20000 in
theorem gX2_machine_X2_setStream : GoodIn wsX2_machine (wsV RX2 70 RX2 yX2_setStream wsX2_setStream) := goodIn_app (goodIn_of _ (by decide +kernel)) ggX2_machine_X2_setStream
theorem dX2_machine_0 : decode cX2_machine 0 = .ok (.iload_n 1, 1) := by decide +kernel
theorem dX2_machine_1 : decode cX2_machine 1 = .ok (.invokestatic 56, 3) := by decide +kernel
theorem dX2_machine_4 : decode cX2_machine 4 = .ok (.ifCond .eq 10, 3) := by decide +kernel
theorem dX2_machine_7 : decode cX2_machine 7 = .ok (.iload_n 3, 1) := by decide +kernel
theorem dX2_machine_8 : decode cX2_machine 8 = .ok (.invokestatic 56, 3) := by decide +kernel
theorem dX2_machine_11 : decode cX2_machine 11 = .ok (.ifCond .ne 6, 3) := by decide +kernel
theorem dX2_machine_14 : decode cX2_machine 14 = .ok (.bipush (-101), 2) := by decide +kernel
theorem dX2_machine_16 : decode cX2_machine 16 = .ok (.ireturn, 1) := by decide +kernel
theorem dX2_machine_17 : decode cX2_machine 17 = .ok (.iload_n 2, 1) := by decide +kernel
theorem dX2_machine_18 : decode cX2_machine 18 = .ok (.invokestatic 123, 3) := by decide +kernel
theorem dX2_machine_21 : decode cX2_machine 21 = .ok (.ifCond .ne 6, 3) := by decide +kernel
theorem dX2_machine_24 : decode cX2_machine 24 = .ok (.bipush (-102), 2) := by decide +kernel
theorem dX2_machine_26 : decode cX2_machine 26 = .ok (.ireturn, 1) := by decide +kernel
theorem dX2_machine_27 : decode cX2_machine 27 = .ok (.aload_n 0, 1) := by decide +kernel
theorem dX2_machine_28 : decode cX2_machine 28 = .ok (.iload_n 3, 1) := by decide +kernel
theorem dX2_machine_29 : decode cX2_machine 29 = .ok (.aload_n 0, 1) := by decide +kernel
theorem dX2_machine_30 : decode cX2_machine 30 = .ok (.aload_n 0, 1) := by decide +kernel
theorem dX2_machine_31 : decode cX2_machine 31 = .ok (.getfield 23, 3) := by decide +kernel
theorem dX2_machine_34 : decode cX2_machine 34 = .ok (.iload_n 1, 1) := by decide +kernel
theorem dX2_machine_35 : decode cX2_machine 35 = .ok (.laload, 1) := by decide +kernel
theorem dX2_machine_36 : decode cX2_machine 36 = .ok (.iload_n 2, 1) := by decide +kernel
theorem dX2_machine_37 : decode cX2_machine 37 = .ok (.invokevirtual 126, 3) := by decide +kernel
theorem dX2_machine_40 : decode cX2_machine 40 = .ok (.invokevirtual 70, 3) := by decide +kernel
theorem dX2_machine_43 : decode cX2_machine 43 = .ok (.ireturn, 1) := by decide +kernel
theorem dX2_state_0 : decode cX2_state 0 = .ok (.aload_n 0, 1) := by decide +kernel
theorem dX2_state_1 : decode cX2_state 1 = .ok (.getfield 36, 3) := by decide +kernel
theorem dX2_state_4 : decode cX2_state 4 = .ok (.ireturn, 1) := by decide +kernel
set_option maxRecDepth 20000 in
theorem ggX2_ever_X2_isMachine : GoodIn wsX2_ever wsX2_isMachine := goodIn_r _ [6, 7, 8, 5, 9] (by decide +kernel) (by decide +kernel)
set_option maxRecDepth 20000 in
theorem gX2_ever_X2_isMachine : GoodIn wsX2_ever (va_wsS RX2 123 yX2_isMachine wsX2_isMachine) := goodIn_app (goodIn_of _ (by decide +kernel)) ggX2_ever_X2_isMachine
set_option maxRecDepth 20000 in
theorem ggX2_ever_X2_isValue : GoodIn wsX2_ever wsX2_isValue := goodIn_r _ [13, 2, 7, 8, 5, 9, 33, 34, 35, 36, 37, 38, 39, 40, 41, 42, 43, 44] (by decide +kernel) (by decide +kernel)
set_option maxRecDepth 20000 in
theorem gX2_ever_X2_isValue : GoodIn wsX2_ever (wsV RX2 63 RX2 yX2_isValue wsX2_isValue) := goodIn_app (goodIn_of _ (by decide +kernel)) ggX2_ever_X2_isValue
set_option maxRecDepth 20000 in
theorem ggX2_ever_X2_isWithin : GoodIn wsX2_ever wsX2_isWithin := goodIn_r _ [9] (by decide +kernel) (by decide +kernel)
set_option maxRecDepth 20000 in
theorem gX2_ever_X2_isWithin : GoodIn wsX2_ever (va_wsS RX2 89 yX2_isWithin wsX2_isWithin) := goodIn_app (goodIn_of _ (by decide +kernel)) ggX2_ever_X2_isWithin
set_option maxRecDepth 20000 in
theorem ggX2_ever_X2_power : GoodIn wsX2_ever wsX2_power := goodIn_r _ [16] (by decide +kernel) (by decide +kernel)
set_option maxRecDepth 20000 in
theorem gX2_ever_X2_power : GoodIn wsX2_ever (va_wsS RX2 131 yX2_power wsX2_power) := goodIn_app (goodIn_of _ (by decide +kernel)) ggX2_ever_X2_power
set_option maxRecDepth 20000 in
theorem ggX2_ever_X2_isUpper : GoodIn wsX2_ever wsX2_isUpper := goodIn_r _ [19] (by decide +kernel) (by decide +kernel)
set_option maxRecDepth 20000 in
theorem gX2_ever_X2_isUpper : GoodIn wsX2_ever (va_wsS RX2 134 yX2_isUpper wsX2_isUpper) := goodIn_app (goodIn_of _ (by decide +kernel)) ggX2_ever_X2_isUpper
set_option maxRecDepth 20000 in
theorem ggX2_ever_X2_inLowestTerms : GoodIn wsX2_ever wsX2_inLowestTerms := goodIn_r _ [22, 23, 24, 25, 26, 27, 28, 5, 29, 30, 31, 32] (by decide +kernel) (by decide +kernel)
set_option maxRecDepth 20000 in
theorem gX2_ever_X2_inLowestTerms : GoodIn wsX2_ever (va_wsS RX2 138 yX2_inLowestTerms wsX2_inLowestTerms) := goodIn_app (goodIn_of _ (by decide +kernel)) ggX2_ever_X2_inLowestTerms
theorem dX2_ever_0 : decode cX2_ever 0 = .ok (.iload_n 1, 1) := by decide +kernel
theorem dX2_ever_1 : decode cX2_ever 1 = .ok (.invokestatic 123, 3) := by decide +kernel
theorem dX2_ever_4 : decode cX2_ever 4 = .ok (.ifCond .eq 20, 3) := by decide +kernel
theorem dX2_ever_7 : decode cX2_ever 7 = .ok (.aload_n 0, 1) := by decide +kernel
theorem dX2_ever_8 : decode cX2_ever 8 = .ok (.iload_n 2, 1) := by decide +kernel
theorem dX2_ever_9 : decode cX2_ever 9 = .ok (.invokevirtual 63, 3) := by decide +kernel
theorem dX2_ever_12 : decode cX2_ever 12 = .ok (.ifCond .eq 12, 3) := by decide +kernel
theorem dX2_ever_15 : decode cX2_ever 15 = .ok (.iload_n 3, 1) := by decide +kernel
theorem dX2_ever_16 : decode cX2_ever 16 = .ok (.iconst 0, 1) := by decide +kernel
theorem dX2_ever_17 : decode cX2_ever 17 = .ok (.iconst 1, 1) := by decide +kernel
theorem dX2_ever_18 : decode cX2_ever 18 = .ok (.invokestatic 89, 3) := by decide +kernel
theorem dX2_ever_21 : decode cX2_ever 21 = .ok (.ifCond .ne 7, 3) := by decide +kernel
theorem dX2_ever_24 : decode cX2_ever 24 = .ok (.ldc2_w 129, 3) := by decide +kernel
theorem dX2_ever_27 : decode cX2_ever 27 = .ok (.lreturn, 1) := by decide +kernel
theorem dX2_ever_28 : decode cX2_ever 28 = .ok (.lconst 0, 1) := by decide +kernel
theorem dX2_ever_29 : decode cX2_ever 29 = .ok (.lstore 4, 2) := by decide +kernel
theorem dX2_ever_31 : decode cX2_ever 31 = .ok (.lconst 0, 1) := by decide +kernel
theorem dX2_ever_32 : decode cX2_ever 32 = .ok (.lstore 6, 2) := by decide +kernel
theorem dX2_ever_34 : decode cX2_ever 34 = .ok (.iconst 0, 1) := by decide +kernel
end
section
theorem dX2_ever_35 : decode cX2_ever 35 = .ok (.istore 8, 2) := by decide +kernel
theorem dX2_ever_37 : decode cX2_ever 37 = .ok (.iload 8, 2) := by decide +kernel
theorem dX2_ever_39 : decode cX2_ever 39 = .ok (.iload_n 1, 1) := by decide +kernel
theorem dX2_ever_40 : decode cX2_ever 40 = .ok (.if_icmp .ge 61, 3) := by decide +kernel
theorem dX2_ever_43 : decode cX2_ever 43 = .ok (.iload_n 2, 1) := by decide +kernel
theorem dX2_ever_44 : decode cX2_ever 44 = .ok (.i2l, 1) := by decide +kernel
theorem dX2_ever_45 : decode cX2_ever 45 = .ok (.iload 8, 2) := by decide +kernel
theorem dX2_ever_47 : decode cX2_ever 47 = .ok (.invokestatic 131, 3) := by decide +kernel
theorem dX2_ever_50 : decode cX2_ever 50 = .ok (.aload_n 0, 1) := by decide +kernel
theorem dX2_ever_51 : decode cX2_ever 51 = .ok (.getfield 10, 3) := by decide +kernel
theorem dX2_ever_54 : decode cX2_ever 54 = .ok (.getfield 49, 3) := by decide +kernel
theorem dX2_ever_57 : decode cX2_ever 57 = .ok (.iload_n 2, 1) := by decide +kernel
theorem dX2_ever_58 : decode cX2_ever 58 = .ok (.isub, 1) := by decide +kernel
theorem dX2_ever_59 : decode cX2_ever 59 = .ok (.i2l, 1) := by decide +kernel
theorem dX2_ever_60 : decode cX2_ever 60 = .ok (.iload_n 1, 1) := by decide +kernel
theorem dX2_ever_61 : decode cX2_ever 61 = .ok (.iconst 1, 1) := by decide +kernel
theorem dX2_ever_62 : decode cX2_ever 62 = .ok (.isub, 1) := by decide +kernel
theorem dX2_ever_63 : decode cX2_ever 63 = .ok (.iload 8, 2) := by decide +kernel
theorem dX2_ever_65 : decode cX2_ever 65 = .ok (.isub, 1) := by decide +kernel
theorem dX2_ever_66 : decode cX2_ever 66 = .ok (.invokestatic 131, 3) := by decide +kernel
theorem dX2_ever_69 : decode cX2_ever 69 = .ok (.lmul, 1) := by decide +kernel
theorem dX2_ever_70 : decode cX2_ever 70 = .ok (.lstore 9, 2) := by decide +kernel
theorem dX2_ever_72 : decode cX2_ever 72 = .ok (.lload 6, 2) := by decide +kernel
theorem dX2_ever_74 : decode cX2_ever 74 = .ok (.lload 9, 2) := by decide +kernel
theorem dX2_ever_76 : decode cX2_ever 76 = .ok (.ladd, 1) := by decide +kernel
theorem dX2_ever_77 : decode cX2_ever 77 = .ok (.lstore 6, 2) := by decide +kernel
theorem dX2_ever_79 : decode cX2_ever 79 = .ok (.iload 8, 2) := by decide +kernel
theorem dX2_ever_81 : decode cX2_ever 81 = .ok (.iload_n 1, 1) := by decide +kernel
theorem dX2_ever_82 : decode cX2_ever 82 = .ok (.invokestatic 134, 3) := by decide +kernel
theorem dX2_ever_85 : decode cX2_ever 85 = .ok (.ifCond .eq 10, 3) := by decide +kernel
theorem dX2_ever_88 : decode cX2_ever 88 = .ok (.lload 4, 2) := by decide +kernel
theorem dX2_ever_90 : decode cX2_ever 90 = .ok (.lload 9, 2) := by decide +kernel
theorem dX2_ever_92 : decode cX2_ever 92 = .ok (.ladd, 1) := by decide +kernel
theorem dX2_ever_93 : decode cX2_ever 93 = .ok (.lstore 4, 2) := by decide +kernel
theorem dX2_ever_95 : decode cX2_ever 95 = .ok (.iinc 8 1, 3) := by decide +kernel
theorem dX2_ever_98 : decode cX2_ever 98 = .ok (.goto (-61), 3) := by decide +kernel
theorem dX2_ever_101 : decode cX2_ever 101 = .ok (.lload 4, 2) := by decide +kernel
theorem dX2_ever_103 : decode cX2_ever 103 = .ok (.lload 6, 2) := by decide +kernel
theorem dX2_ever_105 : decode cX2_ever 105 = .ok (.iload_n 3, 1) := by decide +kernel
theorem dX2_ever_106 : decode cX2_ever 106 = .ok (.invokestatic 138, 3) := by decide +kernel
theorem dX2_ever_109 : decode cX2_ever 109 = .ok (.lreturn, 1) := by decide +kernel
set_option maxRecDepth 20000 in
theorem ggX2_degree_X2_isWithin : GoodIn wsX2_degree wsX2_isWithin := goodIn_r _ [5] (by decide +kernel) (by decide +kernel)
set_option maxRecDepth 20000 in
theorem gX2_degree_X2_isWithin : GoodIn wsX2_degree (va_wsS RX2 89 yX2_isWithin wsX2_isWithin) := goodIn_app (goodIn_of _ (by decide +kernel)) ggX2_degree_X2_isWithin
set_option maxRecDepth 20000 in
theorem ggX2_degree_X0_setDegree : GoodIn wsX2_degree wsX0_setDegree := goodIn_r _ [9, 10, 11, 12, 23, 24, 25] (by decide +kernel) (by decide +kernel)
set_option maxRecDepth 20000 in
theorem gX2_degree_X0_setDegree_n142 : GoodIn wsX2_degree (wsX0_setDegree) := ggX2_degree_X0_setDegree
theorem dX2_degree_0 : decode cX2_degree 0 = .ok (.iload_n 1, 1) := by decide +kernel
theorem dX2_degree_1 : decode cX2_degree 1 = .ok (.iconst 0, 1) := by decide +kernel
theorem dX2_degree_2 : decode cX2_degree 2 = .ok (.iconst 4, 1) := by decide +kernel
theorem dX2_degree_3 : decode cX2_degree 3 = .ok (.invokestatic 89, 3) := by decide +kernel
theorem dX2_degree_6 : decode cX2_degree 6 = .ok (.ifCond .eq 14, 3) := by decide +kernel
theorem dX2_degree_9 : decode cX2_degree 9 = .ok (.iload_n 2, 1) := by decide +kernel
theorem dX2_degree_10 : decode cX2_degree 10 = .ok (.iconst 1, 1) := by decide +kernel
theorem dX2_degree_11 : decode cX2_degree 11 = .ok (.sipush 1000, 3) := by decide +kernel
theorem dX2_degree_14 : decode cX2_degree 14 = .ok (.invokestatic 89, 3) := by decide +kernel
theorem dX2_degree_17 : decode cX2_degree 17 = .ok (.ifCond .ne 6, 3) := by decide +kernel
theorem dX2_degree_20 : decode cX2_degree 20 = .ok (.bipush (-102), 2) := by decide +kernel
theorem dX2_degree_22 : decode cX2_degree 22 = .ok (.ireturn, 1) := by decide +kernel
theorem dX2_degree_23 : decode cX2_degree 23 = .ok (.aload_n 0, 1) := by decide +kernel
theorem dX2_degree_24 : decode cX2_degree 24 = .ok (.getfield 19, 3) := by decide +kernel
theorem dX2_degree_27 : decode cX2_degree 27 = .ok (.iload_n 1, 1) := by decide +kernel
theorem dX2_degree_28 : decode cX2_degree 28 = .ok (.iload_n 2, 1) := by decide +kernel
theorem dX2_degree_29 : decode cX2_degree 29 = .ok (.invokevirtual 142, 3) := by decide +kernel
theorem dX2_degree_32 : decode cX2_degree 32 = .ok (.iload_n 1, 1) := by decide +kernel
theorem dX2_degree_33 : decode cX2_degree 33 = .ok (.ireturn, 1) := by decide +kernel
set_option maxRecDepth 20000 in
theorem ggX2_term_X2_isWithin : GoodIn wsX2_term wsX2_isWithin := goodIn_r _ [5] (by decide +kernel) (by decide +kernel)
set_option maxRecDepth 20000 in
theorem gX2_term_X2_isWithin : GoodIn wsX2_term (va_wsS RX2 89 yX2_isWithin wsX2_isWithin) := goodIn_app (goodIn_of _ (by decide +kernel)) ggX2_term_X2_isWithin
theorem dX2_term_0 : decode cX2_term 0 = .ok (.iload_n 1, 1) := by decide +kernel
theorem dX2_term_1 : decode cX2_term 1 = .ok (.iconst 0, 1) := by decide +kernel
theorem dX2_term_2 : decode cX2_term 2 = .ok (.aload_n 0, 1) := by decide +kernel
theorem dX2_term_3 : decode cX2_term 3 = .ok (.getfield 19, 3) := by decide +kernel
theorem dX2_term_6 : decode cX2_term 6 = .ok (.getfield 146, 3) := by decide +kernel
theorem dX2_term_9 : decode cX2_term 9 = .ok (.invokestatic 89, 3) := by decide +kernel
theorem dX2_term_12 : decode cX2_term 12 = .ok (.ifCond .ne 6, 3) := by decide +kernel
theorem dX2_term_15 : decode cX2_term 15 = .ok (.bipush (-101), 2) := by decide +kernel
theorem dX2_term_17 : decode cX2_term 17 = .ok (.ireturn, 1) := by decide +kernel
theorem dX2_term_18 : decode cX2_term 18 = .ok (.iload_n 2, 1) := by decide +kernel
theorem dX2_term_19 : decode cX2_term 19 = .ok (.sipush (-1000), 3) := by decide +kernel
theorem dX2_term_22 : decode cX2_term 22 = .ok (.sipush 1000, 3) := by decide +kernel
theorem dX2_term_25 : decode cX2_term 25 = .ok (.invokestatic 89, 3) := by decide +kernel
theorem dX2_term_28 : decode cX2_term 28 = .ok (.ifCond .ne 6, 3) := by decide +kernel
theorem dX2_term_31 : decode cX2_term 31 = .ok (.bipush (-102), 2) := by decide +kernel
theorem dX2_term_33 : decode cX2_term 33 = .ok (.ireturn, 1) := by decide +kernel
theorem dX2_term_34 : decode cX2_term 34 = .ok (.aload_n 0, 1) := by decide +kernel
theorem dX2_term_35 : decode cX2_term 35 = .ok (.getfield 19, 3) := by decide +kernel
theorem dX2_term_38 : decode cX2_term 38 = .ok (.getfield 149, 3) := by decide +kernel
theorem dX2_term_41 : decode cX2_term 41 = .ok (.iload_n 1, 1) := by decide +kernel
theorem dX2_term_42 : decode cX2_term 42 = .ok (.iaload, 1) := by decide +kernel
theorem dX2_term_43 : decode cX2_term 43 = .ok (.istore_n 3, 1) := by decide +kernel
theorem dX2_term_44 : decode cX2_term 44 = .ok (.aload_n 0, 1) := by decide +kernel
theorem dX2_term_45 : decode cX2_term 45 = .ok (.getfield 19, 3) := by decide +kernel
theorem dX2_term_48 : decode cX2_term 48 = .ok (.getfield 149, 3) := by decide +kernel
theorem dX2_term_51 : decode cX2_term 51 = .ok (.iload_n 1, 1) := by decide +kernel
theorem dX2_term_52 : decode cX2_term 52 = .ok (.iload_n 2, 1) := by decide +kernel
theorem dX2_term_53 : decode cX2_term 53 = .ok (.iastore, 1) := by decide +kernel
theorem dX2_term_54 : decode cX2_term 54 = .ok (.iload_n 3, 1) := by decide +kernel
theorem dX2_term_55 : decode cX2_term 55 = .ok (.ireturn, 1) := by decide +kernel
set_option maxRecDepth 20000 in
theorem ggX2_part_X2_isWithin : GoodIn wsX2_part wsX2_isWithin := goodIn_r _ [7] (by decide +kernel) (by decide +kernel)
set_option maxRecDepth 20000 in
theorem gX2_part_X2_isWithin : GoodIn wsX2_part (va_wsS RX2 89 yX2_isWithin wsX2_isWithin) := goodIn_app (goodIn_of _ (by decide +kernel)) ggX2_part_X2_isWithin
set_option maxRecDepth 20000 in
theorem ggX2_part_X0_partAbove : GoodIn wsX2_part wsX0_partAbove := goodIn_r _ [11, 12, 13, 14, 15, 9, 16, 17, 18, 19, 20, 48, 49, 50] (by decide +kernel) (by decide +kernel)
set_option maxRecDepth 20000 in
theorem gX2_part_X0_partAbove_n155 : GoodIn wsX2_part (wsX0_partAbove) := ggX2_part_X0_partAbove
set_option maxRecDepth 20000 in
theorem ggX2_part_X0_partBelow : GoodIn wsX2_part wsX0_partBelow := goodIn_r _ [23, 24, 17, 18, 19, 9, 20, 12, 14, 15, 16, 48, 49, 50] (by decide +kernel) (by decide +kernel)
set_option maxRecDepth 20000 in
theorem gX2_part_X0_partBelow_n158 : GoodIn wsX2_part (wsX0_partBelow) := ggX2_part_X0_partBelow
set_option maxRecDepth 20000 in
theorem ggX2_part_X2_inLowestTerms : GoodIn wsX2_part wsX2_inLowestTerms := goodIn_r _ [27, 28, 29, 30, 31, 32, 33, 6, 34, 35, 36, 37] (by decide +kernel) (by decide +kernel)
set_option maxRecDepth 20000 in
theorem gX2_part_X2_inLowestTerms : GoodIn wsX2_part (va_wsS RX2 138 yX2_inLowestTerms wsX2_inLowestTerms) := goodIn_app (goodIn_of _ (by decide +kernel)) ggX2_part_X2_inLowestTerms
theorem dX2_part_0 : decode cX2_part 0 = .ok (.iload_n 1, 1) := by decide +kernel
theorem dX2_part_1 : decode cX2_part 1 = .ok (.aload_n 0, 1) := by decide +kernel
theorem dX2_part_2 : decode cX2_part 2 = .ok (.getfield 19, 3) := by decide +kernel
theorem dX2_part_5 : decode cX2_part 5 = .ok (.getfield 146, 3) := by decide +kernel
theorem dX2_part_8 : decode cX2_part 8 = .ok (.bipush 10, 2) := by decide +kernel
theorem dX2_part_10 : decode cX2_part 10 = .ok (.invokestatic 89, 3) := by decide +kernel
theorem dX2_part_13 : decode cX2_part 13 = .ok (.ifCond .eq 12, 3) := by decide +kernel
theorem dX2_part_16 : decode cX2_part 16 = .ok (.iload_n 3, 1) := by decide +kernel
theorem dX2_part_17 : decode cX2_part 17 = .ok (.iconst 0, 1) := by decide +kernel
theorem dX2_part_18 : decode cX2_part 18 = .ok (.iconst 1, 1) := by decide +kernel
theorem dX2_part_19 : decode cX2_part 19 = .ok (.invokestatic 89, 3) := by decide +kernel
theorem dX2_part_22 : decode cX2_part 22 = .ok (.ifCond .ne 7, 3) := by decide +kernel
theorem dX2_part_25 : decode cX2_part 25 = .ok (.ldc2_w 129, 3) := by decide +kernel
theorem dX2_part_28 : decode cX2_part 28 = .ok (.lreturn, 1) := by decide +kernel
theorem dX2_part_29 : decode cX2_part 29 = .ok (.iload_n 2, 1) := by decide +kernel
theorem dX2_part_30 : decode cX2_part 30 = .ok (.iconst 0, 1) := by decide +kernel
theorem dX2_part_31 : decode cX2_part 31 = .ok (.iload_n 1, 1) := by decide +kernel
theorem dX2_part_32 : decode cX2_part 32 = .ok (.invokestatic 89, 3) := by decide +kernel
theorem dX2_part_35 : decode cX2_part 35 = .ok (.ifCond .ne 7, 3) := by decide +kernel
theorem dX2_part_38 : decode cX2_part 38 = .ok (.ldc2_w 153, 3) := by decide +kernel
theorem dX2_part_41 : decode cX2_part 41 = .ok (.lreturn, 1) := by decide +kernel
theorem dX2_part_42 : decode cX2_part 42 = .ok (.aload_n 0, 1) := by decide +kernel
theorem dX2_part_43 : decode cX2_part 43 = .ok (.getfield 19, 3) := by decide +kernel
theorem dX2_part_46 : decode cX2_part 46 = .ok (.iload_n 1, 1) := by decide +kernel
theorem dX2_part_47 : decode cX2_part 47 = .ok (.iload_n 2, 1) := by decide +kernel
theorem dX2_part_48 : decode cX2_part 48 = .ok (.invokevirtual 155, 3) := by decide +kernel
theorem dX2_part_51 : decode cX2_part 51 = .ok (.aload_n 0, 1) := by decide +kernel
theorem dX2_part_52 : decode cX2_part 52 = .ok (.getfield 19, 3) := by decide +kernel
theorem dX2_part_55 : decode cX2_part 55 = .ok (.iload_n 1, 1) := by decide +kernel
theorem dX2_part_56 : decode cX2_part 56 = .ok (.invokevirtual 158, 3) := by decide +kernel
theorem dX2_part_59 : decode cX2_part 59 = .ok (.iload_n 3, 1) := by decide +kernel
theorem dX2_part_60 : decode cX2_part 60 = .ok (.invokestatic 138, 3) := by decide +kernel
theorem dX2_part_63 : decode cX2_part 63 = .ok (.lreturn, 1) := by decide +kernel
set_option maxRecDepth 20000 in
theorem ggX2_least_X0_mayBeMade : GoodIn wsX2_least wsX0_mayBeMade := goodIn_r _ [5, 6, 7, 8, 3, 9, 10, 11, 12, 13, 14, 15, 16, 17, 18, 19, 20, 21, 22, 23, 34, 35, 36] (by decide +kernel) (by decide +kernel)
set_option maxRecDepth 20000 in
theorem gX2_least_X0_mayBeMade_n161 : GoodIn wsX2_least (wsX0_mayBeMade) := ggX2_least_X0_mayBeMade
theorem dX2_least_0 : decode cX2_least 0 = .ok (.aload_n 0, 1) := by decide +kernel
theorem dX2_least_1 : decode cX2_least 1 = .ok (.getfield 19, 3) := by decide +kernel
theorem dX2_least_4 : decode cX2_least 4 = .ok (.getfield 146, 3) := by decide +kernel
theorem dX2_least_7 : decode cX2_least 7 = .ok (.istore_n 1, 1) := by decide +kernel
theorem dX2_least_8 : decode cX2_least 8 = .ok (.iload_n 1, 1) := by decide +kernel
theorem dX2_least_9 : decode cX2_least 9 = .ok (.bipush 10, 2) := by decide +kernel
theorem dX2_least_11 : decode cX2_least 11 = .ok (.if_icmp .gt 22, 3) := by decide +kernel
theorem dX2_least_14 : decode cX2_least 14 = .ok (.aload_n 0, 1) := by decide +kernel
theorem dX2_least_15 : decode cX2_least 15 = .ok (.getfield 19, 3) := by decide +kernel
theorem dX2_least_18 : decode cX2_least 18 = .ok (.iload_n 1, 1) := by decide +kernel
theorem dX2_least_19 : decode cX2_least 19 = .ok (.invokevirtual 161, 3) := by decide +kernel
theorem dX2_least_22 : decode cX2_least 22 = .ok (.ifCond .eq 5, 3) := by decide +kernel
theorem dX2_least_25 : decode cX2_least 25 = .ok (.iload_n 1, 1) := by decide +kernel
theorem dX2_least_26 : decode cX2_least 26 = .ok (.ireturn, 1) := by decide +kernel
theorem dX2_least_27 : decode cX2_least 27 = .ok (.iinc 1 1, 3) := by decide +kernel
theorem dX2_least_30 : decode cX2_least 30 = .ok (.goto (-22), 3) := by decide +kernel
theorem dX2_least_33 : decode cX2_least 33 = .ok (.iconst (-1), 1) := by decide +kernel
theorem dX2_least_34 : decode cX2_least 34 = .ok (.ireturn, 1) := by decide +kernel
set_option maxRecDepth 20000 in
theorem ggX2_at_X2_isValue : GoodIn wsX2_at wsX2_isValue := goodIn_r _ [8, 3, 9, 10, 7, 11, 30, 31, 32, 33, 34, 35, 36, 37, 38, 39, 40, 41] (by decide +kernel) (by decide +kernel)
set_option maxRecDepth 20000 in
theorem gX2_at_X2_isValue : GoodIn wsX2_at (wsV RX2 63 RX2 yX2_isValue wsX2_isValue) := goodIn_app (goodIn_of _ (by decide +kernel)) ggX2_at_X2_isValue
set_option maxRecDepth 20000 in
theorem ggX2_at_X0_thousandthsAt : GoodIn wsX2_at wsX0_thousandthsAt := goodIn_r _ [15, 16, 17, 18, 19, 20, 21, 22, 23, 24, 7, 25, 26, 27, 28, 29, 42, 43, 44] (by decide +kernel) (by decide +kernel)
set_option maxRecDepth 20000 in
theorem gX2_at_X0_thousandthsAt_n165 : GoodIn wsX2_at (wsX0_thousandthsAt) := ggX2_at_X0_thousandthsAt
theorem dX2_at_0 : decode cX2_at 0 = .ok (.aload_n 0, 1) := by decide +kernel
theorem dX2_at_1 : decode cX2_at 1 = .ok (.iload_n 1, 1) := by decide +kernel
theorem dX2_at_2 : decode cX2_at 2 = .ok (.invokevirtual 63, 3) := by decide +kernel
theorem dX2_at_5 : decode cX2_at 5 = .ok (.ifCond .ne 6, 3) := by decide +kernel
theorem dX2_at_8 : decode cX2_at 8 = .ok (.ldc 164, 2) := by decide +kernel
theorem dX2_at_10 : decode cX2_at 10 = .ok (.ireturn, 1) := by decide +kernel
theorem dX2_at_11 : decode cX2_at 11 = .ok (.aload_n 0, 1) := by decide +kernel
theorem dX2_at_12 : decode cX2_at 12 = .ok (.getfield 19, 3) := by decide +kernel
theorem dX2_at_15 : decode cX2_at 15 = .ok (.iload_n 1, 1) := by decide +kernel
theorem dX2_at_16 : decode cX2_at 16 = .ok (.aload_n 0, 1) := by decide +kernel
theorem dX2_at_17 : decode cX2_at 17 = .ok (.getfield 10, 3) := by decide +kernel
theorem dX2_at_20 : decode cX2_at 20 = .ok (.getfield 49, 3) := by decide +kernel
theorem dX2_at_23 : decode cX2_at 23 = .ok (.invokevirtual 165, 3) := by decide +kernel
theorem dX2_at_26 : decode cX2_at 26 = .ok (.ireturn, 1) := by decide +kernel
set_option maxRecDepth 20000 in
theorem ggX2_make_X2_isStream : GoodIn wsX2_make wsX2_isStream := goodIn_r _ [7, 8, 9, 6, 10] (by decide +kernel) (by decide +kernel)
set_option maxRecDepth 20000 in
theorem gX2_make_X2_isStream : GoodIn wsX2_make (va_wsS RX2 56 yX2_isStream wsX2_isStream) := goodIn_app (goodIn_of _ (by decide +kernel)) ggX2_make_X2_isStream
set_option maxRecDepth 20000 in
theorem ggX2_make_X2_isSource : GoodIn wsX2_make wsX2_isSource := goodIn_r _ [13, 8, 9, 6, 10] (by decide +kernel) (by decide +kernel)
set_option maxRecDepth 20000 in
theorem gX2_make_X2_isSource : GoodIn wsX2_make (va_wsS RX2 60 yX2_isSource wsX2_isSource) := goodIn_app (goodIn_of _ (by decide +kernel)) ggX2_make_X2_isSource
set_option maxRecDepth 20000 in
theorem ggX2_make_X2_isValue : GoodIn wsX2_make wsX2_isValue := goodIn_r _ [17, 3, 8, 9, 6, 10, 92, 93, 94, 95, 96, 97, 98, 99, 100, 101, 105, 106] (by decide +kernel) (by decide +kernel)
set_option maxRecDepth 20000 in
theorem gX2_make_X2_isValue : GoodIn wsX2_make (wsV RX2 63 RX2 yX2_isValue wsX2_isValue) := goodIn_app (goodIn_of _ (by decide +kernel)) ggX2_make_X2_isValue
set_option maxRecDepth 20000 in
theorem ggX2_make_X2_isWithin : GoodIn wsX2_make wsX2_isWithin := goodIn_r _ [10] (by decide +kernel) (by decide +kernel)
set_option maxRecDepth 20000 in
theorem gX2_make_X2_isWithin : GoodIn wsX2_make (va_wsS RX2 89 yX2_isWithin wsX2_isWithin) := goodIn_app (goodIn_of _ (by decide +kernel)) ggX2_make_X2_isWithin
set_option maxRecDepth 20000 in
theorem ggX2_make_X0_mayBeMade : GoodIn wsX2_make wsX0_mayBeMade := goodIn_r _ [21, 22, 23, 24, 19, 25, 26, 27, 28, 29, 30, 31, 32, 33, 34, 35, 36, 37, 38, 39, 102, 103, 104] (by decide +kernel) (by decide +kernel)
set_option maxRecDepth 20000 in
theorem gX2_make_X0_mayBeMade_n161 : GoodIn wsX2_make (wsX0_mayBeMade) := ggX2_make_X0_mayBeMade
set_option maxRecDepth 20000 in
theorem ggX2_make_X0_partAbove : GoodIn wsX2_make wsX0_partAbove := goodIn_r _ [38, 31, 39, 32, 33, 19, 34, 27, 28, 29, 30, 102, 103, 104] (by decide +kernel) (by decide +kernel)
set_option maxRecDepth 20000 in
theorem gX2_make_X0_partAbove_n155 : GoodIn wsX2_make (wsX0_partAbove) := ggX2_make_X0_partAbove
set_option maxRecDepth 20000 in
theorem ggX2_make_X1_ofSource : GoodIn wsX2_make wsX1_ofSource := goodIn_r _ [43, 44, 6, 45, 46, 47, 48, 49, 41, 50, 51, 52, 53, 54, 55, 56, 57, 58, 59, 60, 61, 62, 63, 64, 65, 66, 67, 68, 105, 106] (by decide +kernel) (by decide +kernel)
set_option maxRecDepth 20000 in
theorem gX2_make_X1_ofSource_n66 : GoodIn wsX2_make (wsX1_ofSource) := ggX2_make_X1_ofSource
set_option maxRecDepth 20000 in
theorem ggX2_make_X2_formed : GoodIn wsX2_make wsX2_formed := goodIn_r _ [72, 1, 3, 2, 23, 19, 24, 25, 26, 27, 28, 29, 30, 31, 32, 33, 34, 73, 41, 74, 75, 60, 76, 77, 6, 78, 52, 53, 54, 55, 92, 93, 94, 95, 96, 97, 98, 99, 100, 101, 105, 106, 102, 103, 104] (by decide +kernel) (by decide +kernel)
set_option maxRecDepth 20000 in
theorem gX2_make_X2_formed : GoodIn wsX2_make (wsV RX2 168 RX2 yX2_formed wsX2_formed) := goodIn_app (goodIn_of _ (by decide +kernel)) ggX2_make_X2_formed
set_option maxRecDepth 20000 in
theorem ggX2_make_X2_setStream : GoodIn wsX2_make wsX2_setStream := goodIn_r _ [82, 83, 3, 84, 44, 6, 45, 46, 85, 86, 87, 88, 89, 90, 91, 92, 93, 94, 95, 96, 97, 98, 99, 100, 101, 105, 106] (by decide +kernel) (by decide +kernel)
set_option maxRecDepth 20000 in
theorem gX2_make_X2_setStream : GoodIn wsX2_make (wsV RX2 70 RX2 yX2_setStream wsX2_setStream) := goodIn_app (goodIn_of _ (by decide +kernel)) ggX2_make_X2_setStream
theorem dX2_make_0 : decode cX2_make 0 = .ok (.iload_n 1, 1) := by decide +kernel
theorem dX2_make_1 : decode cX2_make 1 = .ok (.invokestatic 56, 3) := by decide +kernel
theorem dX2_make_4 : decode cX2_make 4 = .ok (.ifCond .ne 6, 3) := by decide +kernel
theorem dX2_make_7 : decode cX2_make 7 = .ok (.bipush (-101), 2) := by decide +kernel
theorem dX2_make_9 : decode cX2_make 9 = .ok (.ireturn, 1) := by decide +kernel
theorem dX2_make_10 : decode cX2_make 10 = .ok (.iload_n 2, 1) := by decide +kernel
theorem dX2_make_11 : decode cX2_make 11 = .ok (.invokestatic 60, 3) := by decide +kernel
theorem dX2_make_14 : decode cX2_make 14 = .ok (.ifCond .eq 28, 3) := by decide +kernel
theorem dX2_make_17 : decode cX2_make 17 = .ok (.aload_n 0, 1) := by decide +kernel
theorem dX2_make_18 : decode cX2_make 18 = .ok (.iload_n 3, 1) := by decide +kernel
theorem dX2_make_19 : decode cX2_make 19 = .ok (.invokevirtual 63, 3) := by decide +kernel
theorem dX2_make_22 : decode cX2_make 22 = .ok (.ifCond .eq 20, 3) := by decide +kernel
theorem dX2_make_25 : decode cX2_make 25 = .ok (.iload 4, 2) := by decide +kernel
theorem dX2_make_27 : decode cX2_make 27 = .ok (.aload_n 0, 1) := by decide +kernel
theorem dX2_make_28 : decode cX2_make 28 = .ok (.getfield 19, 3) := by decide +kernel
theorem dX2_make_31 : decode cX2_make 31 = .ok (.getfield 146, 3) := by decide +kernel
theorem dX2_make_34 : decode cX2_make 34 = .ok (.bipush 10, 2) := by decide +kernel
theorem dX2_make_36 : decode cX2_make 36 = .ok (.invokestatic 89, 3) := by decide +kernel
theorem dX2_make_39 : decode cX2_make 39 = .ok (.ifCond .ne 6, 3) := by decide +kernel
theorem dX2_make_42 : decode cX2_make 42 = .ok (.bipush (-102), 2) := by decide +kernel
theorem dX2_make_44 : decode cX2_make 44 = .ok (.ireturn, 1) := by decide +kernel
theorem dX2_make_45 : decode cX2_make 45 = .ok (.aload_n 0, 1) := by decide +kernel
theorem dX2_make_46 : decode cX2_make 46 = .ok (.getfield 19, 3) := by decide +kernel
theorem dX2_make_49 : decode cX2_make 49 = .ok (.iload 4, 2) := by decide +kernel
theorem dX2_make_51 : decode cX2_make 51 = .ok (.invokevirtual 161, 3) := by decide +kernel
theorem dX2_make_54 : decode cX2_make 54 = .ok (.ifCond .ne 6, 3) := by decide +kernel
theorem dX2_make_57 : decode cX2_make 57 = .ok (.bipush (-103), 2) := by decide +kernel
theorem dX2_make_59 : decode cX2_make 59 = .ok (.ireturn, 1) := by decide +kernel
theorem dX2_make_60 : decode cX2_make 60 = .ok (.iconst 0, 1) := by decide +kernel
theorem dX2_make_61 : decode cX2_make 61 = .ok (.istore 5, 2) := by decide +kernel
theorem dX2_make_63 : decode cX2_make 63 = .ok (.iload 5, 2) := by decide +kernel
theorem dX2_make_65 : decode cX2_make 65 = .ok (.iload 4, 2) := by decide +kernel
theorem dX2_make_67 : decode cX2_make 67 = .ok (.if_icmp .gt 27, 3) := by decide +kernel
theorem dX2_make_70 : decode cX2_make 70 = .ok (.aload_n 0, 1) := by decide +kernel
theorem dX2_make_71 : decode cX2_make 71 = .ok (.getfield 33, 3) := by decide +kernel
theorem dX2_make_74 : decode cX2_make 74 = .ok (.iload 5, 2) := by decide +kernel
theorem dX2_make_76 : decode cX2_make 76 = .ok (.aload_n 0, 1) := by decide +kernel
theorem dX2_make_77 : decode cX2_make 77 = .ok (.getfield 19, 3) := by decide +kernel
theorem dX2_make_80 : decode cX2_make 80 = .ok (.iload 4, 2) := by decide +kernel
theorem dX2_make_82 : decode cX2_make 82 = .ok (.iload 5, 2) := by decide +kernel
theorem dX2_make_84 : decode cX2_make 84 = .ok (.invokevirtual 155, 3) := by decide +kernel
theorem dX2_make_87 : decode cX2_make 87 = .ok (.lastore, 1) := by decide +kernel
theorem dX2_make_88 : decode cX2_make 88 = .ok (.iinc 5 1, 3) := by decide +kernel
theorem dX2_make_91 : decode cX2_make 91 = .ok (.goto (-28), 3) := by decide +kernel
theorem dX2_make_94 : decode cX2_make 94 = .ok (.aload_n 0, 1) := by decide +kernel
theorem dX2_make_95 : decode cX2_make 95 = .ok (.iload_n 1, 1) := by decide +kernel
theorem dX2_make_96 : decode cX2_make 96 = .ok (.aload_n 0, 1) := by decide +kernel
theorem dX2_make_97 : decode cX2_make 97 = .ok (.aload_n 0, 1) := by decide +kernel
theorem dX2_make_98 : decode cX2_make 98 = .ok (.getfield 10, 3) := by decide +kernel
theorem dX2_make_101 : decode cX2_make 101 = .ok (.iload_n 2, 1) := by decide +kernel
theorem dX2_make_102 : decode cX2_make 102 = .ok (.iload_n 3, 1) := by decide +kernel
theorem dX2_make_103 : decode cX2_make 103 = .ok (.invokevirtual 66, 3) := by decide +kernel
theorem dX2_make_106 : decode cX2_make 106 = .ok (.iload 4, 2) := by decide +kernel
theorem dX2_make_108 : decode cX2_make 108 = .ok (.invokevirtual 168, 3) := by decide +kernel
theorem dX2_make_111 : decode cX2_make 111 = .ok (.invokevirtual 70, 3) := by decide +kernel
theorem dX2_make_114 : decode cX2_make 114 = .ok (.ireturn, 1) := by decide +kernel
theorem dX2_count_0 : decode cX2_count 0 = .ok (.iload_n 1, 1) := by decide +kernel
theorem dX2_count_1 : decode cX2_count 1 = .ok (.tableswitch 60 0 3 #[31, 39, 47, 55], 31) := by decide +kernel
theorem dX2_count_32 : decode cX2_count 32 = .ok (.aload_n 0, 1) := by decide +kernel
theorem dX2_count_33 : decode cX2_count 33 = .ok (.getfield 10, 3) := by decide +kernel
theorem dX2_count_36 : decode cX2_count 36 = .ok (.getfield 49, 3) := by decide +kernel
theorem dX2_count_39 : decode cX2_count 39 = .ok (.ireturn, 1) := by decide +kernel
theorem dX2_count_40 : decode cX2_count 40 = .ok (.aload_n 0, 1) := by decide +kernel
theorem dX2_count_41 : decode cX2_count 41 = .ok (.getfield 19, 3) := by decide +kernel
theorem dX2_count_44 : decode cX2_count 44 = .ok (.getfield 146, 3) := by decide +kernel
theorem dX2_count_47 : decode cX2_count 47 = .ok (.ireturn, 1) := by decide +kernel
theorem dX2_count_48 : decode cX2_count 48 = .ok (.aload_n 0, 1) := by decide +kernel
theorem dX2_count_49 : decode cX2_count 49 = .ok (.getfield 19, 3) := by decide +kernel
theorem dX2_count_52 : decode cX2_count 52 = .ok (.getfield 171, 3) := by decide +kernel
theorem dX2_count_55 : decode cX2_count 55 = .ok (.ireturn, 1) := by decide +kernel
theorem dX2_count_56 : decode cX2_count 56 = .ok (.aload_n 0, 1) := by decide +kernel
theorem dX2_count_57 : decode cX2_count 57 = .ok (.getfield 40, 3) := by decide +kernel
theorem dX2_count_60 : decode cX2_count 60 = .ok (.ireturn, 1) := by decide +kernel
theorem dX2_count_61 : decode cX2_count 61 = .ok (.bipush (-102), 2) := by decide +kernel
theorem dX2_count_63 : decode cX2_count 63 = .ok (.ireturn, 1) := by decide +kernel
set_option maxRecDepth 20000 in
theorem ggX2_digest_J13_bitCount_95d88 : GoodIn wsX2_digest wsJ13_bitCount_95d88 := goodIn_r _ [11, 12, 13, 14] (by decide +kernel) (by decide +kernel)
set_option maxRecDepth 20000 in
theorem gX2_digest_J13_bitCount_95d88 : GoodIn wsX2_digest (va_wsS RX2 83 yJ13_bitCount_95d88 wsJ13_bitCount_95d88) := goodIn_app (goodIn_of _ (by decide +kernel)) ggX2_digest_J13_bitCount_95d88
theorem dX2_digest_0 : decode cX2_digest 0 = .ok (.ldc2_w 174, 3) := by decide +kernel
theorem dX2_digest_3 : decode cX2_digest 3 = .ok (.aload_n 0, 1) := by decide +kernel
theorem dX2_digest_4 : decode cX2_digest 4 = .ok (.getfield 10, 3) := by decide +kernel
theorem dX2_digest_7 : decode cX2_digest 7 = .ok (.getfield 49, 3) := by decide +kernel
theorem dX2_digest_10 : decode cX2_digest 10 = .ok (.i2l, 1) := by decide +kernel
theorem dX2_digest_11 : decode cX2_digest 11 = .ok (.ladd, 1) := by decide +kernel
theorem dX2_digest_12 : decode cX2_digest 12 = .ok (.lstore_n 1, 1) := by decide +kernel
theorem dX2_digest_13 : decode cX2_digest 13 = .ok (.iconst 0, 1) := by decide +kernel
theorem dX2_digest_14 : decode cX2_digest 14 = .ok (.istore_n 3, 1) := by decide +kernel
theorem dX2_digest_15 : decode cX2_digest 15 = .ok (.iload_n 3, 1) := by decide +kernel
theorem dX2_digest_16 : decode cX2_digest 16 = .ok (.bipush 12, 2) := by decide +kernel
theorem dX2_digest_18 : decode cX2_digest 18 = .ok (.if_icmp .ge 39, 3) := by decide +kernel
theorem dX2_digest_21 : decode cX2_digest 21 = .ok (.ldc2_w 176, 3) := by decide +kernel
theorem dX2_digest_24 : decode cX2_digest 24 = .ok (.lload_n 1, 1) := by decide +kernel
theorem dX2_digest_25 : decode cX2_digest 25 = .ok (.lmul, 1) := by decide +kernel
theorem dX2_digest_26 : decode cX2_digest 26 = .ok (.aload_n 0, 1) := by decide +kernel
theorem dX2_digest_27 : decode cX2_digest 27 = .ok (.getfield 23, 3) := by decide +kernel
theorem dX2_digest_30 : decode cX2_digest 30 = .ok (.iload_n 3, 1) := by decide +kernel
theorem dX2_digest_31 : decode cX2_digest 31 = .ok (.laload, 1) := by decide +kernel
theorem dX2_digest_32 : decode cX2_digest 32 = .ok (.invokestatic 83, 3) := by decide +kernel
theorem dX2_digest_35 : decode cX2_digest 35 = .ok (.i2l, 1) := by decide +kernel
theorem dX2_digest_36 : decode cX2_digest 36 = .ok (.ladd, 1) := by decide +kernel
theorem dX2_digest_37 : decode cX2_digest 37 = .ok (.lstore_n 1, 1) := by decide +kernel
theorem dX2_digest_38 : decode cX2_digest 38 = .ok (.ldc2_w 176, 3) := by decide +kernel
theorem dX2_digest_41 : decode cX2_digest 41 = .ok (.lload_n 1, 1) := by decide +kernel
theorem dX2_digest_42 : decode cX2_digest 42 = .ok (.lmul, 1) := by decide +kernel
theorem dX2_digest_43 : decode cX2_digest 43 = .ok (.aload_n 0, 1) := by decide +kernel
theorem dX2_digest_44 : decode cX2_digest 44 = .ok (.getfield 23, 3) := by decide +kernel
theorem dX2_digest_47 : decode cX2_digest 47 = .ok (.iload_n 3, 1) := by decide +kernel
theorem dX2_digest_48 : decode cX2_digest 48 = .ok (.laload, 1) := by decide +kernel
theorem dX2_digest_49 : decode cX2_digest 49 = .ok (.ladd, 1) := by decide +kernel
theorem dX2_digest_50 : decode cX2_digest 50 = .ok (.lstore_n 1, 1) := by decide +kernel
theorem dX2_digest_51 : decode cX2_digest 51 = .ok (.iinc 3 1, 3) := by decide +kernel
theorem dX2_digest_54 : decode cX2_digest 54 = .ok (.goto (-39), 3) := by decide +kernel
theorem dX2_digest_57 : decode cX2_digest 57 = .ok (.ldc2_w 176, 3) := by decide +kernel
theorem dX2_digest_60 : decode cX2_digest 60 = .ok (.lload_n 1, 1) := by decide +kernel
theorem dX2_digest_61 : decode cX2_digest 61 = .ok (.lmul, 1) := by decide +kernel
theorem dX2_digest_62 : decode cX2_digest 62 = .ok (.aload_n 0, 1) := by decide +kernel
theorem dX2_digest_63 : decode cX2_digest 63 = .ok (.getfield 36, 3) := by decide +kernel
theorem dX2_digest_66 : decode cX2_digest 66 = .ok (.i2l, 1) := by decide +kernel
theorem dX2_digest_67 : decode cX2_digest 67 = .ok (.ladd, 1) := by decide +kernel
theorem dX2_digest_68 : decode cX2_digest 68 = .ok (.lstore_n 1, 1) := by decide +kernel
theorem dX2_digest_69 : decode cX2_digest 69 = .ok (.ldc2_w 176, 3) := by decide +kernel
theorem dX2_digest_72 : decode cX2_digest 72 = .ok (.lload_n 1, 1) := by decide +kernel
theorem dX2_digest_73 : decode cX2_digest 73 = .ok (.lmul, 1) := by decide +kernel
theorem dX2_digest_74 : decode cX2_digest 74 = .ok (.aload_n 0, 1) := by decide +kernel
theorem dX2_digest_75 : decode cX2_digest 75 = .ok (.getfield 19, 3) := by decide +kernel
theorem dX2_digest_78 : decode cX2_digest 78 = .ok (.getfield 146, 3) := by decide +kernel
theorem dX2_digest_81 : decode cX2_digest 81 = .ok (.i2l, 1) := by decide +kernel
theorem dX2_digest_82 : decode cX2_digest 82 = .ok (.ladd, 1) := by decide +kernel
theorem dX2_digest_83 : decode cX2_digest 83 = .ok (.lstore_n 1, 1) := by decide +kernel
theorem dX2_digest_84 : decode cX2_digest 84 = .ok (.ldc2_w 176, 3) := by decide +kernel
theorem dX2_digest_87 : decode cX2_digest 87 = .ok (.lload_n 1, 1) := by decide +kernel
theorem dX2_digest_88 : decode cX2_digest 88 = .ok (.lmul, 1) := by decide +kernel
theorem dX2_digest_89 : decode cX2_digest 89 = .ok (.aload_n 0, 1) := by decide +kernel
theorem dX2_digest_90 : decode cX2_digest 90 = .ok (.getfield 19, 3) := by decide +kernel
theorem dX2_digest_93 : decode cX2_digest 93 = .ok (.getfield 171, 3) := by decide +kernel
theorem dX2_digest_96 : decode cX2_digest 96 = .ok (.i2l, 1) := by decide +kernel
theorem dX2_digest_97 : decode cX2_digest 97 = .ok (.ladd, 1) := by decide +kernel
theorem dX2_digest_98 : decode cX2_digest 98 = .ok (.lstore_n 1, 1) := by decide +kernel
theorem dX2_digest_99 : decode cX2_digest 99 = .ok (.iconst 0, 1) := by decide +kernel
theorem dX2_digest_100 : decode cX2_digest 100 = .ok (.istore_n 3, 1) := by decide +kernel
theorem dX2_digest_101 : decode cX2_digest 101 = .ok (.iload_n 3, 1) := by decide +kernel
theorem dX2_digest_102 : decode cX2_digest 102 = .ok (.iconst 4, 1) := by decide +kernel
theorem dX2_digest_103 : decode cX2_digest 103 = .ok (.if_icmp .gt 26, 3) := by decide +kernel
theorem dX2_digest_106 : decode cX2_digest 106 = .ok (.ldc2_w 176, 3) := by decide +kernel
theorem dX2_digest_109 : decode cX2_digest 109 = .ok (.lload_n 1, 1) := by decide +kernel
theorem dX2_digest_110 : decode cX2_digest 110 = .ok (.lmul, 1) := by decide +kernel
theorem dX2_digest_111 : decode cX2_digest 111 = .ok (.aload_n 0, 1) := by decide +kernel
theorem dX2_digest_112 : decode cX2_digest 112 = .ok (.getfield 19, 3) := by decide +kernel
theorem dX2_digest_115 : decode cX2_digest 115 = .ok (.getfield 149, 3) := by decide +kernel
theorem dX2_digest_118 : decode cX2_digest 118 = .ok (.iload_n 3, 1) := by decide +kernel
theorem dX2_digest_119 : decode cX2_digest 119 = .ok (.iaload, 1) := by decide +kernel
theorem dX2_digest_120 : decode cX2_digest 120 = .ok (.i2l, 1) := by decide +kernel
theorem dX2_digest_121 : decode cX2_digest 121 = .ok (.ladd, 1) := by decide +kernel
theorem dX2_digest_122 : decode cX2_digest 122 = .ok (.lstore_n 1, 1) := by decide +kernel
theorem dX2_digest_123 : decode cX2_digest 123 = .ok (.iinc 3 1, 3) := by decide +kernel
theorem dX2_digest_126 : decode cX2_digest 126 = .ok (.goto (-25), 3) := by decide +kernel
theorem dX2_digest_129 : decode cX2_digest 129 = .ok (.ldc2_w 176, 3) := by decide +kernel
theorem dX2_digest_132 : decode cX2_digest 132 = .ok (.lload_n 1, 1) := by decide +kernel
theorem dX2_digest_133 : decode cX2_digest 133 = .ok (.lmul, 1) := by decide +kernel
theorem dX2_digest_134 : decode cX2_digest 134 = .ok (.aload_n 0, 1) := by decide +kernel
theorem dX2_digest_135 : decode cX2_digest 135 = .ok (.getfield 40, 3) := by decide +kernel
theorem dX2_digest_138 : decode cX2_digest 138 = .ok (.i2l, 1) := by decide +kernel
theorem dX2_digest_139 : decode cX2_digest 139 = .ok (.ladd, 1) := by decide +kernel
theorem dX2_digest_140 : decode cX2_digest 140 = .ok (.lreturn, 1) := by decide +kernel
theorem dX2_isWithin_0 : decode cX2_isWithin 0 = .ok (.iload_n 1, 1) := by decide +kernel
theorem dX2_isWithin_1 : decode cX2_isWithin 1 = .ok (.iload_n 0, 1) := by decide +kernel
theorem dX2_isWithin_2 : decode cX2_isWithin 2 = .ok (.if_icmp .gt 12, 3) := by decide +kernel
theorem dX2_isWithin_5 : decode cX2_isWithin 5 = .ok (.iload_n 0, 1) := by decide +kernel
theorem dX2_isWithin_6 : decode cX2_isWithin 6 = .ok (.iload_n 2, 1) := by decide +kernel
theorem dX2_isWithin_7 : decode cX2_isWithin 7 = .ok (.if_icmp .gt 7, 3) := by decide +kernel
theorem dX2_isWithin_10 : decode cX2_isWithin 10 = .ok (.iconst 1, 1) := by decide +kernel
theorem dX2_isWithin_11 : decode cX2_isWithin 11 = .ok (.goto 4, 3) := by decide +kernel
theorem dX2_isWithin_14 : decode cX2_isWithin 14 = .ok (.iconst 0, 1) := by decide +kernel
theorem dX2_isWithin_15 : decode cX2_isWithin 15 = .ok (.ireturn, 1) := by decide +kernel
set_option maxRecDepth 20000 in
theorem ggX2_isStream_X2_isWithin : GoodIn wsX2_isStream wsX2_isWithin := goodIn_r _ [4] (by decide +kernel) (by decide +kernel)
set_option maxRecDepth 20000 in
theorem gX2_isStream_X2_isWithin : GoodIn wsX2_isStream (va_wsS RX2 89 yX2_isWithin wsX2_isWithin) := goodIn_app (goodIn_of _ (by decide +kernel)) ggX2_isStream_X2_isWithin
theorem dX2_isStream_0 : decode cX2_isStream 0 = .ok (.iload_n 0, 1) := by decide +kernel
theorem dX2_isStream_1 : decode cX2_isStream 1 = .ok (.iconst 0, 1) := by decide +kernel
theorem dX2_isStream_2 : decode cX2_isStream 2 = .ok (.bipush 11, 2) := by decide +kernel
theorem dX2_isStream_4 : decode cX2_isStream 4 = .ok (.invokestatic 89, 3) := by decide +kernel
theorem dX2_isStream_7 : decode cX2_isStream 7 = .ok (.ireturn, 1) := by decide +kernel
set_option maxRecDepth 20000 in
theorem ggX2_isSource_X2_isWithin : GoodIn wsX2_isSource wsX2_isWithin := goodIn_r _ [4] (by decide +kernel) (by decide +kernel)
set_option maxRecDepth 20000 in
theorem gX2_isSource_X2_isWithin : GoodIn wsX2_isSource (va_wsS RX2 89 yX2_isWithin wsX2_isWithin) := goodIn_app (goodIn_of _ (by decide +kernel)) ggX2_isSource_X2_isWithin
theorem dX2_isSource_0 : decode cX2_isSource 0 = .ok (.iload_n 0, 1) := by decide +kernel
theorem dX2_isSource_1 : decode cX2_isSource 1 = .ok (.iconst 0, 1) := by decide +kernel
theorem dX2_isSource_2 : decode cX2_isSource 2 = .ok (.iconst 3, 1) := by decide +kernel
theorem dX2_isSource_3 : decode cX2_isSource 3 = .ok (.invokestatic 89, 3) := by decide +kernel
theorem dX2_isSource_6 : decode cX2_isSource 6 = .ok (.ireturn, 1) := by decide +kernel
set_option maxRecDepth 20000 in
theorem ggX2_isMachine_X2_isWithin : GoodIn wsX2_isMachine wsX2_isWithin := goodIn_r _ [4] (by decide +kernel) (by decide +kernel)
set_option maxRecDepth 20000 in
theorem gX2_isMachine_X2_isWithin : GoodIn wsX2_isMachine (va_wsS RX2 89 yX2_isWithin wsX2_isWithin) := goodIn_app (goodIn_of _ (by decide +kernel)) ggX2_isMachine_X2_isWithin
theorem dX2_isMachine_0 : decode cX2_isMachine 0 = .ok (.iload_n 0, 1) := by decide +kernel
theorem dX2_isMachine_1 : decode cX2_isMachine 1 = .ok (.iconst 2, 1) := by decide +kernel
theorem dX2_isMachine_2 : decode cX2_isMachine 2 = .ok (.bipush 8, 2) := by decide +kernel
theorem dX2_isMachine_4 : decode cX2_isMachine 4 = .ok (.invokestatic 89, 3) := by decide +kernel
theorem dX2_isMachine_7 : decode cX2_isMachine 7 = .ok (.ifCond .eq 13, 3) := by decide +kernel
theorem dX2_isMachine_10 : decode cX2_isMachine 10 = .ok (.iload_n 0, 1) := by decide +kernel
theorem dX2_isMachine_11 : decode cX2_isMachine 11 = .ok (.iconst 2, 1) := by decide +kernel
theorem dX2_isMachine_12 : decode cX2_isMachine 12 = .ok (.irem, 1) := by decide +kernel
theorem dX2_isMachine_13 : decode cX2_isMachine 13 = .ok (.ifCond .ne 7, 3) := by decide +kernel
theorem dX2_isMachine_16 : decode cX2_isMachine 16 = .ok (.iconst 1, 1) := by decide +kernel
theorem dX2_isMachine_17 : decode cX2_isMachine 17 = .ok (.goto 4, 3) := by decide +kernel
theorem dX2_isMachine_20 : decode cX2_isMachine 20 = .ok (.iconst 0, 1) := by decide +kernel
theorem dX2_isMachine_21 : decode cX2_isMachine 21 = .ok (.ireturn, 1) := by decide +kernel
set_option maxRecDepth 20000 in
theorem ggX2_isBit_X2_isWithin : GoodIn wsX2_isBit wsX2_isWithin := goodIn_r _ [5] (by decide +kernel) (by decide +kernel)
set_option maxRecDepth 20000 in
theorem gX2_isBit_X2_isWithin : GoodIn wsX2_isBit (va_wsS RX2 89 yX2_isWithin wsX2_isWithin) := goodIn_app (goodIn_of _ (by decide +kernel)) ggX2_isBit_X2_isWithin
theorem dX2_isBit_0 : decode cX2_isBit 0 = .ok (.iload_n 1, 1) := by decide +kernel
theorem dX2_isBit_1 : decode cX2_isBit 1 = .ok (.iconst 0, 1) := by decide +kernel
theorem dX2_isBit_2 : decode cX2_isBit 2 = .ok (.aload_n 0, 1) := by decide +kernel
theorem dX2_isBit_3 : decode cX2_isBit 3 = .ok (.getfield 10, 3) := by decide +kernel
theorem dX2_isBit_6 : decode cX2_isBit 6 = .ok (.getfield 49, 3) := by decide +kernel
theorem dX2_isBit_9 : decode cX2_isBit 9 = .ok (.iconst 1, 1) := by decide +kernel
theorem dX2_isBit_10 : decode cX2_isBit 10 = .ok (.isub, 1) := by decide +kernel
theorem dX2_isBit_11 : decode cX2_isBit 11 = .ok (.invokestatic 89, 3) := by decide +kernel
theorem dX2_isBit_14 : decode cX2_isBit 14 = .ok (.ireturn, 1) := by decide +kernel
set_option maxRecDepth 20000 in
theorem ggX2_isValue_X2_isWithin : GoodIn wsX2_isValue wsX2_isWithin := goodIn_r _ [5] (by decide +kernel) (by decide +kernel)
set_option maxRecDepth 20000 in
theorem gX2_isValue_X2_isWithin : GoodIn wsX2_isValue (va_wsS RX2 89 yX2_isWithin wsX2_isWithin) := goodIn_app (goodIn_of _ (by decide +kernel)) ggX2_isValue_X2_isWithin
theorem dX2_isValue_0 : decode cX2_isValue 0 = .ok (.iload_n 1, 1) := by decide +kernel
theorem dX2_isValue_1 : decode cX2_isValue 1 = .ok (.iconst 0, 1) := by decide +kernel
theorem dX2_isValue_2 : decode cX2_isValue 2 = .ok (.aload_n 0, 1) := by decide +kernel
theorem dX2_isValue_3 : decode cX2_isValue 3 = .ok (.getfield 10, 3) := by decide +kernel
theorem dX2_isValue_6 : decode cX2_isValue 6 = .ok (.getfield 49, 3) := by decide +kernel
theorem dX2_isValue_9 : decode cX2_isValue 9 = .ok (.invokestatic 89, 3) := by decide +kernel
theorem dX2_isValue_12 : decode cX2_isValue 12 = .ok (.ireturn, 1) := by decide +kernel
theorem dX2_bitOf_0 : decode cX2_bitOf 0 = .ok (.lload_n 0, 1) := by decide +kernel
theorem dX2_bitOf_1 : decode cX2_bitOf 1 = .ok (.iload_n 2, 1) := by decide +kernel
theorem dX2_bitOf_2 : decode cX2_bitOf 2 = .ok (.lushr, 1) := by decide +kernel
theorem dX2_bitOf_3 : decode cX2_bitOf 3 = .ok (.lconst 1, 1) := by decide +kernel
theorem dX2_bitOf_4 : decode cX2_bitOf 4 = .ok (.land, 1) := by decide +kernel
theorem dX2_bitOf_5 : decode cX2_bitOf 5 = .ok (.l2i, 1) := by decide +kernel
theorem dX2_bitOf_6 : decode cX2_bitOf 6 = .ok (.ireturn, 1) := by decide +kernel
theorem dX2_lowBits_0 : decode cX2_lowBits 0 = .ok (.iload_n 0, 1) := by decide +kernel
theorem dX2_lowBits_1 : decode cX2_lowBits 1 = .ok (.bipush 64, 2) := by decide +kernel
theorem dX2_lowBits_3 : decode cX2_lowBits 3 = .ok (.if_icmp .lt 9, 3) := by decide +kernel
theorem dX2_lowBits_6 : decode cX2_lowBits 6 = .ok (.ldc2_w 81, 3) := by decide +kernel
theorem dX2_lowBits_9 : decode cX2_lowBits 9 = .ok (.goto 8, 3) := by decide +kernel
theorem dX2_lowBits_12 : decode cX2_lowBits 12 = .ok (.lconst 1, 1) := by decide +kernel
theorem dX2_lowBits_13 : decode cX2_lowBits 13 = .ok (.iload_n 0, 1) := by decide +kernel
theorem dX2_lowBits_14 : decode cX2_lowBits 14 = .ok (.lshl, 1) := by decide +kernel
theorem dX2_lowBits_15 : decode cX2_lowBits 15 = .ok (.lconst 1, 1) := by decide +kernel
theorem dX2_lowBits_16 : decode cX2_lowBits 16 = .ok (.lsub, 1) := by decide +kernel
theorem dX2_lowBits_17 : decode cX2_lowBits 17 = .ok (.lreturn, 1) := by decide +kernel
set_option maxRecDepth 20000 in
theorem ggX2_setStream_X2_lowBits : GoodIn wsX2_setStream wsX2_lowBits := goodIn_r _ [6, 7] (by decide +kernel) (by decide +kernel)
set_option maxRecDepth 20000 in
theorem gX2_setStream_X2_lowBits : GoodIn wsX2_setStream (va_wsS RX2 101 yX2_lowBits wsX2_lowBits) := goodIn_app (goodIn_of _ (by decide +kernel)) ggX2_setStream_X2_lowBits
set_option maxRecDepth 20000 in
theorem ggX2_setStream_J13_bitCount_95d88 : GoodIn wsX2_setStream wsJ13_bitCount_95d88 := goodIn_r _ [11, 12, 13, 14] (by decide +kernel) (by decide +kernel)
set_option maxRecDepth 20000 in
theorem gX2_setStream_J13_bitCount_95d88 : GoodIn wsX2_setStream (va_wsS RX2 83 yJ13_bitCount_95d88 wsJ13_bitCount_95d88) := goodIn_app (goodIn_of _ (by decide +kernel)) ggX2_setStream_J13_bitCount_95d88
theorem dX2_setStream_0 : decode cX2_setStream 0 = .ok (.aload_n 0, 1) := by decide +kernel
theorem dX2_setStream_1 : decode cX2_setStream 1 = .ok (.getfield 23, 3) := by decide +kernel
theorem dX2_setStream_4 : decode cX2_setStream 4 = .ok (.iload_n 1, 1) := by decide +kernel
theorem dX2_setStream_5 : decode cX2_setStream 5 = .ok (.lload_n 2, 1) := by decide +kernel
theorem dX2_setStream_6 : decode cX2_setStream 6 = .ok (.aload_n 0, 1) := by decide +kernel
theorem dX2_setStream_7 : decode cX2_setStream 7 = .ok (.getfield 10, 3) := by decide +kernel
theorem dX2_setStream_10 : decode cX2_setStream 10 = .ok (.getfield 49, 3) := by decide +kernel
theorem dX2_setStream_13 : decode cX2_setStream 13 = .ok (.invokestatic 101, 3) := by decide +kernel
theorem dX2_setStream_16 : decode cX2_setStream 16 = .ok (.land, 1) := by decide +kernel
theorem dX2_setStream_17 : decode cX2_setStream 17 = .ok (.lastore, 1) := by decide +kernel
theorem dX2_setStream_18 : decode cX2_setStream 18 = .ok (.aload_n 0, 1) := by decide +kernel
theorem dX2_setStream_19 : decode cX2_setStream 19 = .ok (.getfield 23, 3) := by decide +kernel
theorem dX2_setStream_22 : decode cX2_setStream 22 = .ok (.iload_n 1, 1) := by decide +kernel
theorem dX2_setStream_23 : decode cX2_setStream 23 = .ok (.laload, 1) := by decide +kernel
theorem dX2_setStream_24 : decode cX2_setStream 24 = .ok (.invokestatic 83, 3) := by decide +kernel
theorem dX2_setStream_27 : decode cX2_setStream 27 = .ok (.ireturn, 1) := by decide +kernel
theorem dX2_gated_0 : decode cX2_gated 0 = .ok (.iload_n 0, 1) := by decide +kernel
theorem dX2_gated_1 : decode cX2_gated 1 = .ok (.tableswitch 81 0 5 #[39, 43, 47, 51, 59, 67], 39) := by decide +kernel
theorem dX2_gated_40 : decode cX2_gated 40 = .ok (.lload_n 1, 1) := by decide +kernel
theorem dX2_gated_41 : decode cX2_gated 41 = .ok (.lload_n 3, 1) := by decide +kernel
theorem dX2_gated_42 : decode cX2_gated 42 = .ok (.land, 1) := by decide +kernel
theorem dX2_gated_43 : decode cX2_gated 43 = .ok (.lreturn, 1) := by decide +kernel
theorem dX2_gated_44 : decode cX2_gated 44 = .ok (.lload_n 1, 1) := by decide +kernel
theorem dX2_gated_45 : decode cX2_gated 45 = .ok (.lload_n 3, 1) := by decide +kernel
theorem dX2_gated_46 : decode cX2_gated 46 = .ok (.lor, 1) := by decide +kernel
theorem dX2_gated_47 : decode cX2_gated 47 = .ok (.lreturn, 1) := by decide +kernel
theorem dX2_gated_48 : decode cX2_gated 48 = .ok (.lload_n 1, 1) := by decide +kernel
theorem dX2_gated_49 : decode cX2_gated 49 = .ok (.lload_n 3, 1) := by decide +kernel
theorem dX2_gated_50 : decode cX2_gated 50 = .ok (.lxor, 1) := by decide +kernel
theorem dX2_gated_51 : decode cX2_gated 51 = .ok (.lreturn, 1) := by decide +kernel
theorem dX2_gated_52 : decode cX2_gated 52 = .ok (.lload_n 1, 1) := by decide +kernel
theorem dX2_gated_53 : decode cX2_gated 53 = .ok (.lload_n 3, 1) := by decide +kernel
theorem dX2_gated_54 : decode cX2_gated 54 = .ok (.lxor, 1) := by decide +kernel
theorem dX2_gated_55 : decode cX2_gated 55 = .ok (.ldc2_w 81, 3) := by decide +kernel
theorem dX2_gated_58 : decode cX2_gated 58 = .ok (.lxor, 1) := by decide +kernel
theorem dX2_gated_59 : decode cX2_gated 59 = .ok (.lreturn, 1) := by decide +kernel
theorem dX2_gated_60 : decode cX2_gated 60 = .ok (.lload_n 1, 1) := by decide +kernel
theorem dX2_gated_61 : decode cX2_gated 61 = .ok (.lload_n 3, 1) := by decide +kernel
theorem dX2_gated_62 : decode cX2_gated 62 = .ok (.ldc2_w 81, 3) := by decide +kernel
theorem dX2_gated_65 : decode cX2_gated 65 = .ok (.lxor, 1) := by decide +kernel
theorem dX2_gated_66 : decode cX2_gated 66 = .ok (.land, 1) := by decide +kernel
theorem dX2_gated_67 : decode cX2_gated 67 = .ok (.lreturn, 1) := by decide +kernel
theorem dX2_gated_68 : decode cX2_gated 68 = .ok (.lload_n 3, 1) := by decide +kernel
theorem dX2_gated_69 : decode cX2_gated 69 = .ok (.lload 5, 2) := by decide +kernel
theorem dX2_gated_71 : decode cX2_gated 71 = .ok (.land, 1) := by decide +kernel
theorem dX2_gated_72 : decode cX2_gated 72 = .ok (.lload_n 1, 1) := by decide +kernel
theorem dX2_gated_73 : decode cX2_gated 73 = .ok (.lload 5, 2) := by decide +kernel
theorem dX2_gated_75 : decode cX2_gated 75 = .ok (.ldc2_w 81, 3) := by decide +kernel
theorem dX2_gated_78 : decode cX2_gated 78 = .ok (.lxor, 1) := by decide +kernel
theorem dX2_gated_79 : decode cX2_gated 79 = .ok (.land, 1) := by decide +kernel
theorem dX2_gated_80 : decode cX2_gated 80 = .ok (.lor, 1) := by decide +kernel
theorem dX2_gated_81 : decode cX2_gated 81 = .ok (.lreturn, 1) := by decide +kernel
theorem dX2_gated_82 : decode cX2_gated 82 = .ok (.lload_n 1, 1) := by decide +kernel
theorem dX2_gated_83 : decode cX2_gated 83 = .ok (.lload_n 3, 1) := by decide +kernel
theorem dX2_gated_84 : decode cX2_gated 84 = .ok (.land, 1) := by decide +kernel
theorem dX2_gated_85 : decode cX2_gated 85 = .ok (.lload_n 1, 1) := by decide +kernel
theorem dX2_gated_86 : decode cX2_gated 86 = .ok (.lload 5, 2) := by decide +kernel
theorem dX2_gated_88 : decode cX2_gated 88 = .ok (.land, 1) := by decide +kernel
theorem dX2_gated_89 : decode cX2_gated 89 = .ok (.lor, 1) := by decide +kernel
theorem dX2_gated_90 : decode cX2_gated 90 = .ok (.lload_n 3, 1) := by decide +kernel
theorem dX2_gated_91 : decode cX2_gated 91 = .ok (.lload 5, 2) := by decide +kernel
theorem dX2_gated_93 : decode cX2_gated 93 = .ok (.land, 1) := by decide +kernel
theorem dX2_gated_94 : decode cX2_gated 94 = .ok (.lor, 1) := by decide +kernel
theorem dX2_gated_95 : decode cX2_gated 95 = .ok (.lreturn, 1) := by decide +kernel
set_option maxRecDepth 20000 in
theorem ggX2_onesOfSort_X2_lowBits : GoodIn wsX2_onesOfSort wsX2_lowBits := goodIn_r _ [6, 1] (by decide +kernel) (by decide +kernel)
set_option maxRecDepth 20000 in
theorem gX2_onesOfSort_X2_lowBits : GoodIn wsX2_onesOfSort (va_wsS RX2 101 yX2_lowBits wsX2_lowBits) := goodIn_app (goodIn_of _ (by decide +kernel)) ggX2_onesOfSort_X2_lowBits
set_option maxRecDepth 20000 in
theorem ggX2_onesOfSort_J13_bitCount_95d88 : GoodIn wsX2_onesOfSort wsJ13_bitCount_95d88 := goodIn_r _ [10, 11, 12, 13] (by decide +kernel) (by decide +kernel)
set_option maxRecDepth 20000 in
theorem gX2_onesOfSort_J13_bitCount_95d88 : GoodIn wsX2_onesOfSort (va_wsS RX2 83 yJ13_bitCount_95d88 wsJ13_bitCount_95d88) := goodIn_app (goodIn_of _ (by decide +kernel)) ggX2_onesOfSort_J13_bitCount_95d88
theorem dX2_onesOfSort_0 : decode cX2_onesOfSort 0 = .ok (.iload 5, 2) := by decide +kernel
theorem dX2_onesOfSort_2 : decode cX2_onesOfSort 2 = .ok (.ifCond .eq 9, 3) := by decide +kernel
theorem dX2_onesOfSort_5 : decode cX2_onesOfSort 5 = .ok (.iload 5, 2) := by decide +kernel
theorem dX2_onesOfSort_7 : decode cX2_onesOfSort 7 = .ok (.iconst 1, 1) := by decide +kernel
theorem dX2_onesOfSort_8 : decode cX2_onesOfSort 8 = .ok (.if_icmp .ne 7, 3) := by decide +kernel
theorem dX2_onesOfSort_11 : decode cX2_onesOfSort 11 = .ok (.lload_n 1, 1) := by decide +kernel
theorem dX2_onesOfSort_12 : decode cX2_onesOfSort 12 = .ok (.goto 8, 3) := by decide +kernel
theorem dX2_onesOfSort_15 : decode cX2_onesOfSort 15 = .ok (.lload_n 1, 1) := by decide +kernel
theorem dX2_onesOfSort_16 : decode cX2_onesOfSort 16 = .ok (.ldc2_w 81, 3) := by decide +kernel
theorem dX2_onesOfSort_19 : decode cX2_onesOfSort 19 = .ok (.lxor, 1) := by decide +kernel
theorem dX2_onesOfSort_20 : decode cX2_onesOfSort 20 = .ok (.lstore 6, 2) := by decide +kernel
theorem dX2_onesOfSort_22 : decode cX2_onesOfSort 22 = .ok (.iload 5, 2) := by decide +kernel
theorem dX2_onesOfSort_24 : decode cX2_onesOfSort 24 = .ok (.ifCond .eq 9, 3) := by decide +kernel
theorem dX2_onesOfSort_27 : decode cX2_onesOfSort 27 = .ok (.iload 5, 2) := by decide +kernel
theorem dX2_onesOfSort_29 : decode cX2_onesOfSort 29 = .ok (.iconst 2, 1) := by decide +kernel
theorem dX2_onesOfSort_30 : decode cX2_onesOfSort 30 = .ok (.if_icmp .ne 7, 3) := by decide +kernel
theorem dX2_onesOfSort_33 : decode cX2_onesOfSort 33 = .ok (.lload_n 3, 1) := by decide +kernel
theorem dX2_onesOfSort_34 : decode cX2_onesOfSort 34 = .ok (.goto 8, 3) := by decide +kernel
theorem dX2_onesOfSort_37 : decode cX2_onesOfSort 37 = .ok (.lload_n 3, 1) := by decide +kernel
theorem dX2_onesOfSort_38 : decode cX2_onesOfSort 38 = .ok (.ldc2_w 81, 3) := by decide +kernel
theorem dX2_onesOfSort_41 : decode cX2_onesOfSort 41 = .ok (.lxor, 1) := by decide +kernel
theorem dX2_onesOfSort_42 : decode cX2_onesOfSort 42 = .ok (.lstore 8, 2) := by decide +kernel
theorem dX2_onesOfSort_44 : decode cX2_onesOfSort 44 = .ok (.lload 6, 2) := by decide +kernel
theorem dX2_onesOfSort_46 : decode cX2_onesOfSort 46 = .ok (.lload 8, 2) := by decide +kernel
theorem dX2_onesOfSort_48 : decode cX2_onesOfSort 48 = .ok (.land, 1) := by decide +kernel
theorem dX2_onesOfSort_49 : decode cX2_onesOfSort 49 = .ok (.aload_n 0, 1) := by decide +kernel
theorem dX2_onesOfSort_50 : decode cX2_onesOfSort 50 = .ok (.getfield 10, 3) := by decide +kernel
theorem dX2_onesOfSort_53 : decode cX2_onesOfSort 53 = .ok (.getfield 49, 3) := by decide +kernel
theorem dX2_onesOfSort_56 : decode cX2_onesOfSort 56 = .ok (.invokestatic 101, 3) := by decide +kernel
theorem dX2_onesOfSort_59 : decode cX2_onesOfSort 59 = .ok (.land, 1) := by decide +kernel
theorem dX2_onesOfSort_60 : decode cX2_onesOfSort 60 = .ok (.invokestatic 83, 3) := by decide +kernel
theorem dX2_onesOfSort_63 : decode cX2_onesOfSort 63 = .ok (.ireturn, 1) := by decide +kernel
set_option maxRecDepth 20000 in
theorem ggX2_greatestMiss_X2_lowBits : GoodIn wsX2_greatestMiss wsX2_lowBits := goodIn_r _ [13, 14] (by decide +kernel) (by decide +kernel)
set_option maxRecDepth 20000 in
theorem gX2_greatestMiss_X2_lowBits : GoodIn wsX2_greatestMiss (va_wsS RX2 101 yX2_lowBits wsX2_lowBits) := goodIn_app (goodIn_of _ (by decide +kernel)) ggX2_greatestMiss_X2_lowBits
set_option maxRecDepth 20000 in
theorem ggX2_greatestMiss_X2_gated : GoodIn wsX2_greatestMiss wsX2_gated := goodIn_r _ [17, 14] (by decide +kernel) (by decide +kernel)
set_option maxRecDepth 20000 in
theorem gX2_greatestMiss_X2_gated : GoodIn wsX2_greatestMiss (va_wsS RX2 93 yX2_gated wsX2_gated) := goodIn_app (goodIn_of _ (by decide +kernel)) ggX2_greatestMiss_X2_gated
set_option maxRecDepth 20000 in
theorem ggX2_greatestMiss_J13_bitCount_95d88 : GoodIn wsX2_greatestMiss wsJ13_bitCount_95d88 := goodIn_r _ [21, 22, 23, 24] (by decide +kernel) (by decide +kernel)
set_option maxRecDepth 20000 in
theorem gX2_greatestMiss_J13_bitCount_95d88 : GoodIn wsX2_greatestMiss (va_wsS RX2 83 yJ13_bitCount_95d88 wsJ13_bitCount_95d88) := goodIn_app (goodIn_of _ (by decide +kernel)) ggX2_greatestMiss_J13_bitCount_95d88
set_option maxRecDepth 20000 in
theorem ggX2_greatestMiss_X2_dueOnes : GoodIn wsX2_greatestMiss wsX2_dueOnes := goodIn_r _ [28, 1, 29, 30, 31, 32, 33, 34, 35, 36, 37, 38, 39, 40] (by decide +kernel) (by decide +kernel)
set_option maxRecDepth 20000 in
theorem gX2_greatestMiss_X2_dueOnes : GoodIn wsX2_greatestMiss (wsV RX2 178 RX2 yX2_dueOnes wsX2_dueOnes) := goodIn_app (goodIn_of _ (by decide +kernel)) ggX2_greatestMiss_X2_dueOnes
theorem dX2_greatestMiss_0 : decode cX2_greatestMiss 0 = .ok (.aload_n 0, 1) := by decide +kernel
theorem dX2_greatestMiss_1 : decode cX2_greatestMiss 1 = .ok (.getfield 10, 3) := by decide +kernel
theorem dX2_greatestMiss_4 : decode cX2_greatestMiss 4 = .ok (.getfield 49, 3) := by decide +kernel
theorem dX2_greatestMiss_7 : decode cX2_greatestMiss 7 = .ok (.istore_n 2, 1) := by decide +kernel
theorem dX2_greatestMiss_8 : decode cX2_greatestMiss 8 = .ok (.iload_n 2, 1) := by decide +kernel
theorem dX2_greatestMiss_9 : decode cX2_greatestMiss 9 = .ok (.invokestatic 101, 3) := by decide +kernel
theorem dX2_greatestMiss_12 : decode cX2_greatestMiss 12 = .ok (.lstore_n 3, 1) := by decide +kernel
theorem dX2_greatestMiss_13 : decode cX2_greatestMiss 13 = .ok (.iconst (-1), 1) := by decide +kernel
theorem dX2_greatestMiss_14 : decode cX2_greatestMiss 14 = .ok (.istore 5, 2) := by decide +kernel
theorem dX2_greatestMiss_16 : decode cX2_greatestMiss 16 = .ok (.iconst 0, 1) := by decide +kernel
theorem dX2_greatestMiss_17 : decode cX2_greatestMiss 17 = .ok (.istore 6, 2) := by decide +kernel
theorem dX2_greatestMiss_19 : decode cX2_greatestMiss 19 = .ok (.iload 6, 2) := by decide +kernel
theorem dX2_greatestMiss_21 : decode cX2_greatestMiss 21 = .ok (.iload_n 2, 1) := by decide +kernel
theorem dX2_greatestMiss_22 : decode cX2_greatestMiss 22 = .ok (.if_icmp .gt 92, 3) := by decide +kernel
theorem dX2_greatestMiss_25 : decode cX2_greatestMiss 25 = .ok (.iconst 0, 1) := by decide +kernel
end
section
theorem dX2_greatestMiss_26 : decode cX2_greatestMiss 26 = .ok (.istore 7, 2) := by decide +kernel
theorem dX2_greatestMiss_28 : decode cX2_greatestMiss 28 = .ok (.iload 7, 2) := by decide +kernel
theorem dX2_greatestMiss_30 : decode cX2_greatestMiss 30 = .ok (.iload_n 2, 1) := by decide +kernel
theorem dX2_greatestMiss_31 : decode cX2_greatestMiss 31 = .ok (.if_icmp .gt 77, 3) := by decide +kernel
theorem dX2_greatestMiss_34 : decode cX2_greatestMiss 34 = .ok (.iload_n 1, 1) := by decide +kernel
theorem dX2_greatestMiss_35 : decode cX2_greatestMiss 35 = .ok (.aload_n 0, 1) := by decide +kernel
theorem dX2_greatestMiss_36 : decode cX2_greatestMiss 36 = .ok (.getfield 27, 3) := by decide +kernel
theorem dX2_greatestMiss_39 : decode cX2_greatestMiss 39 = .ok (.iload 6, 2) := by decide +kernel
theorem dX2_greatestMiss_41 : decode cX2_greatestMiss 41 = .ok (.laload, 1) := by decide +kernel
theorem dX2_greatestMiss_42 : decode cX2_greatestMiss 42 = .ok (.aload_n 0, 1) := by decide +kernel
theorem dX2_greatestMiss_43 : decode cX2_greatestMiss 43 = .ok (.getfield 30, 3) := by decide +kernel
theorem dX2_greatestMiss_46 : decode cX2_greatestMiss 46 = .ok (.iload 7, 2) := by decide +kernel
theorem dX2_greatestMiss_48 : decode cX2_greatestMiss 48 = .ok (.laload, 1) := by decide +kernel
theorem dX2_greatestMiss_49 : decode cX2_greatestMiss 49 = .ok (.lconst 0, 1) := by decide +kernel
theorem dX2_greatestMiss_50 : decode cX2_greatestMiss 50 = .ok (.invokestatic 93, 3) := by decide +kernel
theorem dX2_greatestMiss_53 : decode cX2_greatestMiss 53 = .ok (.lload_n 3, 1) := by decide +kernel
theorem dX2_greatestMiss_54 : decode cX2_greatestMiss 54 = .ok (.land, 1) := by decide +kernel
theorem dX2_greatestMiss_55 : decode cX2_greatestMiss 55 = .ok (.lstore 8, 2) := by decide +kernel
theorem dX2_greatestMiss_57 : decode cX2_greatestMiss 57 = .ok (.lload 8, 2) := by decide +kernel
theorem dX2_greatestMiss_59 : decode cX2_greatestMiss 59 = .ok (.invokestatic 83, 3) := by decide +kernel
theorem dX2_greatestMiss_62 : decode cX2_greatestMiss 62 = .ok (.iload_n 2, 1) := by decide +kernel
theorem dX2_greatestMiss_63 : decode cX2_greatestMiss 63 = .ok (.imul, 1) := by decide +kernel
theorem dX2_greatestMiss_64 : decode cX2_greatestMiss 64 = .ok (.aload_n 0, 1) := by decide +kernel
theorem dX2_greatestMiss_65 : decode cX2_greatestMiss 65 = .ok (.iload_n 1, 1) := by decide +kernel
theorem dX2_greatestMiss_66 : decode cX2_greatestMiss 66 = .ok (.iload 6, 2) := by decide +kernel
theorem dX2_greatestMiss_68 : decode cX2_greatestMiss 68 = .ok (.iload 7, 2) := by decide +kernel
theorem dX2_greatestMiss_70 : decode cX2_greatestMiss 70 = .ok (.invokevirtual 178, 3) := by decide +kernel
theorem dX2_greatestMiss_73 : decode cX2_greatestMiss 73 = .ok (.isub, 1) := by decide +kernel
theorem dX2_greatestMiss_74 : decode cX2_greatestMiss 74 = .ok (.invokestatic 182, 3) := by decide +kernel
theorem dX2_greatestMiss_77 : decode cX2_greatestMiss 77 = .ok (.istore 10, 2) := by decide +kernel
theorem dX2_greatestMiss_79 : decode cX2_greatestMiss 79 = .ok (.iload 10, 2) := by decide +kernel
theorem dX2_greatestMiss_81 : decode cX2_greatestMiss 81 = .ok (.iload 5, 2) := by decide +kernel
theorem dX2_greatestMiss_83 : decode cX2_greatestMiss 83 = .ok (.if_icmp .le 19, 3) := by decide +kernel
theorem dX2_greatestMiss_86 : decode cX2_greatestMiss 86 = .ok (.iload 10, 2) := by decide +kernel
theorem dX2_greatestMiss_88 : decode cX2_greatestMiss 88 = .ok (.istore 5, 2) := by decide +kernel
theorem dX2_greatestMiss_90 : decode cX2_greatestMiss 90 = .ok (.aload_n 0, 1) := by decide +kernel
theorem dX2_greatestMiss_91 : decode cX2_greatestMiss 91 = .ok (.iload 6, 2) := by decide +kernel
theorem dX2_greatestMiss_93 : decode cX2_greatestMiss 93 = .ok (.putfield 43, 3) := by decide +kernel
theorem dX2_greatestMiss_96 : decode cX2_greatestMiss 96 = .ok (.aload_n 0, 1) := by decide +kernel
theorem dX2_greatestMiss_97 : decode cX2_greatestMiss 97 = .ok (.iload 7, 2) := by decide +kernel
theorem dX2_greatestMiss_99 : decode cX2_greatestMiss 99 = .ok (.putfield 46, 3) := by decide +kernel
theorem dX2_greatestMiss_102 : decode cX2_greatestMiss 102 = .ok (.iinc 7 1, 3) := by decide +kernel
theorem dX2_greatestMiss_105 : decode cX2_greatestMiss 105 = .ok (.goto (-77), 3) := by decide +kernel
theorem dX2_greatestMiss_108 : decode cX2_greatestMiss 108 = .ok (.iinc 6 1, 3) := by decide +kernel
theorem dX2_greatestMiss_111 : decode cX2_greatestMiss 111 = .ok (.goto (-92), 3) := by decide +kernel
theorem dX2_greatestMiss_114 : decode cX2_greatestMiss 114 = .ok (.iload 5, 2) := by decide +kernel
theorem dX2_greatestMiss_116 : decode cX2_greatestMiss 116 = .ok (.ireturn, 1) := by decide +kernel
theorem dX2_dueOnes_0 : decode cX2_dueOnes 0 = .ok (.aload_n 0, 1) := by decide +kernel
theorem dX2_dueOnes_1 : decode cX2_dueOnes 1 = .ok (.getfield 10, 3) := by decide +kernel
theorem dX2_dueOnes_4 : decode cX2_dueOnes 4 = .ok (.getfield 49, 3) := by decide +kernel
theorem dX2_dueOnes_7 : decode cX2_dueOnes 7 = .ok (.istore 4, 2) := by decide +kernel
theorem dX2_dueOnes_9 : decode cX2_dueOnes 9 = .ok (.iload_n 1, 1) := by decide +kernel
theorem dX2_dueOnes_10 : decode cX2_dueOnes 10 = .ok (.tableswitch 54 0 2 #[26, 30, 41], 26) := by decide +kernel
theorem dX2_dueOnes_36 : decode cX2_dueOnes 36 = .ok (.iload_n 2, 1) := by decide +kernel
theorem dX2_dueOnes_37 : decode cX2_dueOnes 37 = .ok (.iload_n 3, 1) := by decide +kernel
theorem dX2_dueOnes_38 : decode cX2_dueOnes 38 = .ok (.imul, 1) := by decide +kernel
theorem dX2_dueOnes_39 : decode cX2_dueOnes 39 = .ok (.ireturn, 1) := by decide +kernel
theorem dX2_dueOnes_40 : decode cX2_dueOnes 40 = .ok (.iload 4, 2) := by decide +kernel
theorem dX2_dueOnes_42 : decode cX2_dueOnes 42 = .ok (.iload_n 2, 1) := by decide +kernel
theorem dX2_dueOnes_43 : decode cX2_dueOnes 43 = .ok (.iload_n 3, 1) := by decide +kernel
theorem dX2_dueOnes_44 : decode cX2_dueOnes 44 = .ok (.iadd, 1) := by decide +kernel
theorem dX2_dueOnes_45 : decode cX2_dueOnes 45 = .ok (.imul, 1) := by decide +kernel
theorem dX2_dueOnes_46 : decode cX2_dueOnes 46 = .ok (.iload_n 2, 1) := by decide +kernel
theorem dX2_dueOnes_47 : decode cX2_dueOnes 47 = .ok (.iload_n 3, 1) := by decide +kernel
theorem dX2_dueOnes_48 : decode cX2_dueOnes 48 = .ok (.imul, 1) := by decide +kernel
theorem dX2_dueOnes_49 : decode cX2_dueOnes 49 = .ok (.isub, 1) := by decide +kernel
theorem dX2_dueOnes_50 : decode cX2_dueOnes 50 = .ok (.ireturn, 1) := by decide +kernel
theorem dX2_dueOnes_51 : decode cX2_dueOnes 51 = .ok (.iload 4, 2) := by decide +kernel
theorem dX2_dueOnes_53 : decode cX2_dueOnes 53 = .ok (.iload_n 2, 1) := by decide +kernel
theorem dX2_dueOnes_54 : decode cX2_dueOnes 54 = .ok (.iload_n 3, 1) := by decide +kernel
theorem dX2_dueOnes_55 : decode cX2_dueOnes 55 = .ok (.iadd, 1) := by decide +kernel
theorem dX2_dueOnes_56 : decode cX2_dueOnes 56 = .ok (.imul, 1) := by decide +kernel
theorem dX2_dueOnes_57 : decode cX2_dueOnes 57 = .ok (.iconst 2, 1) := by decide +kernel
theorem dX2_dueOnes_58 : decode cX2_dueOnes 58 = .ok (.iload_n 2, 1) := by decide +kernel
theorem dX2_dueOnes_59 : decode cX2_dueOnes 59 = .ok (.imul, 1) := by decide +kernel
theorem dX2_dueOnes_60 : decode cX2_dueOnes 60 = .ok (.iload_n 3, 1) := by decide +kernel
theorem dX2_dueOnes_61 : decode cX2_dueOnes 61 = .ok (.imul, 1) := by decide +kernel
theorem dX2_dueOnes_62 : decode cX2_dueOnes 62 = .ok (.isub, 1) := by decide +kernel
theorem dX2_dueOnes_63 : decode cX2_dueOnes 63 = .ok (.ireturn, 1) := by decide +kernel
theorem dX2_dueOnes_64 : decode cX2_dueOnes 64 = .ok (.iload 4, 2) := by decide +kernel
theorem dX2_dueOnes_66 : decode cX2_dueOnes 66 = .ok (.iload 4, 2) := by decide +kernel
theorem dX2_dueOnes_68 : decode cX2_dueOnes 68 = .ok (.imul, 1) := by decide +kernel
theorem dX2_dueOnes_69 : decode cX2_dueOnes 69 = .ok (.iload 4, 2) := by decide +kernel
theorem dX2_dueOnes_71 : decode cX2_dueOnes 71 = .ok (.iload_n 2, 1) := by decide +kernel
theorem dX2_dueOnes_72 : decode cX2_dueOnes 72 = .ok (.iload_n 3, 1) := by decide +kernel
theorem dX2_dueOnes_73 : decode cX2_dueOnes 73 = .ok (.iadd, 1) := by decide +kernel
theorem dX2_dueOnes_74 : decode cX2_dueOnes 74 = .ok (.imul, 1) := by decide +kernel
theorem dX2_dueOnes_75 : decode cX2_dueOnes 75 = .ok (.iconst 2, 1) := by decide +kernel
theorem dX2_dueOnes_76 : decode cX2_dueOnes 76 = .ok (.iload_n 2, 1) := by decide +kernel
theorem dX2_dueOnes_77 : decode cX2_dueOnes 77 = .ok (.imul, 1) := by decide +kernel
theorem dX2_dueOnes_78 : decode cX2_dueOnes 78 = .ok (.iload_n 3, 1) := by decide +kernel
theorem dX2_dueOnes_79 : decode cX2_dueOnes 79 = .ok (.imul, 1) := by decide +kernel
theorem dX2_dueOnes_80 : decode cX2_dueOnes 80 = .ok (.isub, 1) := by decide +kernel
theorem dX2_dueOnes_81 : decode cX2_dueOnes 81 = .ok (.isub, 1) := by decide +kernel
theorem dX2_dueOnes_82 : decode cX2_dueOnes 82 = .ok (.ireturn, 1) := by decide +kernel
theorem dX2_isUpper_0 : decode cX2_isUpper 0 = .ok (.iload_n 0, 1) := by decide +kernel
theorem dX2_isUpper_1 : decode cX2_isUpper 1 = .ok (.iload_n 1, 1) := by decide +kernel
theorem dX2_isUpper_2 : decode cX2_isUpper 2 = .ok (.iconst 2, 1) := by decide +kernel
theorem dX2_isUpper_3 : decode cX2_isUpper 3 = .ok (.idiv, 1) := by decide +kernel
theorem dX2_isUpper_4 : decode cX2_isUpper 4 = .ok (.if_icmp .lt 7, 3) := by decide +kernel
theorem dX2_isUpper_7 : decode cX2_isUpper 7 = .ok (.iconst 1, 1) := by decide +kernel
theorem dX2_isUpper_8 : decode cX2_isUpper 8 = .ok (.goto 4, 3) := by decide +kernel
theorem dX2_isUpper_11 : decode cX2_isUpper 11 = .ok (.iconst 0, 1) := by decide +kernel
theorem dX2_isUpper_12 : decode cX2_isUpper 12 = .ok (.ireturn, 1) := by decide +kernel
set_option maxRecDepth 20000 in
theorem ggX2_ranThrough_X2_bitOf : GoodIn wsX2_ranThrough wsX2_bitOf := goodIn_r _ [13] (by decide +kernel) (by decide +kernel)
set_option maxRecDepth 20000 in
theorem gX2_ranThrough_X2_bitOf : GoodIn wsX2_ranThrough (va_wsS RX2 77 yX2_bitOf wsX2_bitOf) := goodIn_app (goodIn_of _ (by decide +kernel)) ggX2_ranThrough_X2_bitOf
set_option maxRecDepth 20000 in
theorem ggX2_ranThrough_X2_isUpper : GoodIn wsX2_ranThrough wsX2_isUpper := goodIn_r _ [16] (by decide +kernel) (by decide +kernel)
set_option maxRecDepth 20000 in
theorem gX2_ranThrough_X2_isUpper : GoodIn wsX2_ranThrough (va_wsS RX2 134 yX2_isUpper wsX2_isUpper) := goodIn_app (goodIn_of _ (by decide +kernel)) ggX2_ranThrough_X2_isUpper
theorem dX2_ranThrough_0 : decode cX2_ranThrough 0 = .ok (.iload_n 3, 1) := by decide +kernel
theorem dX2_ranThrough_1 : decode cX2_ranThrough 1 = .ok (.iconst 2, 1) := by decide +kernel
theorem dX2_ranThrough_2 : decode cX2_ranThrough 2 = .ok (.idiv, 1) := by decide +kernel
theorem dX2_ranThrough_3 : decode cX2_ranThrough 3 = .ok (.iconst 1, 1) := by decide +kernel
theorem dX2_ranThrough_4 : decode cX2_ranThrough 4 = .ok (.isub, 1) := by decide +kernel
theorem dX2_ranThrough_5 : decode cX2_ranThrough 5 = .ok (.istore 4, 2) := by decide +kernel
theorem dX2_ranThrough_7 : decode cX2_ranThrough 7 = .ok (.lconst 0, 1) := by decide +kernel
theorem dX2_ranThrough_8 : decode cX2_ranThrough 8 = .ok (.lstore 5, 2) := by decide +kernel
theorem dX2_ranThrough_10 : decode cX2_ranThrough 10 = .ok (.iconst 0, 1) := by decide +kernel
theorem dX2_ranThrough_11 : decode cX2_ranThrough 11 = .ok (.istore 7, 2) := by decide +kernel
theorem dX2_ranThrough_13 : decode cX2_ranThrough 13 = .ok (.iload 7, 2) := by decide +kernel
theorem dX2_ranThrough_15 : decode cX2_ranThrough 15 = .ok (.aload_n 0, 1) := by decide +kernel
theorem dX2_ranThrough_16 : decode cX2_ranThrough 16 = .ok (.getfield 10, 3) := by decide +kernel
theorem dX2_ranThrough_19 : decode cX2_ranThrough 19 = .ok (.getfield 49, 3) := by decide +kernel
theorem dX2_ranThrough_22 : decode cX2_ranThrough 22 = .ok (.if_icmp .ge 60, 3) := by decide +kernel
theorem dX2_ranThrough_25 : decode cX2_ranThrough 25 = .ok (.lload_n 1, 1) := by decide +kernel
theorem dX2_ranThrough_26 : decode cX2_ranThrough 26 = .ok (.iload 7, 2) := by decide +kernel
theorem dX2_ranThrough_28 : decode cX2_ranThrough 28 = .ok (.invokestatic 77, 3) := by decide +kernel
theorem dX2_ranThrough_31 : decode cX2_ranThrough 31 = .ok (.iconst 1, 1) := by decide +kernel
theorem dX2_ranThrough_32 : decode cX2_ranThrough 32 = .ok (.if_icmp .ne 16, 3) := by decide +kernel
theorem dX2_ranThrough_35 : decode cX2_ranThrough 35 = .ok (.iload 4, 2) := by decide +kernel
theorem dX2_ranThrough_37 : decode cX2_ranThrough 37 = .ok (.iconst 1, 1) := by decide +kernel
theorem dX2_ranThrough_38 : decode cX2_ranThrough 38 = .ok (.iadd, 1) := by decide +kernel
theorem dX2_ranThrough_39 : decode cX2_ranThrough 39 = .ok (.iload_n 3, 1) := by decide +kernel
theorem dX2_ranThrough_40 : decode cX2_ranThrough 40 = .ok (.iconst 1, 1) := by decide +kernel
theorem dX2_ranThrough_41 : decode cX2_ranThrough 41 = .ok (.isub, 1) := by decide +kernel
theorem dX2_ranThrough_42 : decode cX2_ranThrough 42 = .ok (.invokestatic 110, 3) := by decide +kernel
theorem dX2_ranThrough_45 : decode cX2_ranThrough 45 = .ok (.goto 11, 3) := by decide +kernel
theorem dX2_ranThrough_48 : decode cX2_ranThrough 48 = .ok (.iload 4, 2) := by decide +kernel
theorem dX2_ranThrough_50 : decode cX2_ranThrough 50 = .ok (.iconst 1, 1) := by decide +kernel
theorem dX2_ranThrough_51 : decode cX2_ranThrough 51 = .ok (.isub, 1) := by decide +kernel
theorem dX2_ranThrough_52 : decode cX2_ranThrough 52 = .ok (.iconst 0, 1) := by decide +kernel
theorem dX2_ranThrough_53 : decode cX2_ranThrough 53 = .ok (.invokestatic 116, 3) := by decide +kernel
theorem dX2_ranThrough_56 : decode cX2_ranThrough 56 = .ok (.istore 4, 2) := by decide +kernel
theorem dX2_ranThrough_58 : decode cX2_ranThrough 58 = .ok (.iload 4, 2) := by decide +kernel
theorem dX2_ranThrough_60 : decode cX2_ranThrough 60 = .ok (.iload_n 3, 1) := by decide +kernel
theorem dX2_ranThrough_61 : decode cX2_ranThrough 61 = .ok (.invokestatic 134, 3) := by decide +kernel
theorem dX2_ranThrough_64 : decode cX2_ranThrough 64 = .ok (.ifCond .eq 12, 3) := by decide +kernel
theorem dX2_ranThrough_67 : decode cX2_ranThrough 67 = .ok (.lload 5, 2) := by decide +kernel
theorem dX2_ranThrough_69 : decode cX2_ranThrough 69 = .ok (.lconst 1, 1) := by decide +kernel
theorem dX2_ranThrough_70 : decode cX2_ranThrough 70 = .ok (.iload 7, 2) := by decide +kernel
theorem dX2_ranThrough_72 : decode cX2_ranThrough 72 = .ok (.lshl, 1) := by decide +kernel
theorem dX2_ranThrough_73 : decode cX2_ranThrough 73 = .ok (.lor, 1) := by decide +kernel
theorem dX2_ranThrough_74 : decode cX2_ranThrough 74 = .ok (.lstore 5, 2) := by decide +kernel
theorem dX2_ranThrough_76 : decode cX2_ranThrough 76 = .ok (.iinc 7 1, 3) := by decide +kernel
theorem dX2_ranThrough_79 : decode cX2_ranThrough 79 = .ok (.goto (-66), 3) := by decide +kernel
theorem dX2_ranThrough_82 : decode cX2_ranThrough 82 = .ok (.aload_n 0, 1) := by decide +kernel
theorem dX2_ranThrough_83 : decode cX2_ranThrough 83 = .ok (.iload 4, 2) := by decide +kernel
theorem dX2_ranThrough_85 : decode cX2_ranThrough 85 = .ok (.putfield 36, 3) := by decide +kernel
theorem dX2_ranThrough_88 : decode cX2_ranThrough 88 = .ok (.lload 5, 2) := by decide +kernel
theorem dX2_ranThrough_90 : decode cX2_ranThrough 90 = .ok (.lreturn, 1) := by decide +kernel
set_option maxRecDepth 20000 in
theorem ggX2_formed_X0_partBelow : GoodIn wsX2_formed wsX0_partBelow := goodIn_r _ [7, 8, 9, 10, 11, 5, 12, 13, 14, 15, 16, 42, 43, 44] (by decide +kernel) (by decide +kernel)
set_option maxRecDepth 20000 in
theorem gX2_formed_X0_partBelow_n158 : GoodIn wsX2_formed (wsX0_partBelow) := ggX2_formed_X0_partBelow
set_option maxRecDepth 20000 in
theorem ggX2_formed_X1_round : GoodIn wsX2_formed wsX1_round := goodIn_r _ [20, 21, 40, 41] (by decide +kernel) (by decide +kernel)
set_option maxRecDepth 20000 in
theorem gX2_formed_X1_round_n185 : GoodIn wsX2_formed (wsX1_round) := ggX2_formed_X1_round
set_option maxRecDepth 20000 in
theorem ggX2_formed_X2_bitOf : GoodIn wsX2_formed wsX2_bitOf := goodIn_r _ [25] (by decide +kernel) (by decide +kernel)
set_option maxRecDepth 20000 in
theorem gX2_formed_X2_bitOf : GoodIn wsX2_formed (va_wsS RX2 77 yX2_bitOf wsX2_bitOf) := goodIn_app (goodIn_of _ (by decide +kernel)) ggX2_formed_X2_bitOf
set_option maxRecDepth 20000 in
theorem ggX2_formed_X1_turned : GoodIn wsX2_formed wsX1_turned := goodIn_r _ [28, 29, 40, 41] (by decide +kernel) (by decide +kernel)
set_option maxRecDepth 20000 in
theorem gX2_formed_X1_turned_n188 : GoodIn wsX2_formed (wsX1_turned) := ggX2_formed_X1_turned
theorem dX2_formed_0 : decode cX2_formed 0 = .ok (.aload_n 0, 1) := by decide +kernel
theorem dX2_formed_1 : decode cX2_formed 1 = .ok (.getfield 19, 3) := by decide +kernel
theorem dX2_formed_4 : decode cX2_formed 4 = .ok (.iload_n 3, 1) := by decide +kernel
theorem dX2_formed_5 : decode cX2_formed 5 = .ok (.invokevirtual 158, 3) := by decide +kernel
theorem dX2_formed_8 : decode cX2_formed 8 = .ok (.lstore 4, 2) := by decide +kernel
theorem dX2_formed_10 : decode cX2_formed 10 = .ok (.lconst 0, 1) := by decide +kernel
theorem dX2_formed_11 : decode cX2_formed 11 = .ok (.lstore 6, 2) := by decide +kernel
theorem dX2_formed_13 : decode cX2_formed 13 = .ok (.iconst 0, 1) := by decide +kernel
theorem dX2_formed_14 : decode cX2_formed 14 = .ok (.istore 8, 2) := by decide +kernel
theorem dX2_formed_16 : decode cX2_formed 16 = .ok (.iload 8, 2) := by decide +kernel
theorem dX2_formed_18 : decode cX2_formed 18 = .ok (.aload_n 0, 1) := by decide +kernel
theorem dX2_formed_19 : decode cX2_formed 19 = .ok (.getfield 10, 3) := by decide +kernel
theorem dX2_formed_22 : decode cX2_formed 22 = .ok (.getfield 49, 3) := by decide +kernel
theorem dX2_formed_25 : decode cX2_formed 25 = .ok (.if_icmp .ge 90, 3) := by decide +kernel
theorem dX2_formed_28 : decode cX2_formed 28 = .ok (.iconst 0, 1) := by decide +kernel
theorem dX2_formed_29 : decode cX2_formed 29 = .ok (.istore 9, 2) := by decide +kernel
theorem dX2_formed_31 : decode cX2_formed 31 = .ok (.iconst 0, 1) := by decide +kernel
theorem dX2_formed_32 : decode cX2_formed 32 = .ok (.istore 10, 2) := by decide +kernel
theorem dX2_formed_34 : decode cX2_formed 34 = .ok (.iload 10, 2) := by decide +kernel
theorem dX2_formed_36 : decode cX2_formed 36 = .ok (.iload_n 3, 1) := by decide +kernel
theorem dX2_formed_37 : decode cX2_formed 37 = .ok (.if_icmp .ge 30, 3) := by decide +kernel
theorem dX2_formed_40 : decode cX2_formed 40 = .ok (.iload 9, 2) := by decide +kernel
theorem dX2_formed_42 : decode cX2_formed 42 = .ok (.lload_n 1, 1) := by decide +kernel
theorem dX2_formed_43 : decode cX2_formed 43 = .ok (.aload_n 0, 1) := by decide +kernel
theorem dX2_formed_44 : decode cX2_formed 44 = .ok (.getfield 10, 3) := by decide +kernel
theorem dX2_formed_47 : decode cX2_formed 47 = .ok (.iload 8, 2) := by decide +kernel
theorem dX2_formed_49 : decode cX2_formed 49 = .ok (.iload 10, 2) := by decide +kernel
theorem dX2_formed_51 : decode cX2_formed 51 = .ok (.iadd, 1) := by decide +kernel
theorem dX2_formed_52 : decode cX2_formed 52 = .ok (.invokevirtual 185, 3) := by decide +kernel
theorem dX2_formed_55 : decode cX2_formed 55 = .ok (.invokestatic 77, 3) := by decide +kernel
theorem dX2_formed_58 : decode cX2_formed 58 = .ok (.iadd, 1) := by decide +kernel
theorem dX2_formed_59 : decode cX2_formed 59 = .ok (.istore 9, 2) := by decide +kernel
theorem dX2_formed_61 : decode cX2_formed 61 = .ok (.iinc 10 1, 3) := by decide +kernel
theorem dX2_formed_64 : decode cX2_formed 64 = .ok (.goto (-30), 3) := by decide +kernel
theorem dX2_formed_67 : decode cX2_formed 67 = .ok (.aload_n 0, 1) := by decide +kernel
theorem dX2_formed_68 : decode cX2_formed 68 = .ok (.getfield 33, 3) := by decide +kernel
theorem dX2_formed_71 : decode cX2_formed 71 = .ok (.iload 9, 2) := by decide +kernel
theorem dX2_formed_73 : decode cX2_formed 73 = .ok (.laload, 1) := by decide +kernel
theorem dX2_formed_74 : decode cX2_formed 74 = .ok (.aload_n 0, 1) := by decide +kernel
theorem dX2_formed_75 : decode cX2_formed 75 = .ok (.getfield 10, 3) := by decide +kernel
theorem dX2_formed_78 : decode cX2_formed 78 = .ok (.getfield 49, 3) := by decide +kernel
theorem dX2_formed_81 : decode cX2_formed 81 = .ok (.i2l, 1) := by decide +kernel
theorem dX2_formed_82 : decode cX2_formed 82 = .ok (.lmul, 1) := by decide +kernel
theorem dX2_formed_83 : decode cX2_formed 83 = .ok (.aload_n 0, 1) := by decide +kernel
theorem dX2_formed_84 : decode cX2_formed 84 = .ok (.getfield 10, 3) := by decide +kernel
theorem dX2_formed_87 : decode cX2_formed 87 = .ok (.iload 8, 2) := by decide +kernel
theorem dX2_formed_89 : decode cX2_formed 89 = .ok (.invokevirtual 188, 3) := by decide +kernel
theorem dX2_formed_92 : decode cX2_formed 92 = .ok (.i2l, 1) := by decide +kernel
theorem dX2_formed_93 : decode cX2_formed 93 = .ok (.lload 4, 2) := by decide +kernel
theorem dX2_formed_95 : decode cX2_formed 95 = .ok (.lmul, 1) := by decide +kernel
theorem dX2_formed_96 : decode cX2_formed 96 = .ok (.lcmp, 1) := by decide +kernel
theorem dX2_formed_97 : decode cX2_formed 97 = .ok (.ifCond .le 12, 3) := by decide +kernel
theorem dX2_formed_100 : decode cX2_formed 100 = .ok (.lload 6, 2) := by decide +kernel
theorem dX2_formed_102 : decode cX2_formed 102 = .ok (.lconst 1, 1) := by decide +kernel
theorem dX2_formed_103 : decode cX2_formed 103 = .ok (.iload 8, 2) := by decide +kernel
theorem dX2_formed_105 : decode cX2_formed 105 = .ok (.lshl, 1) := by decide +kernel
theorem dX2_formed_106 : decode cX2_formed 106 = .ok (.lor, 1) := by decide +kernel
theorem dX2_formed_107 : decode cX2_formed 107 = .ok (.lstore 6, 2) := by decide +kernel
theorem dX2_formed_109 : decode cX2_formed 109 = .ok (.iinc 8 1, 3) := by decide +kernel
theorem dX2_formed_112 : decode cX2_formed 112 = .ok (.goto (-96), 3) := by decide +kernel
theorem dX2_formed_115 : decode cX2_formed 115 = .ok (.lload 6, 2) := by decide +kernel
theorem dX2_formed_117 : decode cX2_formed 117 = .ok (.lreturn, 1) := by decide +kernel
theorem dX2_power_0 : decode cX2_power 0 = .ok (.lconst 1, 1) := by decide +kernel
theorem dX2_power_1 : decode cX2_power 1 = .ok (.lstore_n 3, 1) := by decide +kernel
theorem dX2_power_2 : decode cX2_power 2 = .ok (.iconst 0, 1) := by decide +kernel
theorem dX2_power_3 : decode cX2_power 3 = .ok (.istore 5, 2) := by decide +kernel
theorem dX2_power_5 : decode cX2_power 5 = .ok (.iload 5, 2) := by decide +kernel
theorem dX2_power_7 : decode cX2_power 7 = .ok (.iload_n 2, 1) := by decide +kernel
theorem dX2_power_8 : decode cX2_power 8 = .ok (.if_icmp .ge 13, 3) := by decide +kernel
theorem dX2_power_11 : decode cX2_power 11 = .ok (.lload_n 3, 1) := by decide +kernel
theorem dX2_power_12 : decode cX2_power 12 = .ok (.lload_n 0, 1) := by decide +kernel
theorem dX2_power_13 : decode cX2_power 13 = .ok (.lmul, 1) := by decide +kernel
theorem dX2_power_14 : decode cX2_power 14 = .ok (.lstore_n 3, 1) := by decide +kernel
theorem dX2_power_15 : decode cX2_power 15 = .ok (.iinc 5 1, 3) := by decide +kernel
theorem dX2_power_18 : decode cX2_power 18 = .ok (.goto (-13), 3) := by decide +kernel
theorem dX2_power_21 : decode cX2_power 21 = .ok (.lload_n 3, 1) := by decide +kernel
theorem dX2_power_22 : decode cX2_power 22 = .ok (.lreturn, 1) := by decide +kernel
set_option maxRecDepth 20000 in
theorem ggX2_inLowestTerms_X2_commonDivisor : GoodIn wsX2_inLowestTerms wsX2_commonDivisor := goodIn_r _ [8, 9, 10, 3, 11] (by decide +kernel) (by decide +kernel)
set_option maxRecDepth 20000 in
theorem gX2_inLowestTerms_X2_commonDivisor : GoodIn wsX2_inLowestTerms (va_wsS RX2 194 yX2_commonDivisor wsX2_commonDivisor) := goodIn_app (goodIn_of _ (by decide +kernel)) ggX2_inLowestTerms_X2_commonDivisor
theorem dX2_inLowestTerms_0 : decode cX2_inLowestTerms 0 = .ok (.lload_n 0, 1) := by decide +kernel
theorem dX2_inLowestTerms_1 : decode cX2_inLowestTerms 1 = .ok (.invokestatic 191, 3) := by decide +kernel
theorem dX2_inLowestTerms_4 : decode cX2_inLowestTerms 4 = .ok (.lload_n 2, 1) := by decide +kernel
theorem dX2_inLowestTerms_5 : decode cX2_inLowestTerms 5 = .ok (.invokestatic 194, 3) := by decide +kernel
theorem dX2_inLowestTerms_8 : decode cX2_inLowestTerms 8 = .ok (.lstore 5, 2) := by decide +kernel
theorem dX2_inLowestTerms_10 : decode cX2_inLowestTerms 10 = .ok (.iload 4, 2) := by decide +kernel
theorem dX2_inLowestTerms_12 : decode cX2_inLowestTerms 12 = .ok (.ifCond .ne 10, 3) := by decide +kernel
theorem dX2_inLowestTerms_15 : decode cX2_inLowestTerms 15 = .ok (.lload_n 0, 1) := by decide +kernel
theorem dX2_inLowestTerms_16 : decode cX2_inLowestTerms 16 = .ok (.lload 5, 2) := by decide +kernel
theorem dX2_inLowestTerms_18 : decode cX2_inLowestTerms 18 = .ok (.ldiv, 1) := by decide +kernel
theorem dX2_inLowestTerms_19 : decode cX2_inLowestTerms 19 = .ok (.goto 7, 3) := by decide +kernel
theorem dX2_inLowestTerms_22 : decode cX2_inLowestTerms 22 = .ok (.lload_n 2, 1) := by decide +kernel
theorem dX2_inLowestTerms_23 : decode cX2_inLowestTerms 23 = .ok (.lload 5, 2) := by decide +kernel
theorem dX2_inLowestTerms_25 : decode cX2_inLowestTerms 25 = .ok (.ldiv, 1) := by decide +kernel
theorem dX2_inLowestTerms_26 : decode cX2_inLowestTerms 26 = .ok (.lreturn, 1) := by decide +kernel
theorem dX2_commonDivisor_0 : decode cX2_commonDivisor 0 = .ok (.iconst 0, 1) := by decide +kernel
theorem dX2_commonDivisor_1 : decode cX2_commonDivisor 1 = .ok (.istore 4, 2) := by decide +kernel
theorem dX2_commonDivisor_3 : decode cX2_commonDivisor 3 = .ok (.iload 4, 2) := by decide +kernel
theorem dX2_commonDivisor_5 : decode cX2_commonDivisor 5 = .ok (.bipush 100, 2) := by decide +kernel
theorem dX2_commonDivisor_7 : decode cX2_commonDivisor 7 = .ok (.if_icmp .ge 25, 3) := by decide +kernel
theorem dX2_commonDivisor_10 : decode cX2_commonDivisor 10 = .ok (.lload_n 2, 1) := by decide +kernel
theorem dX2_commonDivisor_11 : decode cX2_commonDivisor 11 = .ok (.lconst 0, 1) := by decide +kernel
theorem dX2_commonDivisor_12 : decode cX2_commonDivisor 12 = .ok (.lcmp, 1) := by decide +kernel
theorem dX2_commonDivisor_13 : decode cX2_commonDivisor 13 = .ok (.ifCond .eq 19, 3) := by decide +kernel
theorem dX2_commonDivisor_16 : decode cX2_commonDivisor 16 = .ok (.lload_n 0, 1) := by decide +kernel
theorem dX2_commonDivisor_17 : decode cX2_commonDivisor 17 = .ok (.lload_n 2, 1) := by decide +kernel
theorem dX2_commonDivisor_18 : decode cX2_commonDivisor 18 = .ok (.lrem, 1) := by decide +kernel
theorem dX2_commonDivisor_19 : decode cX2_commonDivisor 19 = .ok (.lstore 5, 2) := by decide +kernel
theorem dX2_commonDivisor_21 : decode cX2_commonDivisor 21 = .ok (.lload_n 2, 1) := by decide +kernel
theorem dX2_commonDivisor_22 : decode cX2_commonDivisor 22 = .ok (.lstore_n 0, 1) := by decide +kernel
theorem dX2_commonDivisor_23 : decode cX2_commonDivisor 23 = .ok (.lload 5, 2) := by decide +kernel
theorem dX2_commonDivisor_25 : decode cX2_commonDivisor 25 = .ok (.lstore_n 2, 1) := by decide +kernel
theorem dX2_commonDivisor_26 : decode cX2_commonDivisor 26 = .ok (.iinc 4 1, 3) := by decide +kernel
theorem dX2_commonDivisor_29 : decode cX2_commonDivisor 29 = .ok (.goto (-26), 3) := by decide +kernel
theorem dX2_commonDivisor_32 : decode cX2_commonDivisor 32 = .ok (.lload_n 0, 1) := by decide +kernel
theorem dX2_commonDivisor_33 : decode cX2_commonDivisor 33 = .ok (.lconst 1, 1) := by decide +kernel
theorem dX2_commonDivisor_34 : decode cX2_commonDivisor 34 = .ok (.invokestatic 198, 3) := by decide +kernel
theorem dX2_commonDivisor_37 : decode cX2_commonDivisor 37 = .ok (.lreturn, 1) := by decide +kernel
theorem dX3_init_0 : decode cX3_init 0 = .ok (.aload_n 0, 1) := by decide +kernel
theorem dX3_init_1 : decode cX3_init 1 = .ok (.invokespecial 1, 3) := by decide +kernel
theorem dX3_init_4 : decode cX3_init 4 = .ok (.aload_n 0, 1) := by decide +kernel
theorem dX3_init_5 : decode cX3_init 5 = .ok (.bipush 12, 2) := by decide +kernel
theorem dX3_init_7 : decode cX3_init 7 = .ok (.newarray .long, 2) := by decide +kernel
theorem dX3_init_9 : decode cX3_init 9 = .ok (.putfield 7, 3) := by decide +kernel
theorem dX3_init_12 : decode cX3_init 12 = .ok (.aload_n 0, 1) := by decide +kernel
theorem dX3_init_13 : decode cX3_init 13 = .ok (.bipush 65, 2) := by decide +kernel
theorem dX3_init_15 : decode cX3_init 15 = .ok (.newarray .long, 2) := by decide +kernel
theorem dX3_init_17 : decode cX3_init 17 = .ok (.putfield 13, 3) := by decide +kernel
theorem dX3_init_20 : decode cX3_init 20 = .ok (.aload_n 0, 1) := by decide +kernel
theorem dX3_init_21 : decode cX3_init 21 = .ok (.bipush 65, 2) := by decide +kernel
theorem dX3_init_23 : decode cX3_init 23 = .ok (.newarray .long, 2) := by decide +kernel
theorem dX3_init_25 : decode cX3_init 25 = .ok (.putfield 16, 3) := by decide +kernel
theorem dX3_init_28 : decode cX3_init 28 = .ok (.aload_n 0, 1) := by decide +kernel
theorem dX3_init_29 : decode cX3_init 29 = .ok (.iconst 5, 1) := by decide +kernel
theorem dX3_init_30 : decode cX3_init 30 = .ok (.newarray .int, 2) := by decide +kernel
theorem dX3_init_32 : decode cX3_init 32 = .ok (.putfield 19, 3) := by decide +kernel
theorem dX3_init_35 : decode cX3_init 35 = .ok (.aload_n 0, 1) := by decide +kernel
theorem dX3_init_36 : decode cX3_init 36 = .ok (.bipush 8, 2) := by decide +kernel
theorem dX3_init_38 : decode cX3_init 38 = .ok (.putfield 23, 3) := by decide +kernel
theorem dX3_init_41 : decode cX3_init 41 = .ok (.aload_n 0, 1) := by decide +kernel
theorem dX3_init_42 : decode cX3_init 42 = .ok (.iconst (-1), 1) := by decide +kernel
theorem dX3_init_43 : decode cX3_init 43 = .ok (.putfield 27, 3) := by decide +kernel
theorem dX3_init_46 : decode cX3_init 46 = .ok (.aload_n 0, 1) := by decide +kernel
theorem dX3_init_47 : decode cX3_init 47 = .ok (.iconst 1, 1) := by decide +kernel
theorem dX3_init_48 : decode cX3_init 48 = .ok (.putfield 30, 3) := by decide +kernel
theorem dX3_init_51 : decode cX3_init 51 = .ok (.return_, 1) := by decide +kernel
theorem dX3_in_0 : decode cX3_in 0 = .ok (.lload_n 0, 1) := by decide +kernel
theorem dX3_in_1 : decode cX3_in 1 = .ok (.lload_n 2, 1) := by decide +kernel
theorem dX3_in_2 : decode cX3_in 2 = .ok (.lcmp, 1) := by decide +kernel
theorem dX3_in_3 : decode cX3_in 3 = .ok (.ifCond .lt 14, 3) := by decide +kernel
theorem dX3_in_6 : decode cX3_in 6 = .ok (.lload_n 0, 1) := by decide +kernel
theorem dX3_in_7 : decode cX3_in 7 = .ok (.lload 4, 2) := by decide +kernel
theorem dX3_in_9 : decode cX3_in 9 = .ok (.lcmp, 1) := by decide +kernel
theorem dX3_in_10 : decode cX3_in 10 = .ok (.ifCond .gt 7, 3) := by decide +kernel
theorem dX3_in_13 : decode cX3_in 13 = .ok (.iconst 1, 1) := by decide +kernel
theorem dX3_in_14 : decode cX3_in 14 = .ok (.goto 4, 3) := by decide +kernel
theorem dX3_in_17 : decode cX3_in 17 = .ok (.iconst 0, 1) := by decide +kernel
theorem dX3_in_18 : decode cX3_in 18 = .ok (.ireturn, 1) := by decide +kernel
set_option maxRecDepth 20000 in
theorem ggX3_isStream_X3_in : GoodIn wsX3_isStream wsX3_in := goodIn_r _ [5] (by decide +kernel) (by decide +kernel)
set_option maxRecDepth 20000 in
theorem gX3_isStream_X3_in : GoodIn wsX3_isStream (va_wsS RX3 35 yX3_in wsX3_in) := goodIn_app (goodIn_of _ (by decide +kernel)) ggX3_isStream_X3_in
theorem dX3_isStream_0 : decode cX3_isStream 0 = .ok (.iload_n 0, 1) := by decide +kernel
theorem dX3_isStream_1 : decode cX3_isStream 1 = .ok (.i2l, 1) := by decide +kernel
theorem dX3_isStream_2 : decode cX3_isStream 2 = .ok (.lconst 0, 1) := by decide +kernel
theorem dX3_isStream_3 : decode cX3_isStream 3 = .ok (.ldc2_w 33, 3) := by decide +kernel
theorem dX3_isStream_6 : decode cX3_isStream 6 = .ok (.invokestatic 35, 3) := by decide +kernel
theorem dX3_isStream_9 : decode cX3_isStream 9 = .ok (.ireturn, 1) := by decide +kernel
theorem dX3_bitOf_0 : decode cX3_bitOf 0 = .ok (.lload_n 1, 1) := by decide +kernel
theorem dX3_bitOf_1 : decode cX3_bitOf 1 = .ok (.iload_n 3, 1) := by decide +kernel
theorem dX3_bitOf_2 : decode cX3_bitOf 2 = .ok (.lushr, 1) := by decide +kernel
theorem dX3_bitOf_3 : decode cX3_bitOf 3 = .ok (.l2i, 1) := by decide +kernel
theorem dX3_bitOf_4 : decode cX3_bitOf 4 = .ok (.iconst 1, 1) := by decide +kernel
theorem dX3_bitOf_5 : decode cX3_bitOf 5 = .ok (.iand, 1) := by decide +kernel
theorem dX3_bitOf_6 : decode cX3_bitOf 6 = .ok (.ireturn, 1) := by decide +kernel
set_option maxRecDepth 20000 in
theorem ggX3_onesOf_X3_bitOf : GoodIn wsX3_onesOf wsX3_bitOf := goodIn_r _ [6] (by decide +kernel) (by decide +kernel)
set_option maxRecDepth 20000 in
theorem gX3_onesOf_X3_bitOf : GoodIn wsX3_onesOf (wsV RX3 39 RX3 yX3_bitOf wsX3_bitOf) := goodIn_app (goodIn_of _ (by decide +kernel)) ggX3_onesOf_X3_bitOf
theorem dX3_onesOf_0 : decode cX3_onesOf 0 = .ok (.iconst 0, 1) := by decide +kernel
theorem dX3_onesOf_1 : decode cX3_onesOf 1 = .ok (.istore_n 3, 1) := by decide +kernel
theorem dX3_onesOf_2 : decode cX3_onesOf 2 = .ok (.iconst 0, 1) := by decide +kernel
theorem dX3_onesOf_3 : decode cX3_onesOf 3 = .ok (.istore 4, 2) := by decide +kernel
theorem dX3_onesOf_5 : decode cX3_onesOf 5 = .ok (.iload 4, 2) := by decide +kernel
theorem dX3_onesOf_7 : decode cX3_onesOf 7 = .ok (.aload_n 0, 1) := by decide +kernel
theorem dX3_onesOf_8 : decode cX3_onesOf 8 = .ok (.getfield 23, 3) := by decide +kernel
theorem dX3_onesOf_11 : decode cX3_onesOf 11 = .ok (.if_icmp .ge 19, 3) := by decide +kernel
theorem dX3_onesOf_14 : decode cX3_onesOf 14 = .ok (.iload_n 3, 1) := by decide +kernel
theorem dX3_onesOf_15 : decode cX3_onesOf 15 = .ok (.aload_n 0, 1) := by decide +kernel
theorem dX3_onesOf_16 : decode cX3_onesOf 16 = .ok (.lload_n 1, 1) := by decide +kernel
theorem dX3_onesOf_17 : decode cX3_onesOf 17 = .ok (.iload 4, 2) := by decide +kernel
theorem dX3_onesOf_19 : decode cX3_onesOf 19 = .ok (.invokevirtual 39, 3) := by decide +kernel
theorem dX3_onesOf_22 : decode cX3_onesOf 22 = .ok (.iadd, 1) := by decide +kernel
theorem dX3_onesOf_23 : decode cX3_onesOf 23 = .ok (.istore_n 3, 1) := by decide +kernel
theorem dX3_onesOf_24 : decode cX3_onesOf 24 = .ok (.iinc 4 1, 3) := by decide +kernel
theorem dX3_onesOf_27 : decode cX3_onesOf 27 = .ok (.goto (-22), 3) := by decide +kernel
theorem dX3_onesOf_30 : decode cX3_onesOf 30 = .ok (.iload_n 3, 1) := by decide +kernel
theorem dX3_onesOf_31 : decode cX3_onesOf 31 = .ok (.ireturn, 1) := by decide +kernel
theorem dX3_length_0 : decode cX3_length 0 = .ok (.iload_n 1, 1) := by decide +kernel
theorem dX3_length_1 : decode cX3_length 1 = .ok (.bipush 8, 2) := by decide +kernel
theorem dX3_length_3 : decode cX3_length 3 = .ok (.if_icmp .eq 24, 3) := by decide +kernel
theorem dX3_length_6 : decode cX3_length 6 = .ok (.iload_n 1, 1) := by decide +kernel
theorem dX3_length_7 : decode cX3_length 7 = .ok (.bipush 16, 2) := by decide +kernel
theorem dX3_length_9 : decode cX3_length 9 = .ok (.if_icmp .eq 18, 3) := by decide +kernel
theorem dX3_length_12 : decode cX3_length 12 = .ok (.iload_n 1, 1) := by decide +kernel
theorem dX3_length_13 : decode cX3_length 13 = .ok (.bipush 32, 2) := by decide +kernel
theorem dX3_length_15 : decode cX3_length 15 = .ok (.if_icmp .eq 12, 3) := by decide +kernel
theorem dX3_length_18 : decode cX3_length 18 = .ok (.iload_n 1, 1) := by decide +kernel
theorem dX3_length_19 : decode cX3_length 19 = .ok (.bipush 64, 2) := by decide +kernel
theorem dX3_length_21 : decode cX3_length 21 = .ok (.if_icmp .eq 6, 3) := by decide +kernel
theorem dX3_length_24 : decode cX3_length 24 = .ok (.bipush (-102), 2) := by decide +kernel
theorem dX3_length_26 : decode cX3_length 26 = .ok (.ireturn, 1) := by decide +kernel
theorem dX3_length_27 : decode cX3_length 27 = .ok (.aload_n 0, 1) := by decide +kernel
theorem dX3_length_28 : decode cX3_length 28 = .ok (.getfield 23, 3) := by decide +kernel
theorem dX3_length_31 : decode cX3_length 31 = .ok (.istore_n 2, 1) := by decide +kernel
theorem dX3_length_32 : decode cX3_length 32 = .ok (.aload_n 0, 1) := by decide +kernel
theorem dX3_length_33 : decode cX3_length 33 = .ok (.iload_n 1, 1) := by decide +kernel
theorem dX3_length_34 : decode cX3_length 34 = .ok (.putfield 23, 3) := by decide +kernel
theorem dX3_length_37 : decode cX3_length 37 = .ok (.iconst 0, 1) := by decide +kernel
theorem dX3_length_38 : decode cX3_length 38 = .ok (.istore_n 3, 1) := by decide +kernel
theorem dX3_length_39 : decode cX3_length 39 = .ok (.iload_n 3, 1) := by decide +kernel
theorem dX3_length_40 : decode cX3_length 40 = .ok (.bipush 12, 2) := by decide +kernel
theorem dX3_length_42 : decode cX3_length 42 = .ok (.if_icmp .ge 16, 3) := by decide +kernel
theorem dX3_length_45 : decode cX3_length 45 = .ok (.aload_n 0, 1) := by decide +kernel
theorem dX3_length_46 : decode cX3_length 46 = .ok (.getfield 7, 3) := by decide +kernel
theorem dX3_length_49 : decode cX3_length 49 = .ok (.iload_n 3, 1) := by decide +kernel
theorem dX3_length_50 : decode cX3_length 50 = .ok (.lconst 0, 1) := by decide +kernel
theorem dX3_length_51 : decode cX3_length 51 = .ok (.lastore, 1) := by decide +kernel
theorem dX3_length_52 : decode cX3_length 52 = .ok (.iinc 3 1, 3) := by decide +kernel
theorem dX3_length_55 : decode cX3_length 55 = .ok (.goto (-16), 3) := by decide +kernel
theorem dX3_length_58 : decode cX3_length 58 = .ok (.iload_n 2, 1) := by decide +kernel
theorem dX3_length_59 : decode cX3_length 59 = .ok (.ireturn, 1) := by decide +kernel
theorem dX3_round_0 : decode cX3_round 0 = .ok (.iconst 0, 1) := by decide +kernel
theorem dX3_round_1 : decode cX3_round 1 = .ok (.istore_n 2, 1) := by decide +kernel
theorem dX3_round_2 : decode cX3_round 2 = .ok (.iload_n 1, 1) := by decide +kernel
theorem dX3_round_3 : decode cX3_round 3 = .ok (.istore_n 3, 1) := by decide +kernel
theorem dX3_round_4 : decode cX3_round 4 = .ok (.iconst 1, 1) := by decide +kernel
theorem dX3_round_5 : decode cX3_round 5 = .ok (.istore 4, 2) := by decide +kernel
theorem dX3_round_7 : decode cX3_round 7 = .ok (.iload 4, 2) := by decide +kernel
theorem dX3_round_9 : decode cX3_round 9 = .ok (.aload_n 0, 1) := by decide +kernel
theorem dX3_round_10 : decode cX3_round 10 = .ok (.getfield 23, 3) := by decide +kernel
theorem dX3_round_13 : decode cX3_round 13 = .ok (.if_icmp .ge 24, 3) := by decide +kernel
theorem dX3_round_16 : decode cX3_round 16 = .ok (.iconst 2, 1) := by decide +kernel
theorem dX3_round_17 : decode cX3_round 17 = .ok (.iload_n 2, 1) := by decide +kernel
theorem dX3_round_18 : decode cX3_round 18 = .ok (.imul, 1) := by decide +kernel
theorem dX3_round_19 : decode cX3_round 19 = .ok (.iload_n 3, 1) := by decide +kernel
theorem dX3_round_20 : decode cX3_round 20 = .ok (.iconst 2, 1) := by decide +kernel
theorem dX3_round_21 : decode cX3_round 21 = .ok (.irem, 1) := by decide +kernel
theorem dX3_round_22 : decode cX3_round 22 = .ok (.iadd, 1) := by decide +kernel
theorem dX3_round_23 : decode cX3_round 23 = .ok (.istore_n 2, 1) := by decide +kernel
theorem dX3_round_24 : decode cX3_round 24 = .ok (.iload_n 3, 1) := by decide +kernel
theorem dX3_round_25 : decode cX3_round 25 = .ok (.iconst 2, 1) := by decide +kernel
theorem dX3_round_26 : decode cX3_round 26 = .ok (.idiv, 1) := by decide +kernel
theorem dX3_round_27 : decode cX3_round 27 = .ok (.istore_n 3, 1) := by decide +kernel
theorem dX3_round_28 : decode cX3_round 28 = .ok (.iload 4, 2) := by decide +kernel
theorem dX3_round_30 : decode cX3_round 30 = .ok (.iconst 2, 1) := by decide +kernel
theorem dX3_round_31 : decode cX3_round 31 = .ok (.imul, 1) := by decide +kernel
theorem dX3_round_32 : decode cX3_round 32 = .ok (.istore 4, 2) := by decide +kernel
theorem dX3_round_34 : decode cX3_round 34 = .ok (.goto (-27), 3) := by decide +kernel
theorem dX3_round_37 : decode cX3_round 37 = .ok (.iload_n 2, 1) := by decide +kernel
theorem dX3_round_38 : decode cX3_round 38 = .ok (.ireturn, 1) := by decide +kernel
set_option maxRecDepth 20000 in
theorem ggX3_sourceRow_X3_round : GoodIn wsX3_sourceRow wsX3_round := goodIn_r _ [6, 1, 7, 8, 9, 10, 11, 12, 13, 14, 15, 16, 17, 18, 19] (by decide +kernel) (by decide +kernel)
set_option maxRecDepth 20000 in
theorem gX3_sourceRow_X3_round : GoodIn wsX3_sourceRow (wsV RX3 43 RX3 yX3_round wsX3_round) := goodIn_app (goodIn_of _ (by decide +kernel)) ggX3_sourceRow_X3_round
theorem dX3_sourceRow_0 : decode cX3_sourceRow 0 = .ok (.lconst 0, 1) := by decide +kernel
theorem dX3_sourceRow_1 : decode cX3_sourceRow 1 = .ok (.lstore_n 3, 1) := by decide +kernel
theorem dX3_sourceRow_2 : decode cX3_sourceRow 2 = .ok (.aload_n 0, 1) := by decide +kernel
theorem dX3_sourceRow_3 : decode cX3_sourceRow 3 = .ok (.getfield 23, 3) := by decide +kernel
theorem dX3_sourceRow_6 : decode cX3_sourceRow 6 = .ok (.bipush 8, 2) := by decide +kernel
theorem dX3_sourceRow_8 : decode cX3_sourceRow 8 = .ok (.if_icmp .ne 8, 3) := by decide +kernel
theorem dX3_sourceRow_11 : decode cX3_sourceRow 11 = .ok (.bipush 6, 2) := by decide +kernel
theorem dX3_sourceRow_13 : decode cX3_sourceRow 13 = .ok (.goto 33, 3) := by decide +kernel
theorem dX3_sourceRow_16 : decode cX3_sourceRow 16 = .ok (.aload_n 0, 1) := by decide +kernel
theorem dX3_sourceRow_17 : decode cX3_sourceRow 17 = .ok (.getfield 23, 3) := by decide +kernel
theorem dX3_sourceRow_20 : decode cX3_sourceRow 20 = .ok (.bipush 16, 2) := by decide +kernel
theorem dX3_sourceRow_22 : decode cX3_sourceRow 22 = .ok (.if_icmp .ne 8, 3) := by decide +kernel
theorem dX3_sourceRow_25 : decode cX3_sourceRow 25 = .ok (.bipush 12, 2) := by decide +kernel
theorem dX3_sourceRow_27 : decode cX3_sourceRow 27 = .ok (.goto 19, 3) := by decide +kernel
theorem dX3_sourceRow_30 : decode cX3_sourceRow 30 = .ok (.aload_n 0, 1) := by decide +kernel
theorem dX3_sourceRow_31 : decode cX3_sourceRow 31 = .ok (.getfield 23, 3) := by decide +kernel
theorem dX3_sourceRow_34 : decode cX3_sourceRow 34 = .ok (.bipush 32, 2) := by decide +kernel
theorem dX3_sourceRow_36 : decode cX3_sourceRow 36 = .ok (.if_icmp .ne 8, 3) := by decide +kernel
theorem dX3_sourceRow_39 : decode cX3_sourceRow 39 = .ok (.bipush 20, 2) := by decide +kernel
theorem dX3_sourceRow_41 : decode cX3_sourceRow 41 = .ok (.goto 5, 3) := by decide +kernel
theorem dX3_sourceRow_44 : decode cX3_sourceRow 44 = .ok (.bipush 48, 2) := by decide +kernel
theorem dX3_sourceRow_46 : decode cX3_sourceRow 46 = .ok (.istore 5, 2) := by decide +kernel
theorem dX3_sourceRow_48 : decode cX3_sourceRow 48 = .ok (.iconst 1, 1) := by decide +kernel
theorem dX3_sourceRow_49 : decode cX3_sourceRow 49 = .ok (.istore 6, 2) := by decide +kernel
theorem dX3_sourceRow_51 : decode cX3_sourceRow 51 = .ok (.iconst 0, 1) := by decide +kernel
theorem dX3_sourceRow_52 : decode cX3_sourceRow 52 = .ok (.istore 7, 2) := by decide +kernel
theorem dX3_sourceRow_54 : decode cX3_sourceRow 54 = .ok (.iload 7, 2) := by decide +kernel
theorem dX3_sourceRow_56 : decode cX3_sourceRow 56 = .ok (.aload_n 0, 1) := by decide +kernel
theorem dX3_sourceRow_57 : decode cX3_sourceRow 57 = .ok (.getfield 23, 3) := by decide +kernel
theorem dX3_sourceRow_60 : decode cX3_sourceRow 60 = .ok (.if_icmp .ge 172, 3) := by decide +kernel
theorem dX3_sourceRow_63 : decode cX3_sourceRow 63 = .ok (.iload_n 1, 1) := by decide +kernel
theorem dX3_sourceRow_64 : decode cX3_sourceRow 64 = .ok (.ifCond .ne 19, 3) := by decide +kernel
theorem dX3_sourceRow_67 : decode cX3_sourceRow 67 = .ok (.iload 7, 2) := by decide +kernel
theorem dX3_sourceRow_69 : decode cX3_sourceRow 69 = .ok (.iload_n 2, 1) := by decide +kernel
theorem dX3_sourceRow_70 : decode cX3_sourceRow 70 = .ok (.if_icmp .ge 7, 3) := by decide +kernel
theorem dX3_sourceRow_73 : decode cX3_sourceRow 73 = .ok (.iconst 1, 1) := by decide +kernel
theorem dX3_sourceRow_74 : decode cX3_sourceRow 74 = .ok (.goto 4, 3) := by decide +kernel
theorem dX3_sourceRow_77 : decode cX3_sourceRow 77 = .ok (.iconst 0, 1) := by decide +kernel
theorem dX3_sourceRow_78 : decode cX3_sourceRow 78 = .ok (.istore 8, 2) := by decide +kernel
theorem dX3_sourceRow_80 : decode cX3_sourceRow 80 = .ok (.goto 130, 3) := by decide +kernel
theorem dX3_sourceRow_83 : decode cX3_sourceRow 83 = .ok (.iload_n 1, 1) := by decide +kernel
theorem dX3_sourceRow_84 : decode cX3_sourceRow 84 = .ok (.iconst 1, 1) := by decide +kernel
theorem dX3_sourceRow_85 : decode cX3_sourceRow 85 = .ok (.if_icmp .ne 23, 3) := by decide +kernel
theorem dX3_sourceRow_88 : decode cX3_sourceRow 88 = .ok (.aload_n 0, 1) := by decide +kernel
theorem dX3_sourceRow_89 : decode cX3_sourceRow 89 = .ok (.iload 7, 2) := by decide +kernel
theorem dX3_sourceRow_91 : decode cX3_sourceRow 91 = .ok (.invokevirtual 43, 3) := by decide +kernel
theorem dX3_sourceRow_94 : decode cX3_sourceRow 94 = .ok (.iload_n 2, 1) := by decide +kernel
theorem dX3_sourceRow_95 : decode cX3_sourceRow 95 = .ok (.if_icmp .ge 7, 3) := by decide +kernel
theorem dX3_sourceRow_98 : decode cX3_sourceRow 98 = .ok (.iconst 1, 1) := by decide +kernel
theorem dX3_sourceRow_99 : decode cX3_sourceRow 99 = .ok (.goto 4, 3) := by decide +kernel
theorem dX3_sourceRow_102 : decode cX3_sourceRow 102 = .ok (.iconst 0, 1) := by decide +kernel
theorem dX3_sourceRow_103 : decode cX3_sourceRow 103 = .ok (.istore 8, 2) := by decide +kernel
theorem dX3_sourceRow_105 : decode cX3_sourceRow 105 = .ok (.goto 105, 3) := by decide +kernel
theorem dX3_sourceRow_108 : decode cX3_sourceRow 108 = .ok (.iload_n 1, 1) := by decide +kernel
theorem dX3_sourceRow_109 : decode cX3_sourceRow 109 = .ok (.iconst 2, 1) := by decide +kernel
theorem dX3_sourceRow_110 : decode cX3_sourceRow 110 = .ok (.if_icmp .ne 36, 3) := by decide +kernel
theorem dX3_sourceRow_113 : decode cX3_sourceRow 113 = .ok (.iload_n 2, 1) := by decide +kernel
theorem dX3_sourceRow_114 : decode cX3_sourceRow 114 = .ok (.iload 7, 2) := by decide +kernel
theorem dX3_sourceRow_116 : decode cX3_sourceRow 116 = .ok (.iconst 1, 1) := by decide +kernel
theorem dX3_sourceRow_117 : decode cX3_sourceRow 117 = .ok (.iadd, 1) := by decide +kernel
theorem dX3_sourceRow_118 : decode cX3_sourceRow 118 = .ok (.imul, 1) := by decide +kernel
theorem dX3_sourceRow_119 : decode cX3_sourceRow 119 = .ok (.aload_n 0, 1) := by decide +kernel
theorem dX3_sourceRow_120 : decode cX3_sourceRow 120 = .ok (.getfield 23, 3) := by decide +kernel
theorem dX3_sourceRow_123 : decode cX3_sourceRow 123 = .ok (.idiv, 1) := by decide +kernel
theorem dX3_sourceRow_124 : decode cX3_sourceRow 124 = .ok (.iload_n 2, 1) := by decide +kernel
theorem dX3_sourceRow_125 : decode cX3_sourceRow 125 = .ok (.iload 7, 2) := by decide +kernel
theorem dX3_sourceRow_127 : decode cX3_sourceRow 127 = .ok (.imul, 1) := by decide +kernel
theorem dX3_sourceRow_128 : decode cX3_sourceRow 128 = .ok (.aload_n 0, 1) := by decide +kernel
theorem dX3_sourceRow_129 : decode cX3_sourceRow 129 = .ok (.getfield 23, 3) := by decide +kernel
theorem dX3_sourceRow_132 : decode cX3_sourceRow 132 = .ok (.idiv, 1) := by decide +kernel
theorem dX3_sourceRow_133 : decode cX3_sourceRow 133 = .ok (.if_icmp .le 7, 3) := by decide +kernel
theorem dX3_sourceRow_136 : decode cX3_sourceRow 136 = .ok (.iconst 1, 1) := by decide +kernel
theorem dX3_sourceRow_137 : decode cX3_sourceRow 137 = .ok (.goto 4, 3) := by decide +kernel
theorem dX3_sourceRow_140 : decode cX3_sourceRow 140 = .ok (.iconst 0, 1) := by decide +kernel
theorem dX3_sourceRow_141 : decode cX3_sourceRow 141 = .ok (.istore 8, 2) := by decide +kernel
theorem dX3_sourceRow_143 : decode cX3_sourceRow 143 = .ok (.goto 67, 3) := by decide +kernel
theorem dX3_sourceRow_146 : decode cX3_sourceRow 146 = .ok (.iload 7, 2) := by decide +kernel
theorem dX3_sourceRow_148 : decode cX3_sourceRow 148 = .ok (.aload_n 0, 1) := by decide +kernel
theorem dX3_sourceRow_149 : decode cX3_sourceRow 149 = .ok (.getfield 23, 3) := by decide +kernel
theorem dX3_sourceRow_152 : decode cX3_sourceRow 152 = .ok (.iconst 1, 1) := by decide +kernel
theorem dX3_sourceRow_153 : decode cX3_sourceRow 153 = .ok (.isub, 1) := by decide +kernel
theorem dX3_sourceRow_154 : decode cX3_sourceRow 154 = .ok (.if_icmp .ne 19, 3) := by decide +kernel
theorem dX3_sourceRow_157 : decode cX3_sourceRow 157 = .ok (.aload_n 0, 1) := by decide +kernel
theorem dX3_sourceRow_158 : decode cX3_sourceRow 158 = .ok (.getfield 23, 3) := by decide +kernel
theorem dX3_sourceRow_161 : decode cX3_sourceRow 161 = .ok (.iload_n 2, 1) := by decide +kernel
theorem dX3_sourceRow_162 : decode cX3_sourceRow 162 = .ok (.if_icmp .gt 7, 3) := by decide +kernel
theorem dX3_sourceRow_165 : decode cX3_sourceRow 165 = .ok (.iconst 1, 1) := by decide +kernel
theorem dX3_sourceRow_166 : decode cX3_sourceRow 166 = .ok (.goto 18, 3) := by decide +kernel
theorem dX3_sourceRow_169 : decode cX3_sourceRow 169 = .ok (.iconst 0, 1) := by decide +kernel
theorem dX3_sourceRow_170 : decode cX3_sourceRow 170 = .ok (.goto 14, 3) := by decide +kernel
theorem dX3_sourceRow_173 : decode cX3_sourceRow 173 = .ok (.iload 6, 2) := by decide +kernel
theorem dX3_sourceRow_175 : decode cX3_sourceRow 175 = .ok (.iload_n 2, 1) := by decide +kernel
theorem dX3_sourceRow_176 : decode cX3_sourceRow 176 = .ok (.if_icmp .gt 7, 3) := by decide +kernel
theorem dX3_sourceRow_179 : decode cX3_sourceRow 179 = .ok (.iconst 1, 1) := by decide +kernel
theorem dX3_sourceRow_180 : decode cX3_sourceRow 180 = .ok (.goto 4, 3) := by decide +kernel
theorem dX3_sourceRow_183 : decode cX3_sourceRow 183 = .ok (.iconst 0, 1) := by decide +kernel
theorem dX3_sourceRow_184 : decode cX3_sourceRow 184 = .ok (.istore 8, 2) := by decide +kernel
theorem dX3_sourceRow_186 : decode cX3_sourceRow 186 = .ok (.iload 6, 2) := by decide +kernel
theorem dX3_sourceRow_188 : decode cX3_sourceRow 188 = .ok (.iconst 2, 1) := by decide +kernel
theorem dX3_sourceRow_189 : decode cX3_sourceRow 189 = .ok (.irem, 1) := by decide +kernel
theorem dX3_sourceRow_190 : decode cX3_sourceRow 190 = .ok (.iconst 1, 1) := by decide +kernel
theorem dX3_sourceRow_191 : decode cX3_sourceRow 191 = .ok (.if_icmp .ne 13, 3) := by decide +kernel
theorem dX3_sourceRow_194 : decode cX3_sourceRow 194 = .ok (.iload 6, 2) := by decide +kernel
theorem dX3_sourceRow_196 : decode cX3_sourceRow 196 = .ok (.iconst 2, 1) := by decide +kernel
theorem dX3_sourceRow_197 : decode cX3_sourceRow 197 = .ok (.idiv, 1) := by decide +kernel
theorem dX3_sourceRow_198 : decode cX3_sourceRow 198 = .ok (.iload 5, 2) := by decide +kernel
theorem dX3_sourceRow_200 : decode cX3_sourceRow 200 = .ok (.ixor, 1) := by decide +kernel
theorem dX3_sourceRow_201 : decode cX3_sourceRow 201 = .ok (.goto 7, 3) := by decide +kernel
theorem dX3_sourceRow_204 : decode cX3_sourceRow 204 = .ok (.iload 6, 2) := by decide +kernel
theorem dX3_sourceRow_206 : decode cX3_sourceRow 206 = .ok (.iconst 2, 1) := by decide +kernel
theorem dX3_sourceRow_207 : decode cX3_sourceRow 207 = .ok (.idiv, 1) := by decide +kernel
theorem dX3_sourceRow_208 : decode cX3_sourceRow 208 = .ok (.istore 6, 2) := by decide +kernel
theorem dX3_sourceRow_210 : decode cX3_sourceRow 210 = .ok (.lload_n 3, 1) := by decide +kernel
theorem dX3_sourceRow_211 : decode cX3_sourceRow 211 = .ok (.iload 8, 2) := by decide +kernel
theorem dX3_sourceRow_213 : decode cX3_sourceRow 213 = .ok (.ifCond .eq 10, 3) := by decide +kernel
theorem dX3_sourceRow_216 : decode cX3_sourceRow 216 = .ok (.lconst 1, 1) := by decide +kernel
theorem dX3_sourceRow_217 : decode cX3_sourceRow 217 = .ok (.iload 7, 2) := by decide +kernel
theorem dX3_sourceRow_219 : decode cX3_sourceRow 219 = .ok (.lshl, 1) := by decide +kernel
theorem dX3_sourceRow_220 : decode cX3_sourceRow 220 = .ok (.goto 4, 3) := by decide +kernel
theorem dX3_sourceRow_223 : decode cX3_sourceRow 223 = .ok (.lconst 0, 1) := by decide +kernel
theorem dX3_sourceRow_224 : decode cX3_sourceRow 224 = .ok (.lor, 1) := by decide +kernel
theorem dX3_sourceRow_225 : decode cX3_sourceRow 225 = .ok (.lstore_n 3, 1) := by decide +kernel
theorem dX3_sourceRow_226 : decode cX3_sourceRow 226 = .ok (.iinc 7 1, 3) := by decide +kernel
theorem dX3_sourceRow_229 : decode cX3_sourceRow 229 = .ok (.goto (-175), 3) := by decide +kernel
theorem dX3_sourceRow_232 : decode cX3_sourceRow 232 = .ok (.lload_n 3, 1) := by decide +kernel
theorem dX3_sourceRow_233 : decode cX3_sourceRow 233 = .ok (.lreturn, 1) := by decide +kernel
set_option maxRecDepth 20000 in
theorem ggX3_isSource_X3_in : GoodIn wsX3_isSource wsX3_in := goodIn_r _ [6] (by decide +kernel) (by decide +kernel)
set_option maxRecDepth 20000 in
theorem gX3_isSource_X3_in : GoodIn wsX3_isSource (va_wsS RX3 35 yX3_in wsX3_in) := goodIn_app (goodIn_of _ (by decide +kernel)) ggX3_isSource_X3_in
theorem dX3_isSource_0 : decode cX3_isSource 0 = .ok (.iload_n 1, 1) := by decide +kernel
theorem dX3_isSource_1 : decode cX3_isSource 1 = .ok (.i2l, 1) := by decide +kernel
theorem dX3_isSource_2 : decode cX3_isSource 2 = .ok (.lconst 0, 1) := by decide +kernel
theorem dX3_isSource_3 : decode cX3_isSource 3 = .ok (.ldc2_w 47, 3) := by decide +kernel
theorem dX3_isSource_6 : decode cX3_isSource 6 = .ok (.invokestatic 35, 3) := by decide +kernel
theorem dX3_isSource_9 : decode cX3_isSource 9 = .ok (.ifCond .eq 21, 3) := by decide +kernel
theorem dX3_isSource_12 : decode cX3_isSource 12 = .ok (.iload_n 2, 1) := by decide +kernel
end
section
theorem dX3_isSource_13 : decode cX3_isSource 13 = .ok (.i2l, 1) := by decide +kernel
theorem dX3_isSource_14 : decode cX3_isSource 14 = .ok (.lconst 0, 1) := by decide +kernel
theorem dX3_isSource_15 : decode cX3_isSource 15 = .ok (.aload_n 0, 1) := by decide +kernel
theorem dX3_isSource_16 : decode cX3_isSource 16 = .ok (.getfield 23, 3) := by decide +kernel
theorem dX3_isSource_19 : decode cX3_isSource 19 = .ok (.i2l, 1) := by decide +kernel
theorem dX3_isSource_20 : decode cX3_isSource 20 = .ok (.invokestatic 35, 3) := by decide +kernel
theorem dX3_isSource_23 : decode cX3_isSource 23 = .ok (.ifCond .eq 7, 3) := by decide +kernel
theorem dX3_isSource_26 : decode cX3_isSource 26 = .ok (.iconst 1, 1) := by decide +kernel
theorem dX3_isSource_27 : decode cX3_isSource 27 = .ok (.goto 4, 3) := by decide +kernel
theorem dX3_isSource_30 : decode cX3_isSource 30 = .ok (.iconst 0, 1) := by decide +kernel
theorem dX3_isSource_31 : decode cX3_isSource 31 = .ok (.ireturn, 1) := by decide +kernel
set_option maxRecDepth 20000 in
theorem ggX3_source_X3_isStream : GoodIn wsX3_source wsX3_isStream := goodIn_r _ [5, 6, 7, 8, 4, 9] (by decide +kernel) (by decide +kernel)
set_option maxRecDepth 20000 in
theorem gX3_source_X3_isStream : GoodIn wsX3_source (va_wsS RX3 49 yX3_isStream wsX3_isStream) := goodIn_app (goodIn_of _ (by decide +kernel)) ggX3_source_X3_isStream
set_option maxRecDepth 20000 in
theorem ggX3_source_X3_isSource : GoodIn wsX3_source wsX3_isSource := goodIn_r _ [13, 14, 15, 7, 8, 4, 9, 32, 33, 34, 35, 36, 37, 38, 39, 40, 41, 42, 43, 44] (by decide +kernel) (by decide +kernel)
set_option maxRecDepth 20000 in
theorem gX3_source_X3_isSource : GoodIn wsX3_source (wsV RX3 53 RX3 yX3_isSource wsX3_isSource) := goodIn_app (goodIn_of _ (by decide +kernel)) ggX3_source_X3_isSource
set_option maxRecDepth 20000 in
theorem ggX3_source_X3_sourceRow : GoodIn wsX3_source wsX3_sourceRow := goodIn_r _ [19, 15, 20, 21, 22, 4, 23, 32, 33, 34, 35, 36, 37, 38, 39, 40, 41, 42, 43, 44] (by decide +kernel) (by decide +kernel)
set_option maxRecDepth 20000 in
theorem gX3_source_X3_sourceRow : GoodIn wsX3_source (wsV RX3 57 RX3 yX3_sourceRow wsX3_sourceRow) := goodIn_app (goodIn_of _ (by decide +kernel)) ggX3_source_X3_sourceRow
set_option maxRecDepth 20000 in
theorem ggX3_source_X3_onesOf : GoodIn wsX3_source wsX3_onesOf := goodIn_r _ [27, 15, 28, 29, 30, 4, 31, 32, 33, 34, 35, 36, 37, 38, 39, 40, 41, 42, 43, 44] (by decide +kernel) (by decide +kernel)
set_option maxRecDepth 20000 in
theorem gX3_source_X3_onesOf : GoodIn wsX3_source (wsV RX3 61 RX3 yX3_onesOf wsX3_onesOf) := goodIn_app (goodIn_of _ (by decide +kernel)) ggX3_source_X3_onesOf
theorem dX3_source_0 : decode cX3_source 0 = .ok (.iload_n 1, 1) := by decide +kernel
theorem dX3_source_1 : decode cX3_source 1 = .ok (.invokestatic 49, 3) := by decide +kernel
theorem dX3_source_4 : decode cX3_source 4 = .ok (.ifCond .ne 6, 3) := by decide +kernel
theorem dX3_source_7 : decode cX3_source 7 = .ok (.bipush (-101), 2) := by decide +kernel
theorem dX3_source_9 : decode cX3_source 9 = .ok (.ireturn, 1) := by decide +kernel
theorem dX3_source_10 : decode cX3_source 10 = .ok (.aload_n 0, 1) := by decide +kernel
theorem dX3_source_11 : decode cX3_source 11 = .ok (.iload_n 2, 1) := by decide +kernel
theorem dX3_source_12 : decode cX3_source 12 = .ok (.iload_n 3, 1) := by decide +kernel
theorem dX3_source_13 : decode cX3_source 13 = .ok (.invokevirtual 53, 3) := by decide +kernel
theorem dX3_source_16 : decode cX3_source 16 = .ok (.ifCond .ne 6, 3) := by decide +kernel
theorem dX3_source_19 : decode cX3_source 19 = .ok (.bipush (-102), 2) := by decide +kernel
theorem dX3_source_21 : decode cX3_source 21 = .ok (.ireturn, 1) := by decide +kernel
theorem dX3_source_22 : decode cX3_source 22 = .ok (.aload_n 0, 1) := by decide +kernel
theorem dX3_source_23 : decode cX3_source 23 = .ok (.getfield 7, 3) := by decide +kernel
theorem dX3_source_26 : decode cX3_source 26 = .ok (.iload_n 1, 1) := by decide +kernel
theorem dX3_source_27 : decode cX3_source 27 = .ok (.aload_n 0, 1) := by decide +kernel
theorem dX3_source_28 : decode cX3_source 28 = .ok (.iload_n 2, 1) := by decide +kernel
theorem dX3_source_29 : decode cX3_source 29 = .ok (.iload_n 3, 1) := by decide +kernel
theorem dX3_source_30 : decode cX3_source 30 = .ok (.invokevirtual 57, 3) := by decide +kernel
theorem dX3_source_33 : decode cX3_source 33 = .ok (.lastore, 1) := by decide +kernel
theorem dX3_source_34 : decode cX3_source 34 = .ok (.aload_n 0, 1) := by decide +kernel
theorem dX3_source_35 : decode cX3_source 35 = .ok (.aload_n 0, 1) := by decide +kernel
theorem dX3_source_36 : decode cX3_source 36 = .ok (.getfield 7, 3) := by decide +kernel
theorem dX3_source_39 : decode cX3_source 39 = .ok (.iload_n 1, 1) := by decide +kernel
theorem dX3_source_40 : decode cX3_source 40 = .ok (.laload, 1) := by decide +kernel
theorem dX3_source_41 : decode cX3_source 41 = .ok (.invokevirtual 61, 3) := by decide +kernel
theorem dX3_source_44 : decode cX3_source 44 = .ok (.ireturn, 1) := by decide +kernel
set_option maxRecDepth 20000 in
theorem ggX3_put_X3_isStream : GoodIn wsX3_put wsX3_isStream := goodIn_r _ [7, 8, 9, 10, 6, 11] (by decide +kernel) (by decide +kernel)
set_option maxRecDepth 20000 in
theorem gX3_put_X3_isStream : GoodIn wsX3_put (va_wsS RX3 49 yX3_isStream wsX3_isStream) := goodIn_app (goodIn_of _ (by decide +kernel)) ggX3_put_X3_isStream
set_option maxRecDepth 20000 in
theorem ggX3_put_X3_in : GoodIn wsX3_put wsX3_in := goodIn_r _ [11] (by decide +kernel) (by decide +kernel)
set_option maxRecDepth 20000 in
theorem gX3_put_X3_in : GoodIn wsX3_put (va_wsS RX3 35 yX3_in wsX3_in) := goodIn_app (goodIn_of _ (by decide +kernel)) ggX3_put_X3_in
set_option maxRecDepth 20000 in
theorem ggX3_put_X3_bitOf : GoodIn wsX3_put wsX3_bitOf := goodIn_r _ [15] (by decide +kernel) (by decide +kernel)
set_option maxRecDepth 20000 in
theorem gX3_put_X3_bitOf : GoodIn wsX3_put (wsV RX3 39 RX3 yX3_bitOf wsX3_bitOf) := goodIn_app (goodIn_of _ (by decide +kernel)) ggX3_put_X3_bitOf
theorem dX3_put_0 : decode cX3_put 0 = .ok (.iload_n 1, 1) := by decide +kernel
theorem dX3_put_1 : decode cX3_put 1 = .ok (.invokestatic 49, 3) := by decide +kernel
theorem dX3_put_4 : decode cX3_put 4 = .ok (.ifCond .eq 19, 3) := by decide +kernel
theorem dX3_put_7 : decode cX3_put 7 = .ok (.iload_n 2, 1) := by decide +kernel
theorem dX3_put_8 : decode cX3_put 8 = .ok (.i2l, 1) := by decide +kernel
theorem dX3_put_9 : decode cX3_put 9 = .ok (.lconst 0, 1) := by decide +kernel
theorem dX3_put_10 : decode cX3_put 10 = .ok (.aload_n 0, 1) := by decide +kernel
theorem dX3_put_11 : decode cX3_put 11 = .ok (.getfield 23, 3) := by decide +kernel
theorem dX3_put_14 : decode cX3_put 14 = .ok (.iconst 1, 1) := by decide +kernel
theorem dX3_put_15 : decode cX3_put 15 = .ok (.isub, 1) := by decide +kernel
theorem dX3_put_16 : decode cX3_put 16 = .ok (.i2l, 1) := by decide +kernel
theorem dX3_put_17 : decode cX3_put 17 = .ok (.invokestatic 35, 3) := by decide +kernel
theorem dX3_put_20 : decode cX3_put 20 = .ok (.ifCond .ne 6, 3) := by decide +kernel
theorem dX3_put_23 : decode cX3_put 23 = .ok (.bipush (-101), 2) := by decide +kernel
theorem dX3_put_25 : decode cX3_put 25 = .ok (.ireturn, 1) := by decide +kernel
theorem dX3_put_26 : decode cX3_put 26 = .ok (.aload_n 0, 1) := by decide +kernel
theorem dX3_put_27 : decode cX3_put 27 = .ok (.aload_n 0, 1) := by decide +kernel
theorem dX3_put_28 : decode cX3_put 28 = .ok (.getfield 7, 3) := by decide +kernel
theorem dX3_put_31 : decode cX3_put 31 = .ok (.iload_n 1, 1) := by decide +kernel
theorem dX3_put_32 : decode cX3_put 32 = .ok (.laload, 1) := by decide +kernel
theorem dX3_put_33 : decode cX3_put 33 = .ok (.iload_n 2, 1) := by decide +kernel
theorem dX3_put_34 : decode cX3_put 34 = .ok (.invokevirtual 39, 3) := by decide +kernel
theorem dX3_put_37 : decode cX3_put 37 = .ok (.istore 4, 2) := by decide +kernel
theorem dX3_put_39 : decode cX3_put 39 = .ok (.aload_n 0, 1) := by decide +kernel
theorem dX3_put_40 : decode cX3_put 40 = .ok (.getfield 7, 3) := by decide +kernel
theorem dX3_put_43 : decode cX3_put 43 = .ok (.iload_n 1, 1) := by decide +kernel
theorem dX3_put_44 : decode cX3_put 44 = .ok (.iload_n 3, 1) := by decide +kernel
theorem dX3_put_45 : decode cX3_put 45 = .ok (.ifCond .eq 16, 3) := by decide +kernel
theorem dX3_put_48 : decode cX3_put 48 = .ok (.aload_n 0, 1) := by decide +kernel
theorem dX3_put_49 : decode cX3_put 49 = .ok (.getfield 7, 3) := by decide +kernel
theorem dX3_put_52 : decode cX3_put 52 = .ok (.iload_n 1, 1) := by decide +kernel
theorem dX3_put_53 : decode cX3_put 53 = .ok (.laload, 1) := by decide +kernel
theorem dX3_put_54 : decode cX3_put 54 = .ok (.lconst 1, 1) := by decide +kernel
theorem dX3_put_55 : decode cX3_put 55 = .ok (.iload_n 2, 1) := by decide +kernel
theorem dX3_put_56 : decode cX3_put 56 = .ok (.lshl, 1) := by decide +kernel
theorem dX3_put_57 : decode cX3_put 57 = .ok (.lor, 1) := by decide +kernel
theorem dX3_put_58 : decode cX3_put 58 = .ok (.goto 17, 3) := by decide +kernel
theorem dX3_put_61 : decode cX3_put 61 = .ok (.aload_n 0, 1) := by decide +kernel
theorem dX3_put_62 : decode cX3_put 62 = .ok (.getfield 7, 3) := by decide +kernel
theorem dX3_put_65 : decode cX3_put 65 = .ok (.iload_n 1, 1) := by decide +kernel
theorem dX3_put_66 : decode cX3_put 66 = .ok (.laload, 1) := by decide +kernel
theorem dX3_put_67 : decode cX3_put 67 = .ok (.lconst 1, 1) := by decide +kernel
theorem dX3_put_68 : decode cX3_put 68 = .ok (.iload_n 2, 1) := by decide +kernel
theorem dX3_put_69 : decode cX3_put 69 = .ok (.lshl, 1) := by decide +kernel
theorem dX3_put_70 : decode cX3_put 70 = .ok (.ldc2_w 65, 3) := by decide +kernel
theorem dX3_put_73 : decode cX3_put 73 = .ok (.lxor, 1) := by decide +kernel
theorem dX3_put_74 : decode cX3_put 74 = .ok (.land, 1) := by decide +kernel
theorem dX3_put_75 : decode cX3_put 75 = .ok (.lastore, 1) := by decide +kernel
theorem dX3_put_76 : decode cX3_put 76 = .ok (.iload 4, 2) := by decide +kernel
theorem dX3_put_78 : decode cX3_put 78 = .ok (.ireturn, 1) := by decide +kernel
set_option maxRecDepth 20000 in
theorem ggX3_bit_X3_isStream : GoodIn wsX3_bit wsX3_isStream := goodIn_r _ [6, 7, 8, 9, 5, 10] (by decide +kernel) (by decide +kernel)
set_option maxRecDepth 20000 in
theorem gX3_bit_X3_isStream : GoodIn wsX3_bit (va_wsS RX3 49 yX3_isStream wsX3_isStream) := goodIn_app (goodIn_of _ (by decide +kernel)) ggX3_bit_X3_isStream
set_option maxRecDepth 20000 in
theorem ggX3_bit_X3_in : GoodIn wsX3_bit wsX3_in := goodIn_r _ [10] (by decide +kernel) (by decide +kernel)
set_option maxRecDepth 20000 in
theorem gX3_bit_X3_in : GoodIn wsX3_bit (va_wsS RX3 35 yX3_in wsX3_in) := goodIn_app (goodIn_of _ (by decide +kernel)) ggX3_bit_X3_in
set_option maxRecDepth 20000 in
theorem ggX3_bit_X3_bitOf : GoodIn wsX3_bit wsX3_bitOf := goodIn_r _ [14] (by decide +kernel) (by decide +kernel)
set_option maxRecDepth 20000 in
theorem gX3_bit_X3_bitOf : GoodIn wsX3_bit (wsV RX3 39 RX3 yX3_bitOf wsX3_bitOf) := goodIn_app (goodIn_of _ (by decide +kernel)) ggX3_bit_X3_bitOf
theorem dX3_bit_0 : decode cX3_bit 0 = .ok (.iload_n 1, 1) := by decide +kernel
theorem dX3_bit_1 : decode cX3_bit 1 = .ok (.invokestatic 49, 3) := by decide +kernel
theorem dX3_bit_4 : decode cX3_bit 4 = .ok (.ifCond .eq 33, 3) := by decide +kernel
theorem dX3_bit_7 : decode cX3_bit 7 = .ok (.iload_n 2, 1) := by decide +kernel
theorem dX3_bit_8 : decode cX3_bit 8 = .ok (.i2l, 1) := by decide +kernel
theorem dX3_bit_9 : decode cX3_bit 9 = .ok (.lconst 0, 1) := by decide +kernel
theorem dX3_bit_10 : decode cX3_bit 10 = .ok (.aload_n 0, 1) := by decide +kernel
theorem dX3_bit_11 : decode cX3_bit 11 = .ok (.getfield 23, 3) := by decide +kernel
theorem dX3_bit_14 : decode cX3_bit 14 = .ok (.iconst 1, 1) := by decide +kernel
theorem dX3_bit_15 : decode cX3_bit 15 = .ok (.isub, 1) := by decide +kernel
theorem dX3_bit_16 : decode cX3_bit 16 = .ok (.i2l, 1) := by decide +kernel
theorem dX3_bit_17 : decode cX3_bit 17 = .ok (.invokestatic 35, 3) := by decide +kernel
theorem dX3_bit_20 : decode cX3_bit 20 = .ok (.ifCond .eq 17, 3) := by decide +kernel
theorem dX3_bit_23 : decode cX3_bit 23 = .ok (.aload_n 0, 1) := by decide +kernel
theorem dX3_bit_24 : decode cX3_bit 24 = .ok (.aload_n 0, 1) := by decide +kernel
theorem dX3_bit_25 : decode cX3_bit 25 = .ok (.getfield 7, 3) := by decide +kernel
theorem dX3_bit_28 : decode cX3_bit 28 = .ok (.iload_n 1, 1) := by decide +kernel
theorem dX3_bit_29 : decode cX3_bit 29 = .ok (.laload, 1) := by decide +kernel
theorem dX3_bit_30 : decode cX3_bit 30 = .ok (.iload_n 2, 1) := by decide +kernel
theorem dX3_bit_31 : decode cX3_bit 31 = .ok (.invokevirtual 39, 3) := by decide +kernel
theorem dX3_bit_34 : decode cX3_bit 34 = .ok (.goto 5, 3) := by decide +kernel
theorem dX3_bit_37 : decode cX3_bit 37 = .ok (.bipush (-101), 2) := by decide +kernel
theorem dX3_bit_39 : decode cX3_bit 39 = .ok (.ireturn, 1) := by decide +kernel
set_option maxRecDepth 20000 in
theorem ggX3_ones_X3_isStream : GoodIn wsX3_ones wsX3_isStream := goodIn_r _ [5, 6, 7, 8, 4, 9] (by decide +kernel) (by decide +kernel)
set_option maxRecDepth 20000 in
theorem gX3_ones_X3_isStream : GoodIn wsX3_ones (va_wsS RX3 49 yX3_isStream wsX3_isStream) := goodIn_app (goodIn_of _ (by decide +kernel)) ggX3_ones_X3_isStream
set_option maxRecDepth 20000 in
theorem ggX3_ones_X3_onesOf : GoodIn wsX3_ones wsX3_onesOf := goodIn_r _ [13, 14, 15, 16, 17, 4, 18, 19, 20, 21, 22, 23, 24, 25, 26, 27, 28, 29, 30, 31] (by decide +kernel) (by decide +kernel)
set_option maxRecDepth 20000 in
theorem gX3_ones_X3_onesOf : GoodIn wsX3_ones (wsV RX3 61 RX3 yX3_onesOf wsX3_onesOf) := goodIn_app (goodIn_of _ (by decide +kernel)) ggX3_ones_X3_onesOf
theorem dX3_ones_0 : decode cX3_ones 0 = .ok (.iload_n 1, 1) := by decide +kernel
theorem dX3_ones_1 : decode cX3_ones 1 = .ok (.invokestatic 49, 3) := by decide +kernel
theorem dX3_ones_4 : decode cX3_ones 4 = .ok (.ifCond .eq 16, 3) := by decide +kernel
theorem dX3_ones_7 : decode cX3_ones 7 = .ok (.aload_n 0, 1) := by decide +kernel
theorem dX3_ones_8 : decode cX3_ones 8 = .ok (.aload_n 0, 1) := by decide +kernel
theorem dX3_ones_9 : decode cX3_ones 9 = .ok (.getfield 7, 3) := by decide +kernel
theorem dX3_ones_12 : decode cX3_ones 12 = .ok (.iload_n 1, 1) := by decide +kernel
theorem dX3_ones_13 : decode cX3_ones 13 = .ok (.laload, 1) := by decide +kernel
theorem dX3_ones_14 : decode cX3_ones 14 = .ok (.invokevirtual 61, 3) := by decide +kernel
theorem dX3_ones_17 : decode cX3_ones 17 = .ok (.goto 5, 3) := by decide +kernel
theorem dX3_ones_20 : decode cX3_ones 20 = .ok (.bipush (-101), 2) := by decide +kernel
theorem dX3_ones_22 : decode cX3_ones 22 = .ok (.ireturn, 1) := by decide +kernel
theorem dX3_gated_0 : decode cX3_gated 0 = .ok (.iload_n 0, 1) := by decide +kernel
theorem dX3_gated_1 : decode cX3_gated 1 = .ok (.tableswitch 103 0 5 #[39, 43, 55, 66, 77, 92], 39) := by decide +kernel
theorem dX3_gated_40 : decode cX3_gated 40 = .ok (.iload_n 1, 1) := by decide +kernel
theorem dX3_gated_41 : decode cX3_gated 41 = .ok (.iload_n 2, 1) := by decide +kernel
theorem dX3_gated_42 : decode cX3_gated 42 = .ok (.imul, 1) := by decide +kernel
theorem dX3_gated_43 : decode cX3_gated 43 = .ok (.ireturn, 1) := by decide +kernel
theorem dX3_gated_44 : decode cX3_gated 44 = .ok (.iload_n 1, 1) := by decide +kernel
theorem dX3_gated_45 : decode cX3_gated 45 = .ok (.iload_n 2, 1) := by decide +kernel
theorem dX3_gated_46 : decode cX3_gated 46 = .ok (.iadd, 1) := by decide +kernel
theorem dX3_gated_47 : decode cX3_gated 47 = .ok (.ifCond .le 7, 3) := by decide +kernel
theorem dX3_gated_50 : decode cX3_gated 50 = .ok (.iconst 1, 1) := by decide +kernel
theorem dX3_gated_51 : decode cX3_gated 51 = .ok (.goto 4, 3) := by decide +kernel
theorem dX3_gated_54 : decode cX3_gated 54 = .ok (.iconst 0, 1) := by decide +kernel
theorem dX3_gated_55 : decode cX3_gated 55 = .ok (.ireturn, 1) := by decide +kernel
theorem dX3_gated_56 : decode cX3_gated 56 = .ok (.iload_n 1, 1) := by decide +kernel
theorem dX3_gated_57 : decode cX3_gated 57 = .ok (.iload_n 2, 1) := by decide +kernel
theorem dX3_gated_58 : decode cX3_gated 58 = .ok (.if_icmp .ne 7, 3) := by decide +kernel
theorem dX3_gated_61 : decode cX3_gated 61 = .ok (.iconst 0, 1) := by decide +kernel
theorem dX3_gated_62 : decode cX3_gated 62 = .ok (.goto 4, 3) := by decide +kernel
theorem dX3_gated_65 : decode cX3_gated 65 = .ok (.iconst 1, 1) := by decide +kernel
theorem dX3_gated_66 : decode cX3_gated 66 = .ok (.ireturn, 1) := by decide +kernel
theorem dX3_gated_67 : decode cX3_gated 67 = .ok (.iload_n 1, 1) := by decide +kernel
theorem dX3_gated_68 : decode cX3_gated 68 = .ok (.iload_n 2, 1) := by decide +kernel
theorem dX3_gated_69 : decode cX3_gated 69 = .ok (.if_icmp .ne 7, 3) := by decide +kernel
theorem dX3_gated_72 : decode cX3_gated 72 = .ok (.iconst 1, 1) := by decide +kernel
theorem dX3_gated_73 : decode cX3_gated 73 = .ok (.goto 4, 3) := by decide +kernel
theorem dX3_gated_76 : decode cX3_gated 76 = .ok (.iconst 0, 1) := by decide +kernel
theorem dX3_gated_77 : decode cX3_gated 77 = .ok (.ireturn, 1) := by decide +kernel
theorem dX3_gated_78 : decode cX3_gated 78 = .ok (.iload_n 1, 1) := by decide +kernel
theorem dX3_gated_79 : decode cX3_gated 79 = .ok (.iconst 1, 1) := by decide +kernel
theorem dX3_gated_80 : decode cX3_gated 80 = .ok (.if_icmp .ne 11, 3) := by decide +kernel
theorem dX3_gated_83 : decode cX3_gated 83 = .ok (.iload_n 2, 1) := by decide +kernel
theorem dX3_gated_84 : decode cX3_gated 84 = .ok (.ifCond .ne 7, 3) := by decide +kernel
theorem dX3_gated_87 : decode cX3_gated 87 = .ok (.iconst 1, 1) := by decide +kernel
theorem dX3_gated_88 : decode cX3_gated 88 = .ok (.goto 4, 3) := by decide +kernel
theorem dX3_gated_91 : decode cX3_gated 91 = .ok (.iconst 0, 1) := by decide +kernel
theorem dX3_gated_92 : decode cX3_gated 92 = .ok (.ireturn, 1) := by decide +kernel
theorem dX3_gated_93 : decode cX3_gated 93 = .ok (.iload_n 3, 1) := by decide +kernel
theorem dX3_gated_94 : decode cX3_gated 94 = .ok (.iconst 1, 1) := by decide +kernel
theorem dX3_gated_95 : decode cX3_gated 95 = .ok (.if_icmp .ne 7, 3) := by decide +kernel
theorem dX3_gated_98 : decode cX3_gated 98 = .ok (.iload_n 2, 1) := by decide +kernel
theorem dX3_gated_99 : decode cX3_gated 99 = .ok (.goto 4, 3) := by decide +kernel
theorem dX3_gated_102 : decode cX3_gated 102 = .ok (.iload_n 1, 1) := by decide +kernel
theorem dX3_gated_103 : decode cX3_gated 103 = .ok (.ireturn, 1) := by decide +kernel
theorem dX3_gated_104 : decode cX3_gated 104 = .ok (.iload_n 1, 1) := by decide +kernel
theorem dX3_gated_105 : decode cX3_gated 105 = .ok (.iload_n 2, 1) := by decide +kernel
theorem dX3_gated_106 : decode cX3_gated 106 = .ok (.iadd, 1) := by decide +kernel
theorem dX3_gated_107 : decode cX3_gated 107 = .ok (.iload_n 3, 1) := by decide +kernel
theorem dX3_gated_108 : decode cX3_gated 108 = .ok (.iadd, 1) := by decide +kernel
theorem dX3_gated_109 : decode cX3_gated 109 = .ok (.iconst 1, 1) := by decide +kernel
theorem dX3_gated_110 : decode cX3_gated 110 = .ok (.if_icmp .le 7, 3) := by decide +kernel
theorem dX3_gated_113 : decode cX3_gated 113 = .ok (.iconst 1, 1) := by decide +kernel
theorem dX3_gated_114 : decode cX3_gated 114 = .ok (.goto 4, 3) := by decide +kernel
theorem dX3_gated_117 : decode cX3_gated 117 = .ok (.iconst 0, 1) := by decide +kernel
theorem dX3_gated_118 : decode cX3_gated 118 = .ok (.ireturn, 1) := by decide +kernel
set_option maxRecDepth 20000 in
theorem ggX3_gateRow_X3_bitOf : GoodIn wsX3_gateRow wsX3_bitOf := goodIn_r _ [6] (by decide +kernel) (by decide +kernel)
set_option maxRecDepth 20000 in
theorem gX3_gateRow_X3_bitOf : GoodIn wsX3_gateRow (wsV RX3 39 RX3 yX3_bitOf wsX3_bitOf) := goodIn_app (goodIn_of _ (by decide +kernel)) ggX3_gateRow_X3_bitOf
set_option maxRecDepth 20000 in
theorem ggX3_gateRow_X3_gated : GoodIn wsX3_gateRow wsX3_gated := goodIn_r _ [9] (by decide +kernel) (by decide +kernel)
set_option maxRecDepth 20000 in
theorem gX3_gateRow_X3_gated : GoodIn wsX3_gateRow (va_wsS RX3 67 yX3_gated wsX3_gated) := goodIn_app (goodIn_of _ (by decide +kernel)) ggX3_gateRow_X3_gated
theorem dX3_gateRow_0 : decode cX3_gateRow 0 = .ok (.lconst 0, 1) := by decide +kernel
theorem dX3_gateRow_1 : decode cX3_gateRow 1 = .ok (.lstore 8, 2) := by decide +kernel
theorem dX3_gateRow_3 : decode cX3_gateRow 3 = .ok (.iconst 0, 1) := by decide +kernel
theorem dX3_gateRow_4 : decode cX3_gateRow 4 = .ok (.istore 10, 2) := by decide +kernel
theorem dX3_gateRow_6 : decode cX3_gateRow 6 = .ok (.iload 10, 2) := by decide +kernel
theorem dX3_gateRow_8 : decode cX3_gateRow 8 = .ok (.aload_n 0, 1) := by decide +kernel
theorem dX3_gateRow_9 : decode cX3_gateRow 9 = .ok (.getfield 23, 3) := by decide +kernel
theorem dX3_gateRow_12 : decode cX3_gateRow 12 = .ok (.if_icmp .ge 45, 3) := by decide +kernel
theorem dX3_gateRow_15 : decode cX3_gateRow 15 = .ok (.lload 8, 2) := by decide +kernel
theorem dX3_gateRow_17 : decode cX3_gateRow 17 = .ok (.iload_n 1, 1) := by decide +kernel
theorem dX3_gateRow_18 : decode cX3_gateRow 18 = .ok (.aload_n 0, 1) := by decide +kernel
theorem dX3_gateRow_19 : decode cX3_gateRow 19 = .ok (.lload_n 2, 1) := by decide +kernel
theorem dX3_gateRow_20 : decode cX3_gateRow 20 = .ok (.iload 10, 2) := by decide +kernel
theorem dX3_gateRow_22 : decode cX3_gateRow 22 = .ok (.invokevirtual 39, 3) := by decide +kernel
theorem dX3_gateRow_25 : decode cX3_gateRow 25 = .ok (.aload_n 0, 1) := by decide +kernel
theorem dX3_gateRow_26 : decode cX3_gateRow 26 = .ok (.lload 4, 2) := by decide +kernel
theorem dX3_gateRow_28 : decode cX3_gateRow 28 = .ok (.iload 10, 2) := by decide +kernel
theorem dX3_gateRow_30 : decode cX3_gateRow 30 = .ok (.invokevirtual 39, 3) := by decide +kernel
theorem dX3_gateRow_33 : decode cX3_gateRow 33 = .ok (.aload_n 0, 1) := by decide +kernel
theorem dX3_gateRow_34 : decode cX3_gateRow 34 = .ok (.lload 6, 2) := by decide +kernel
theorem dX3_gateRow_36 : decode cX3_gateRow 36 = .ok (.iload 10, 2) := by decide +kernel
theorem dX3_gateRow_38 : decode cX3_gateRow 38 = .ok (.invokevirtual 39, 3) := by decide +kernel
theorem dX3_gateRow_41 : decode cX3_gateRow 41 = .ok (.invokestatic 67, 3) := by decide +kernel
theorem dX3_gateRow_44 : decode cX3_gateRow 44 = .ok (.i2l, 1) := by decide +kernel
theorem dX3_gateRow_45 : decode cX3_gateRow 45 = .ok (.iload 10, 2) := by decide +kernel
theorem dX3_gateRow_47 : decode cX3_gateRow 47 = .ok (.lshl, 1) := by decide +kernel
theorem dX3_gateRow_48 : decode cX3_gateRow 48 = .ok (.lor, 1) := by decide +kernel
theorem dX3_gateRow_49 : decode cX3_gateRow 49 = .ok (.lstore 8, 2) := by decide +kernel
theorem dX3_gateRow_51 : decode cX3_gateRow 51 = .ok (.iinc 10 1, 3) := by decide +kernel
theorem dX3_gateRow_54 : decode cX3_gateRow 54 = .ok (.goto (-48), 3) := by decide +kernel
theorem dX3_gateRow_57 : decode cX3_gateRow 57 = .ok (.lload 8, 2) := by decide +kernel
theorem dX3_gateRow_59 : decode cX3_gateRow 59 = .ok (.lreturn, 1) := by decide +kernel
set_option maxRecDepth 20000 in
theorem ggX3_gate_X3_in : GoodIn wsX3_gate wsX3_in := goodIn_r _ [6] (by decide +kernel) (by decide +kernel)
set_option maxRecDepth 20000 in
theorem gX3_gate_X3_in : GoodIn wsX3_gate (va_wsS RX3 35 yX3_in wsX3_in) := goodIn_app (goodIn_of _ (by decide +kernel)) ggX3_gate_X3_in
set_option maxRecDepth 20000 in
theorem ggX3_gate_X3_isStream : GoodIn wsX3_gate wsX3_isStream := goodIn_r _ [9, 10, 3, 4, 5, 6] (by decide +kernel) (by decide +kernel)
set_option maxRecDepth 20000 in
theorem gX3_gate_X3_isStream : GoodIn wsX3_gate (va_wsS RX3 49 yX3_isStream wsX3_isStream) := goodIn_app (goodIn_of _ (by decide +kernel)) ggX3_gate_X3_isStream
set_option maxRecDepth 20000 in
theorem ggX3_gate_X3_gateRow : GoodIn wsX3_gate wsX3_gateRow := goodIn_r _ [14, 15, 16, 17, 18, 5, 19, 20, 21, 22, 27, 28, 29, 30, 31, 32, 33, 34, 35, 36, 37, 38, 39] (by decide +kernel) (by decide +kernel)
set_option maxRecDepth 20000 in
theorem gX3_gate_X3_gateRow : GoodIn wsX3_gate (wsV RX3 73 RX3 yX3_gateRow wsX3_gateRow) := goodIn_app (goodIn_of _ (by decide +kernel)) ggX3_gate_X3_gateRow
set_option maxRecDepth 20000 in
theorem ggX3_gate_X3_onesOf : GoodIn wsX3_gate wsX3_onesOf := goodIn_r _ [26, 15, 16, 17, 18, 5, 19, 27, 28, 29, 30, 31, 32, 33, 34, 35, 36, 37, 38, 39] (by decide +kernel) (by decide +kernel)
set_option maxRecDepth 20000 in
theorem gX3_gate_X3_onesOf : GoodIn wsX3_gate (wsV RX3 61 RX3 yX3_onesOf wsX3_onesOf) := goodIn_app (goodIn_of _ (by decide +kernel)) ggX3_gate_X3_onesOf
theorem dX3_gate_0 : decode cX3_gate 0 = .ok (.iload_n 1, 1) := by decide +kernel
theorem dX3_gate_1 : decode cX3_gate 1 = .ok (.i2l, 1) := by decide +kernel
theorem dX3_gate_2 : decode cX3_gate 2 = .ok (.lconst 0, 1) := by decide +kernel
theorem dX3_gate_3 : decode cX3_gate 3 = .ok (.ldc2_w 71, 3) := by decide +kernel
theorem dX3_gate_6 : decode cX3_gate 6 = .ok (.invokestatic 35, 3) := by decide +kernel
theorem dX3_gate_9 : decode cX3_gate 9 = .ok (.ifCond .ne 6, 3) := by decide +kernel
theorem dX3_gate_12 : decode cX3_gate 12 = .ok (.bipush (-102), 2) := by decide +kernel
theorem dX3_gate_14 : decode cX3_gate 14 = .ok (.ireturn, 1) := by decide +kernel
theorem dX3_gate_15 : decode cX3_gate 15 = .ok (.iload 5, 2) := by decide +kernel
theorem dX3_gate_17 : decode cX3_gate 17 = .ok (.invokestatic 49, 3) := by decide +kernel
theorem dX3_gate_20 : decode cX3_gate 20 = .ok (.ifCond .eq 30, 3) := by decide +kernel
theorem dX3_gate_23 : decode cX3_gate 23 = .ok (.iload_n 2, 1) := by decide +kernel
theorem dX3_gate_24 : decode cX3_gate 24 = .ok (.invokestatic 49, 3) := by decide +kernel
theorem dX3_gate_27 : decode cX3_gate 27 = .ok (.ifCond .eq 23, 3) := by decide +kernel
theorem dX3_gate_30 : decode cX3_gate 30 = .ok (.iload_n 3, 1) := by decide +kernel
theorem dX3_gate_31 : decode cX3_gate 31 = .ok (.invokestatic 49, 3) := by decide +kernel
theorem dX3_gate_34 : decode cX3_gate 34 = .ok (.ifCond .eq 16, 3) := by decide +kernel
theorem dX3_gate_37 : decode cX3_gate 37 = .ok (.iload_n 1, 1) := by decide +kernel
theorem dX3_gate_38 : decode cX3_gate 38 = .ok (.iconst 4, 1) := by decide +kernel
theorem dX3_gate_39 : decode cX3_gate 39 = .ok (.if_icmp .le 14, 3) := by decide +kernel
theorem dX3_gate_42 : decode cX3_gate 42 = .ok (.iload 4, 2) := by decide +kernel
theorem dX3_gate_44 : decode cX3_gate 44 = .ok (.invokestatic 49, 3) := by decide +kernel
theorem dX3_gate_47 : decode cX3_gate 47 = .ok (.ifCond .ne 6, 3) := by decide +kernel
theorem dX3_gate_50 : decode cX3_gate 50 = .ok (.bipush (-101), 2) := by decide +kernel
theorem dX3_gate_52 : decode cX3_gate 52 = .ok (.ireturn, 1) := by decide +kernel
theorem dX3_gate_53 : decode cX3_gate 53 = .ok (.aload_n 0, 1) := by decide +kernel
theorem dX3_gate_54 : decode cX3_gate 54 = .ok (.getfield 7, 3) := by decide +kernel
theorem dX3_gate_57 : decode cX3_gate 57 = .ok (.iload 5, 2) := by decide +kernel
theorem dX3_gate_59 : decode cX3_gate 59 = .ok (.aload_n 0, 1) := by decide +kernel
theorem dX3_gate_60 : decode cX3_gate 60 = .ok (.iload_n 1, 1) := by decide +kernel
theorem dX3_gate_61 : decode cX3_gate 61 = .ok (.aload_n 0, 1) := by decide +kernel
theorem dX3_gate_62 : decode cX3_gate 62 = .ok (.getfield 7, 3) := by decide +kernel
theorem dX3_gate_65 : decode cX3_gate 65 = .ok (.iload_n 2, 1) := by decide +kernel
theorem dX3_gate_66 : decode cX3_gate 66 = .ok (.laload, 1) := by decide +kernel
theorem dX3_gate_67 : decode cX3_gate 67 = .ok (.aload_n 0, 1) := by decide +kernel
theorem dX3_gate_68 : decode cX3_gate 68 = .ok (.getfield 7, 3) := by decide +kernel
theorem dX3_gate_71 : decode cX3_gate 71 = .ok (.iload_n 3, 1) := by decide +kernel
theorem dX3_gate_72 : decode cX3_gate 72 = .ok (.laload, 1) := by decide +kernel
theorem dX3_gate_73 : decode cX3_gate 73 = .ok (.iload_n 1, 1) := by decide +kernel
theorem dX3_gate_74 : decode cX3_gate 74 = .ok (.iconst 4, 1) := by decide +kernel
theorem dX3_gate_75 : decode cX3_gate 75 = .ok (.if_icmp .le 13, 3) := by decide +kernel
theorem dX3_gate_78 : decode cX3_gate 78 = .ok (.aload_n 0, 1) := by decide +kernel
theorem dX3_gate_79 : decode cX3_gate 79 = .ok (.getfield 7, 3) := by decide +kernel
theorem dX3_gate_82 : decode cX3_gate 82 = .ok (.iload 4, 2) := by decide +kernel
theorem dX3_gate_84 : decode cX3_gate 84 = .ok (.laload, 1) := by decide +kernel
theorem dX3_gate_85 : decode cX3_gate 85 = .ok (.goto 4, 3) := by decide +kernel
theorem dX3_gate_88 : decode cX3_gate 88 = .ok (.lconst 0, 1) := by decide +kernel
theorem dX3_gate_89 : decode cX3_gate 89 = .ok (.invokevirtual 73, 3) := by decide +kernel
theorem dX3_gate_92 : decode cX3_gate 92 = .ok (.lastore, 1) := by decide +kernel
theorem dX3_gate_93 : decode cX3_gate 93 = .ok (.aload_n 0, 1) := by decide +kernel
theorem dX3_gate_94 : decode cX3_gate 94 = .ok (.aload_n 0, 1) := by decide +kernel
theorem dX3_gate_95 : decode cX3_gate 95 = .ok (.getfield 7, 3) := by decide +kernel
theorem dX3_gate_98 : decode cX3_gate 98 = .ok (.iload 5, 2) := by decide +kernel
theorem dX3_gate_100 : decode cX3_gate 100 = .ok (.laload, 1) := by decide +kernel
theorem dX3_gate_101 : decode cX3_gate 101 = .ok (.invokevirtual 61, 3) := by decide +kernel
theorem dX3_gate_104 : decode cX3_gate 104 = .ok (.ireturn, 1) := by decide +kernel
set_option maxRecDepth 20000 in
theorem ggX3_not_X3_isStream : GoodIn wsX3_not wsX3_isStream := goodIn_r _ [5, 6, 7, 8, 4, 9] (by decide +kernel) (by decide +kernel)
set_option maxRecDepth 20000 in
theorem gX3_not_X3_isStream : GoodIn wsX3_not (va_wsS RX3 49 yX3_isStream wsX3_isStream) := goodIn_app (goodIn_of _ (by decide +kernel)) ggX3_not_X3_isStream
set_option maxRecDepth 20000 in
theorem ggX3_not_X3_gateRow : GoodIn wsX3_not wsX3_gateRow := goodIn_r _ [13, 14, 15, 16, 17, 4, 18, 19, 20, 21, 26, 27, 28, 29, 30, 31, 32, 33, 34, 35, 36, 37, 38] (by decide +kernel) (by decide +kernel)
set_option maxRecDepth 20000 in
theorem gX3_not_X3_gateRow : GoodIn wsX3_not (wsV RX3 73 RX3 yX3_gateRow wsX3_gateRow) := goodIn_app (goodIn_of _ (by decide +kernel)) ggX3_not_X3_gateRow
set_option maxRecDepth 20000 in
theorem ggX3_not_X3_onesOf : GoodIn wsX3_not wsX3_onesOf := goodIn_r _ [25, 14, 15, 16, 17, 4, 18, 26, 27, 28, 29, 30, 31, 32, 33, 34, 35, 36, 37, 38] (by decide +kernel) (by decide +kernel)
set_option maxRecDepth 20000 in
theorem gX3_not_X3_onesOf : GoodIn wsX3_not (wsV RX3 61 RX3 yX3_onesOf wsX3_onesOf) := goodIn_app (goodIn_of _ (by decide +kernel)) ggX3_not_X3_onesOf
theorem dX3_not_0 : decode cX3_not 0 = .ok (.iload_n 1, 1) := by decide +kernel
theorem dX3_not_1 : decode cX3_not 1 = .ok (.invokestatic 49, 3) := by decide +kernel
theorem dX3_not_4 : decode cX3_not 4 = .ok (.ifCond .eq 10, 3) := by decide +kernel
theorem dX3_not_7 : decode cX3_not 7 = .ok (.iload_n 2, 1) := by decide +kernel
theorem dX3_not_8 : decode cX3_not 8 = .ok (.invokestatic 49, 3) := by decide +kernel
theorem dX3_not_11 : decode cX3_not 11 = .ok (.ifCond .ne 6, 3) := by decide +kernel
theorem dX3_not_14 : decode cX3_not 14 = .ok (.bipush (-101), 2) := by decide +kernel
theorem dX3_not_16 : decode cX3_not 16 = .ok (.ireturn, 1) := by decide +kernel
theorem dX3_not_17 : decode cX3_not 17 = .ok (.aload_n 0, 1) := by decide +kernel
theorem dX3_not_18 : decode cX3_not 18 = .ok (.getfield 7, 3) := by decide +kernel
theorem dX3_not_21 : decode cX3_not 21 = .ok (.iload_n 2, 1) := by decide +kernel
theorem dX3_not_22 : decode cX3_not 22 = .ok (.aload_n 0, 1) := by decide +kernel
theorem dX3_not_23 : decode cX3_not 23 = .ok (.iconst 3, 1) := by decide +kernel
theorem dX3_not_24 : decode cX3_not 24 = .ok (.aload_n 0, 1) := by decide +kernel
theorem dX3_not_25 : decode cX3_not 25 = .ok (.getfield 7, 3) := by decide +kernel
theorem dX3_not_28 : decode cX3_not 28 = .ok (.iload_n 1, 1) := by decide +kernel
theorem dX3_not_29 : decode cX3_not 29 = .ok (.laload, 1) := by decide +kernel
theorem dX3_not_30 : decode cX3_not 30 = .ok (.lconst 0, 1) := by decide +kernel
theorem dX3_not_31 : decode cX3_not 31 = .ok (.lconst 0, 1) := by decide +kernel
theorem dX3_not_32 : decode cX3_not 32 = .ok (.invokevirtual 73, 3) := by decide +kernel
theorem dX3_not_35 : decode cX3_not 35 = .ok (.lastore, 1) := by decide +kernel
theorem dX3_not_36 : decode cX3_not 36 = .ok (.aload_n 0, 1) := by decide +kernel
theorem dX3_not_37 : decode cX3_not 37 = .ok (.aload_n 0, 1) := by decide +kernel
theorem dX3_not_38 : decode cX3_not 38 = .ok (.getfield 7, 3) := by decide +kernel
theorem dX3_not_41 : decode cX3_not 41 = .ok (.iload_n 2, 1) := by decide +kernel
theorem dX3_not_42 : decode cX3_not 42 = .ok (.laload, 1) := by decide +kernel
theorem dX3_not_43 : decode cX3_not 43 = .ok (.invokevirtual 61, 3) := by decide +kernel
theorem dX3_not_46 : decode cX3_not 46 = .ok (.ireturn, 1) := by decide +kernel
set_option maxRecDepth 20000 in
theorem ggX3_shifted_X3_bitOf : GoodIn wsX3_shifted wsX3_bitOf := goodIn_r _ [6] (by decide +kernel) (by decide +kernel)
set_option maxRecDepth 20000 in
theorem gX3_shifted_X3_bitOf : GoodIn wsX3_shifted (wsV RX3 39 RX3 yX3_bitOf wsX3_bitOf) := goodIn_app (goodIn_of _ (by decide +kernel)) ggX3_shifted_X3_bitOf
theorem dX3_shifted_0 : decode cX3_shifted 0 = .ok (.lconst 0, 1) := by decide +kernel
theorem dX3_shifted_1 : decode cX3_shifted 1 = .ok (.lstore 4, 2) := by decide +kernel
theorem dX3_shifted_3 : decode cX3_shifted 3 = .ok (.iconst 0, 1) := by decide +kernel
theorem dX3_shifted_4 : decode cX3_shifted 4 = .ok (.istore 6, 2) := by decide +kernel
theorem dX3_shifted_6 : decode cX3_shifted 6 = .ok (.iload 6, 2) := by decide +kernel
theorem dX3_shifted_8 : decode cX3_shifted 8 = .ok (.aload_n 0, 1) := by decide +kernel
theorem dX3_shifted_9 : decode cX3_shifted 9 = .ok (.getfield 23, 3) := by decide +kernel
theorem dX3_shifted_12 : decode cX3_shifted 12 = .ok (.if_icmp .ge 32, 3) := by decide +kernel
theorem dX3_shifted_15 : decode cX3_shifted 15 = .ok (.lload 4, 2) := by decide +kernel
theorem dX3_shifted_17 : decode cX3_shifted 17 = .ok (.aload_n 0, 1) := by decide +kernel
theorem dX3_shifted_18 : decode cX3_shifted 18 = .ok (.lload_n 1, 1) := by decide +kernel
theorem dX3_shifted_19 : decode cX3_shifted 19 = .ok (.iload 6, 2) := by decide +kernel
theorem dX3_shifted_21 : decode cX3_shifted 21 = .ok (.iload_n 3, 1) := by decide +kernel
theorem dX3_shifted_22 : decode cX3_shifted 22 = .ok (.iadd, 1) := by decide +kernel
theorem dX3_shifted_23 : decode cX3_shifted 23 = .ok (.aload_n 0, 1) := by decide +kernel
theorem dX3_shifted_24 : decode cX3_shifted 24 = .ok (.getfield 23, 3) := by decide +kernel
theorem dX3_shifted_27 : decode cX3_shifted 27 = .ok (.irem, 1) := by decide +kernel
theorem dX3_shifted_28 : decode cX3_shifted 28 = .ok (.invokevirtual 39, 3) := by decide +kernel
theorem dX3_shifted_31 : decode cX3_shifted 31 = .ok (.i2l, 1) := by decide +kernel
theorem dX3_shifted_32 : decode cX3_shifted 32 = .ok (.iload 6, 2) := by decide +kernel
theorem dX3_shifted_34 : decode cX3_shifted 34 = .ok (.lshl, 1) := by decide +kernel
theorem dX3_shifted_35 : decode cX3_shifted 35 = .ok (.lor, 1) := by decide +kernel
theorem dX3_shifted_36 : decode cX3_shifted 36 = .ok (.lstore 4, 2) := by decide +kernel
theorem dX3_shifted_38 : decode cX3_shifted 38 = .ok (.iinc 6 1, 3) := by decide +kernel
theorem dX3_shifted_41 : decode cX3_shifted 41 = .ok (.goto (-35), 3) := by decide +kernel
theorem dX3_shifted_44 : decode cX3_shifted 44 = .ok (.lload 4, 2) := by decide +kernel
theorem dX3_shifted_46 : decode cX3_shifted 46 = .ok (.lreturn, 1) := by decide +kernel
set_option maxRecDepth 20000 in
theorem ggX3_later_X3_isStream : GoodIn wsX3_later wsX3_isStream := goodIn_r _ [8, 9, 10, 11, 7, 12] (by decide +kernel) (by decide +kernel)
set_option maxRecDepth 20000 in
theorem gX3_later_X3_isStream : GoodIn wsX3_later (va_wsS RX3 49 yX3_isStream wsX3_isStream) := goodIn_app (goodIn_of _ (by decide +kernel)) ggX3_later_X3_isStream
set_option maxRecDepth 20000 in
theorem ggX3_later_X3_in : GoodIn wsX3_later wsX3_in := goodIn_r _ [12] (by decide +kernel) (by decide +kernel)
set_option maxRecDepth 20000 in
theorem gX3_later_X3_in : GoodIn wsX3_later (va_wsS RX3 35 yX3_in wsX3_in) := goodIn_app (goodIn_of _ (by decide +kernel)) ggX3_later_X3_in
set_option maxRecDepth 20000 in
theorem ggX3_later_X3_shifted : GoodIn wsX3_later wsX3_shifted := goodIn_r _ [16, 4, 17, 18, 19, 7, 20, 25, 26, 27, 28, 29, 30, 31, 32, 33, 34, 35, 36, 37] (by decide +kernel) (by decide +kernel)
set_option maxRecDepth 20000 in
theorem gX3_later_X3_shifted : GoodIn wsX3_later (wsV RX3 81 RX3 yX3_shifted wsX3_shifted) := goodIn_app (goodIn_of _ (by decide +kernel)) ggX3_later_X3_shifted
set_option maxRecDepth 20000 in
theorem ggX3_later_X3_onesOf : GoodIn wsX3_later wsX3_onesOf := goodIn_r _ [24, 4, 17, 18, 19, 7, 20, 25, 26, 27, 28, 29, 30, 31, 32, 33, 34, 35, 36, 37] (by decide +kernel) (by decide +kernel)
set_option maxRecDepth 20000 in
theorem gX3_later_X3_onesOf : GoodIn wsX3_later (wsV RX3 61 RX3 yX3_onesOf wsX3_onesOf) := goodIn_app (goodIn_of _ (by decide +kernel)) ggX3_later_X3_onesOf
theorem dX3_later_0 : decode cX3_later 0 = .ok (.iload_n 1, 1) := by decide +kernel
theorem dX3_later_1 : decode cX3_later 1 = .ok (.invokestatic 49, 3) := by decide +kernel
theorem dX3_later_4 : decode cX3_later 4 = .ok (.ifCond .eq 10, 3) := by decide +kernel
theorem dX3_later_7 : decode cX3_later 7 = .ok (.iload_n 3, 1) := by decide +kernel
theorem dX3_later_8 : decode cX3_later 8 = .ok (.invokestatic 49, 3) := by decide +kernel
theorem dX3_later_11 : decode cX3_later 11 = .ok (.ifCond .ne 6, 3) := by decide +kernel
theorem dX3_later_14 : decode cX3_later 14 = .ok (.bipush (-101), 2) := by decide +kernel
theorem dX3_later_16 : decode cX3_later 16 = .ok (.ireturn, 1) := by decide +kernel
theorem dX3_later_17 : decode cX3_later 17 = .ok (.iload_n 2, 1) := by decide +kernel
theorem dX3_later_18 : decode cX3_later 18 = .ok (.i2l, 1) := by decide +kernel
theorem dX3_later_19 : decode cX3_later 19 = .ok (.ldc2_w 77, 3) := by decide +kernel
theorem dX3_later_22 : decode cX3_later 22 = .ok (.ldc2_w 79, 3) := by decide +kernel
theorem dX3_later_25 : decode cX3_later 25 = .ok (.invokestatic 35, 3) := by decide +kernel
theorem dX3_later_28 : decode cX3_later 28 = .ok (.ifCond .ne 6, 3) := by decide +kernel
theorem dX3_later_31 : decode cX3_later 31 = .ok (.bipush (-102), 2) := by decide +kernel
theorem dX3_later_33 : decode cX3_later 33 = .ok (.ireturn, 1) := by decide +kernel
theorem dX3_later_34 : decode cX3_later 34 = .ok (.aload_n 0, 1) := by decide +kernel
theorem dX3_later_35 : decode cX3_later 35 = .ok (.getfield 7, 3) := by decide +kernel
theorem dX3_later_38 : decode cX3_later 38 = .ok (.iload_n 3, 1) := by decide +kernel
theorem dX3_later_39 : decode cX3_later 39 = .ok (.aload_n 0, 1) := by decide +kernel
theorem dX3_later_40 : decode cX3_later 40 = .ok (.aload_n 0, 1) := by decide +kernel
theorem dX3_later_41 : decode cX3_later 41 = .ok (.getfield 7, 3) := by decide +kernel
theorem dX3_later_44 : decode cX3_later 44 = .ok (.iload_n 1, 1) := by decide +kernel
theorem dX3_later_45 : decode cX3_later 45 = .ok (.laload, 1) := by decide +kernel
theorem dX3_later_46 : decode cX3_later 46 = .ok (.bipush 64, 2) := by decide +kernel
theorem dX3_later_48 : decode cX3_later 48 = .ok (.aload_n 0, 1) := by decide +kernel
theorem dX3_later_49 : decode cX3_later 49 = .ok (.getfield 23, 3) := by decide +kernel
theorem dX3_later_52 : decode cX3_later 52 = .ok (.iadd, 1) := by decide +kernel
theorem dX3_later_53 : decode cX3_later 53 = .ok (.iload_n 2, 1) := by decide +kernel
theorem dX3_later_54 : decode cX3_later 54 = .ok (.isub, 1) := by decide +kernel
theorem dX3_later_55 : decode cX3_later 55 = .ok (.aload_n 0, 1) := by decide +kernel
theorem dX3_later_56 : decode cX3_later 56 = .ok (.getfield 23, 3) := by decide +kernel
theorem dX3_later_59 : decode cX3_later 59 = .ok (.irem, 1) := by decide +kernel
theorem dX3_later_60 : decode cX3_later 60 = .ok (.invokevirtual 81, 3) := by decide +kernel
theorem dX3_later_63 : decode cX3_later 63 = .ok (.lastore, 1) := by decide +kernel
theorem dX3_later_64 : decode cX3_later 64 = .ok (.aload_n 0, 1) := by decide +kernel
theorem dX3_later_65 : decode cX3_later 65 = .ok (.aload_n 0, 1) := by decide +kernel
theorem dX3_later_66 : decode cX3_later 66 = .ok (.getfield 7, 3) := by decide +kernel
theorem dX3_later_69 : decode cX3_later 69 = .ok (.iload_n 3, 1) := by decide +kernel
theorem dX3_later_70 : decode cX3_later 70 = .ok (.laload, 1) := by decide +kernel
theorem dX3_later_71 : decode cX3_later 71 = .ok (.invokevirtual 61, 3) := by decide +kernel
theorem dX3_later_74 : decode cX3_later 74 = .ok (.ireturn, 1) := by decide +kernel
set_option maxRecDepth 20000 in
theorem ggX3_flip_X3_isStream : GoodIn wsX3_flip wsX3_isStream := goodIn_r _ [6, 7, 8, 9, 5, 10] (by decide +kernel) (by decide +kernel)
set_option maxRecDepth 20000 in
theorem gX3_flip_X3_isStream : GoodIn wsX3_flip (va_wsS RX3 49 yX3_isStream wsX3_isStream) := goodIn_app (goodIn_of _ (by decide +kernel)) ggX3_flip_X3_isStream
set_option maxRecDepth 20000 in
theorem ggX3_flip_X3_in : GoodIn wsX3_flip wsX3_in := goodIn_r _ [10] (by decide +kernel) (by decide +kernel)
set_option maxRecDepth 20000 in
theorem gX3_flip_X3_in : GoodIn wsX3_flip (va_wsS RX3 35 yX3_in wsX3_in) := goodIn_app (goodIn_of _ (by decide +kernel)) ggX3_flip_X3_in
set_option maxRecDepth 20000 in
theorem ggX3_flip_X3_bitOf : GoodIn wsX3_flip wsX3_bitOf := goodIn_r _ [14] (by decide +kernel) (by decide +kernel)
set_option maxRecDepth 20000 in
theorem gX3_flip_X3_bitOf : GoodIn wsX3_flip (wsV RX3 39 RX3 yX3_bitOf wsX3_bitOf) := goodIn_app (goodIn_of _ (by decide +kernel)) ggX3_flip_X3_bitOf
theorem dX3_flip_0 : decode cX3_flip 0 = .ok (.iload_n 1, 1) := by decide +kernel
theorem dX3_flip_1 : decode cX3_flip 1 = .ok (.invokestatic 49, 3) := by decide +kernel
theorem dX3_flip_4 : decode cX3_flip 4 = .ok (.ifCond .ne 6, 3) := by decide +kernel
theorem dX3_flip_7 : decode cX3_flip 7 = .ok (.bipush (-101), 2) := by decide +kernel
theorem dX3_flip_9 : decode cX3_flip 9 = .ok (.ireturn, 1) := by decide +kernel
theorem dX3_flip_10 : decode cX3_flip 10 = .ok (.iload 4, 2) := by decide +kernel
theorem dX3_flip_12 : decode cX3_flip 12 = .ok (.i2l, 1) := by decide +kernel
theorem dX3_flip_13 : decode cX3_flip 13 = .ok (.lconst 0, 1) := by decide +kernel
theorem dX3_flip_14 : decode cX3_flip 14 = .ok (.aload_n 0, 1) := by decide +kernel
theorem dX3_flip_15 : decode cX3_flip 15 = .ok (.getfield 23, 3) := by decide +kernel
theorem dX3_flip_18 : decode cX3_flip 18 = .ok (.i2l, 1) := by decide +kernel
theorem dX3_flip_19 : decode cX3_flip 19 = .ok (.invokestatic 35, 3) := by decide +kernel
theorem dX3_flip_22 : decode cX3_flip 22 = .ok (.ifCond .ne 6, 3) := by decide +kernel
theorem dX3_flip_25 : decode cX3_flip 25 = .ok (.bipush (-102), 2) := by decide +kernel
theorem dX3_flip_27 : decode cX3_flip 27 = .ok (.ireturn, 1) := by decide +kernel
theorem dX3_flip_28 : decode cX3_flip 28 = .ok (.iconst 0, 1) := by decide +kernel
theorem dX3_flip_29 : decode cX3_flip 29 = .ok (.istore 5, 2) := by decide +kernel
theorem dX3_flip_31 : decode cX3_flip 31 = .ok (.iconst 0, 1) := by decide +kernel
theorem dX3_flip_32 : decode cX3_flip 32 = .ok (.istore 6, 2) := by decide +kernel
theorem dX3_flip_34 : decode cX3_flip 34 = .ok (.iload 6, 2) := by decide +kernel
theorem dX3_flip_36 : decode cX3_flip 36 = .ok (.iload 4, 2) := by decide +kernel
theorem dX3_flip_38 : decode cX3_flip 38 = .ok (.if_icmp .ge 40, 3) := by decide +kernel
theorem dX3_flip_41 : decode cX3_flip 41 = .ok (.aload_n 0, 1) := by decide +kernel
theorem dX3_flip_42 : decode cX3_flip 42 = .ok (.lload_n 2, 1) := by decide +kernel
theorem dX3_flip_43 : decode cX3_flip 43 = .ok (.iload 6, 2) := by decide +kernel
theorem dX3_flip_45 : decode cX3_flip 45 = .ok (.invokevirtual 39, 3) := by decide +kernel
theorem dX3_flip_48 : decode cX3_flip 48 = .ok (.istore 7, 2) := by decide +kernel
theorem dX3_flip_50 : decode cX3_flip 50 = .ok (.aload_n 0, 1) := by decide +kernel
theorem dX3_flip_51 : decode cX3_flip 51 = .ok (.getfield 7, 3) := by decide +kernel
theorem dX3_flip_54 : decode cX3_flip 54 = .ok (.iload_n 1, 1) := by decide +kernel
theorem dX3_flip_55 : decode cX3_flip 55 = .ok (.dup2, 1) := by decide +kernel
theorem dX3_flip_56 : decode cX3_flip 56 = .ok (.laload, 1) := by decide +kernel
theorem dX3_flip_57 : decode cX3_flip 57 = .ok (.iload 7, 2) := by decide +kernel
theorem dX3_flip_59 : decode cX3_flip 59 = .ok (.i2l, 1) := by decide +kernel
theorem dX3_flip_60 : decode cX3_flip 60 = .ok (.iload 6, 2) := by decide +kernel
theorem dX3_flip_62 : decode cX3_flip 62 = .ok (.lshl, 1) := by decide +kernel
theorem dX3_flip_63 : decode cX3_flip 63 = .ok (.lxor, 1) := by decide +kernel
theorem dX3_flip_64 : decode cX3_flip 64 = .ok (.lastore, 1) := by decide +kernel
theorem dX3_flip_65 : decode cX3_flip 65 = .ok (.iload 5, 2) := by decide +kernel
theorem dX3_flip_67 : decode cX3_flip 67 = .ok (.iload 7, 2) := by decide +kernel
theorem dX3_flip_69 : decode cX3_flip 69 = .ok (.iadd, 1) := by decide +kernel
theorem dX3_flip_70 : decode cX3_flip 70 = .ok (.istore 5, 2) := by decide +kernel
theorem dX3_flip_72 : decode cX3_flip 72 = .ok (.iinc 6 1, 3) := by decide +kernel
theorem dX3_flip_75 : decode cX3_flip 75 = .ok (.goto (-41), 3) := by decide +kernel
theorem dX3_flip_78 : decode cX3_flip 78 = .ok (.iload 5, 2) := by decide +kernel
theorem dX3_flip_80 : decode cX3_flip 80 = .ok (.ireturn, 1) := by decide +kernel
set_option maxRecDepth 20000 in
theorem ggX3_bothOf_X3_bitOf : GoodIn wsX3_bothOf wsX3_bitOf := goodIn_r _ [7] (by decide +kernel) (by decide +kernel)
set_option maxRecDepth 20000 in
theorem gX3_bothOf_X3_bitOf : GoodIn wsX3_bothOf (wsV RX3 39 RX3 yX3_bitOf wsX3_bitOf) := goodIn_app (goodIn_of _ (by decide +kernel)) ggX3_bothOf_X3_bitOf
theorem dX3_bothOf_0 : decode cX3_bothOf 0 = .ok (.iconst 0, 1) := by decide +kernel
theorem dX3_bothOf_1 : decode cX3_bothOf 1 = .ok (.istore 4, 2) := by decide +kernel
theorem dX3_bothOf_3 : decode cX3_bothOf 3 = .ok (.iconst 0, 1) := by decide +kernel
theorem dX3_bothOf_4 : decode cX3_bothOf 4 = .ok (.istore 5, 2) := by decide +kernel
theorem dX3_bothOf_6 : decode cX3_bothOf 6 = .ok (.iload 5, 2) := by decide +kernel
theorem dX3_bothOf_8 : decode cX3_bothOf 8 = .ok (.aload_n 0, 1) := by decide +kernel
theorem dX3_bothOf_9 : decode cX3_bothOf 9 = .ok (.getfield 23, 3) := by decide +kernel
theorem dX3_bothOf_12 : decode cX3_bothOf 12 = .ok (.if_icmp .ge 93, 3) := by decide +kernel
theorem dX3_bothOf_15 : decode cX3_bothOf 15 = .ok (.aload_n 0, 1) := by decide +kernel
theorem dX3_bothOf_16 : decode cX3_bothOf 16 = .ok (.aload_n 0, 1) := by decide +kernel
theorem dX3_bothOf_17 : decode cX3_bothOf 17 = .ok (.getfield 7, 3) := by decide +kernel
theorem dX3_bothOf_20 : decode cX3_bothOf 20 = .ok (.iload_n 1, 1) := by decide +kernel
theorem dX3_bothOf_21 : decode cX3_bothOf 21 = .ok (.laload, 1) := by decide +kernel
theorem dX3_bothOf_22 : decode cX3_bothOf 22 = .ok (.iload 5, 2) := by decide +kernel
theorem dX3_bothOf_24 : decode cX3_bothOf 24 = .ok (.invokevirtual 39, 3) := by decide +kernel
theorem dX3_bothOf_27 : decode cX3_bothOf 27 = .ok (.istore 6, 2) := by decide +kernel
theorem dX3_bothOf_29 : decode cX3_bothOf 29 = .ok (.aload_n 0, 1) := by decide +kernel
theorem dX3_bothOf_30 : decode cX3_bothOf 30 = .ok (.aload_n 0, 1) := by decide +kernel
theorem dX3_bothOf_31 : decode cX3_bothOf 31 = .ok (.getfield 7, 3) := by decide +kernel
theorem dX3_bothOf_34 : decode cX3_bothOf 34 = .ok (.iload_n 2, 1) := by decide +kernel
theorem dX3_bothOf_35 : decode cX3_bothOf 35 = .ok (.laload, 1) := by decide +kernel
theorem dX3_bothOf_36 : decode cX3_bothOf 36 = .ok (.iload 5, 2) := by decide +kernel
theorem dX3_bothOf_38 : decode cX3_bothOf 38 = .ok (.invokevirtual 39, 3) := by decide +kernel
theorem dX3_bothOf_41 : decode cX3_bothOf 41 = .ok (.istore 7, 2) := by decide +kernel
theorem dX3_bothOf_43 : decode cX3_bothOf 43 = .ok (.iload 4, 2) := by decide +kernel
theorem dX3_bothOf_45 : decode cX3_bothOf 45 = .ok (.iload_n 3, 1) := by decide +kernel
theorem dX3_bothOf_46 : decode cX3_bothOf 46 = .ok (.ifCond .ne 11, 3) := by decide +kernel
theorem dX3_bothOf_49 : decode cX3_bothOf 49 = .ok (.iload 6, 2) := by decide +kernel
theorem dX3_bothOf_51 : decode cX3_bothOf 51 = .ok (.iload 7, 2) := by decide +kernel
theorem dX3_bothOf_53 : decode cX3_bothOf 53 = .ok (.imul, 1) := by decide +kernel
theorem dX3_bothOf_54 : decode cX3_bothOf 54 = .ok (.goto 42, 3) := by decide +kernel
theorem dX3_bothOf_57 : decode cX3_bothOf 57 = .ok (.iload_n 3, 1) := by decide +kernel
theorem dX3_bothOf_58 : decode cX3_bothOf 58 = .ok (.iconst 1, 1) := by decide +kernel
theorem dX3_bothOf_59 : decode cX3_bothOf 59 = .ok (.if_icmp .ne 13, 3) := by decide +kernel
theorem dX3_bothOf_62 : decode cX3_bothOf 62 = .ok (.iload 6, 2) := by decide +kernel
theorem dX3_bothOf_64 : decode cX3_bothOf 64 = .ok (.iconst 1, 1) := by decide +kernel
theorem dX3_bothOf_65 : decode cX3_bothOf 65 = .ok (.iload 7, 2) := by decide +kernel
theorem dX3_bothOf_67 : decode cX3_bothOf 67 = .ok (.isub, 1) := by decide +kernel
theorem dX3_bothOf_68 : decode cX3_bothOf 68 = .ok (.imul, 1) := by decide +kernel
theorem dX3_bothOf_69 : decode cX3_bothOf 69 = .ok (.goto 27, 3) := by decide +kernel
theorem dX3_bothOf_72 : decode cX3_bothOf 72 = .ok (.iload_n 3, 1) := by decide +kernel
theorem dX3_bothOf_73 : decode cX3_bothOf 73 = .ok (.iconst 2, 1) := by decide +kernel
theorem dX3_bothOf_74 : decode cX3_bothOf 74 = .ok (.if_icmp .ne 13, 3) := by decide +kernel
theorem dX3_bothOf_77 : decode cX3_bothOf 77 = .ok (.iconst 1, 1) := by decide +kernel
theorem dX3_bothOf_78 : decode cX3_bothOf 78 = .ok (.iload 6, 2) := by decide +kernel
theorem dX3_bothOf_80 : decode cX3_bothOf 80 = .ok (.isub, 1) := by decide +kernel
theorem dX3_bothOf_81 : decode cX3_bothOf 81 = .ok (.iload 7, 2) := by decide +kernel
theorem dX3_bothOf_83 : decode cX3_bothOf 83 = .ok (.imul, 1) := by decide +kernel
theorem dX3_bothOf_84 : decode cX3_bothOf 84 = .ok (.goto 12, 3) := by decide +kernel
theorem dX3_bothOf_87 : decode cX3_bothOf 87 = .ok (.iconst 1, 1) := by decide +kernel
theorem dX3_bothOf_88 : decode cX3_bothOf 88 = .ok (.iload 6, 2) := by decide +kernel
theorem dX3_bothOf_90 : decode cX3_bothOf 90 = .ok (.isub, 1) := by decide +kernel
theorem dX3_bothOf_91 : decode cX3_bothOf 91 = .ok (.iconst 1, 1) := by decide +kernel
theorem dX3_bothOf_92 : decode cX3_bothOf 92 = .ok (.iload 7, 2) := by decide +kernel
theorem dX3_bothOf_94 : decode cX3_bothOf 94 = .ok (.isub, 1) := by decide +kernel
theorem dX3_bothOf_95 : decode cX3_bothOf 95 = .ok (.imul, 1) := by decide +kernel
theorem dX3_bothOf_96 : decode cX3_bothOf 96 = .ok (.iadd, 1) := by decide +kernel
theorem dX3_bothOf_97 : decode cX3_bothOf 97 = .ok (.istore 4, 2) := by decide +kernel
theorem dX3_bothOf_99 : decode cX3_bothOf 99 = .ok (.iinc 5 1, 3) := by decide +kernel
theorem dX3_bothOf_102 : decode cX3_bothOf 102 = .ok (.goto (-96), 3) := by decide +kernel
theorem dX3_bothOf_105 : decode cX3_bothOf 105 = .ok (.iload 4, 2) := by decide +kernel
theorem dX3_bothOf_107 : decode cX3_bothOf 107 = .ok (.ireturn, 1) := by decide +kernel
set_option maxRecDepth 20000 in
theorem ggX3_both_X3_isStream : GoodIn wsX3_both wsX3_isStream := goodIn_r _ [5, 6, 7, 8, 4, 9] (by decide +kernel) (by decide +kernel)
set_option maxRecDepth 20000 in
theorem gX3_both_X3_isStream : GoodIn wsX3_both (va_wsS RX3 49 yX3_isStream wsX3_isStream) := goodIn_app (goodIn_of _ (by decide +kernel)) ggX3_both_X3_isStream
set_option maxRecDepth 20000 in
theorem ggX3_both_X3_in : GoodIn wsX3_both wsX3_in := goodIn_r _ [9] (by decide +kernel) (by decide +kernel)
set_option maxRecDepth 20000 in
theorem gX3_both_X3_in : GoodIn wsX3_both (va_wsS RX3 35 yX3_in wsX3_in) := goodIn_app (goodIn_of _ (by decide +kernel)) ggX3_both_X3_in
set_option maxRecDepth 20000 in
theorem ggX3_both_X3_bothOf : GoodIn wsX3_both wsX3_bothOf := goodIn_r _ [13, 14, 15, 16, 17, 18, 4, 19, 20, 21, 22, 23, 24, 25, 26, 27, 28, 29, 30, 31, 32] (by decide +kernel) (by decide +kernel)
set_option maxRecDepth 20000 in
theorem gX3_both_X3_bothOf : GoodIn wsX3_both (wsV RX3 85 RX3 yX3_bothOf wsX3_bothOf) := goodIn_app (goodIn_of _ (by decide +kernel)) ggX3_both_X3_bothOf
theorem dX3_both_0 : decode cX3_both 0 = .ok (.iload_n 1, 1) := by decide +kernel
theorem dX3_both_1 : decode cX3_both 1 = .ok (.invokestatic 49, 3) := by decide +kernel
theorem dX3_both_4 : decode cX3_both 4 = .ok (.ifCond .eq 10, 3) := by decide +kernel
theorem dX3_both_7 : decode cX3_both 7 = .ok (.iload_n 2, 1) := by decide +kernel
theorem dX3_both_8 : decode cX3_both 8 = .ok (.invokestatic 49, 3) := by decide +kernel
theorem dX3_both_11 : decode cX3_both 11 = .ok (.ifCond .ne 6, 3) := by decide +kernel
theorem dX3_both_14 : decode cX3_both 14 = .ok (.bipush (-101), 2) := by decide +kernel
theorem dX3_both_16 : decode cX3_both 16 = .ok (.ireturn, 1) := by decide +kernel
theorem dX3_both_17 : decode cX3_both 17 = .ok (.iload_n 3, 1) := by decide +kernel
theorem dX3_both_18 : decode cX3_both 18 = .ok (.i2l, 1) := by decide +kernel
theorem dX3_both_19 : decode cX3_both 19 = .ok (.lconst 0, 1) := by decide +kernel
theorem dX3_both_20 : decode cX3_both 20 = .ok (.ldc2_w 47, 3) := by decide +kernel
theorem dX3_both_23 : decode cX3_both 23 = .ok (.invokestatic 35, 3) := by decide +kernel
theorem dX3_both_26 : decode cX3_both 26 = .ok (.ifCond .eq 13, 3) := by decide +kernel
theorem dX3_both_29 : decode cX3_both 29 = .ok (.aload_n 0, 1) := by decide +kernel
theorem dX3_both_30 : decode cX3_both 30 = .ok (.iload_n 1, 1) := by decide +kernel
theorem dX3_both_31 : decode cX3_both 31 = .ok (.iload_n 2, 1) := by decide +kernel
theorem dX3_both_32 : decode cX3_both 32 = .ok (.iload_n 3, 1) := by decide +kernel
theorem dX3_both_33 : decode cX3_both 33 = .ok (.invokevirtual 85, 3) := by decide +kernel
theorem dX3_both_36 : decode cX3_both 36 = .ok (.goto 5, 3) := by decide +kernel
theorem dX3_both_39 : decode cX3_both 39 = .ok (.bipush (-102), 2) := by decide +kernel
theorem dX3_both_41 : decode cX3_both 41 = .ok (.ireturn, 1) := by decide +kernel
set_option maxRecDepth 20000 in
theorem ggX3_together_X3_isStream : GoodIn wsX3_together wsX3_isStream := goodIn_r _ [6, 7, 8, 9, 5, 10] (by decide +kernel) (by decide +kernel)
end
section
set_option maxRecDepth 20000 in
theorem gX3_together_X3_isStream : GoodIn wsX3_together (va_wsS RX3 49 yX3_isStream wsX3_isStream) := goodIn_app (goodIn_of _ (by decide +kernel)) ggX3_together_X3_isStream
set_option maxRecDepth 20000 in
theorem ggX3_together_X3_bothOf : GoodIn wsX3_together wsX3_bothOf := goodIn_r _ [14, 2, 15, 16, 17, 18, 5, 19, 20, 21, 22, 23, 24, 25, 26, 27, 28, 29, 30, 31, 32] (by decide +kernel) (by decide +kernel)
set_option maxRecDepth 20000 in
theorem gX3_together_X3_bothOf : GoodIn wsX3_together (wsV RX3 85 RX3 yX3_bothOf wsX3_bothOf) := goodIn_app (goodIn_of _ (by decide +kernel)) ggX3_together_X3_bothOf
theorem dX3_together_0 : decode cX3_together 0 = .ok (.iload_n 1, 1) := by decide +kernel
theorem dX3_together_1 : decode cX3_together 1 = .ok (.invokestatic 49, 3) := by decide +kernel
theorem dX3_together_4 : decode cX3_together 4 = .ok (.ifCond .eq 10, 3) := by decide +kernel
theorem dX3_together_7 : decode cX3_together 7 = .ok (.iload_n 2, 1) := by decide +kernel
theorem dX3_together_8 : decode cX3_together 8 = .ok (.invokestatic 49, 3) := by decide +kernel
theorem dX3_together_11 : decode cX3_together 11 = .ok (.ifCond .ne 6, 3) := by decide +kernel
theorem dX3_together_14 : decode cX3_together 14 = .ok (.ldc 89, 2) := by decide +kernel
theorem dX3_together_16 : decode cX3_together 16 = .ok (.ireturn, 1) := by decide +kernel
theorem dX3_together_17 : decode cX3_together 17 = .ok (.aload_n 0, 1) := by decide +kernel
theorem dX3_together_18 : decode cX3_together 18 = .ok (.iload_n 1, 1) := by decide +kernel
theorem dX3_together_19 : decode cX3_together 19 = .ok (.iload_n 2, 1) := by decide +kernel
theorem dX3_together_20 : decode cX3_together 20 = .ok (.iconst 0, 1) := by decide +kernel
theorem dX3_together_21 : decode cX3_together 21 = .ok (.invokevirtual 85, 3) := by decide +kernel
theorem dX3_together_24 : decode cX3_together 24 = .ok (.istore_n 3, 1) := by decide +kernel
theorem dX3_together_25 : decode cX3_together 25 = .ok (.aload_n 0, 1) := by decide +kernel
theorem dX3_together_26 : decode cX3_together 26 = .ok (.iload_n 1, 1) := by decide +kernel
theorem dX3_together_27 : decode cX3_together 27 = .ok (.iload_n 2, 1) := by decide +kernel
theorem dX3_together_28 : decode cX3_together 28 = .ok (.iconst 1, 1) := by decide +kernel
theorem dX3_together_29 : decode cX3_together 29 = .ok (.invokevirtual 85, 3) := by decide +kernel
theorem dX3_together_32 : decode cX3_together 32 = .ok (.istore 4, 2) := by decide +kernel
theorem dX3_together_34 : decode cX3_together 34 = .ok (.aload_n 0, 1) := by decide +kernel
theorem dX3_together_35 : decode cX3_together 35 = .ok (.iload_n 1, 1) := by decide +kernel
theorem dX3_together_36 : decode cX3_together 36 = .ok (.iload_n 2, 1) := by decide +kernel
theorem dX3_together_37 : decode cX3_together 37 = .ok (.iconst 2, 1) := by decide +kernel
theorem dX3_together_38 : decode cX3_together 38 = .ok (.invokevirtual 85, 3) := by decide +kernel
theorem dX3_together_41 : decode cX3_together 41 = .ok (.istore 5, 2) := by decide +kernel
theorem dX3_together_43 : decode cX3_together 43 = .ok (.aload_n 0, 1) := by decide +kernel
theorem dX3_together_44 : decode cX3_together 44 = .ok (.iload_n 1, 1) := by decide +kernel
theorem dX3_together_45 : decode cX3_together 45 = .ok (.iload_n 2, 1) := by decide +kernel
theorem dX3_together_46 : decode cX3_together 46 = .ok (.iconst 3, 1) := by decide +kernel
theorem dX3_together_47 : decode cX3_together 47 = .ok (.invokevirtual 85, 3) := by decide +kernel
theorem dX3_together_50 : decode cX3_together 50 = .ok (.istore 6, 2) := by decide +kernel
theorem dX3_together_52 : decode cX3_together 52 = .ok (.iload_n 3, 1) := by decide +kernel
theorem dX3_together_53 : decode cX3_together 53 = .ok (.iload 6, 2) := by decide +kernel
theorem dX3_together_55 : decode cX3_together 55 = .ok (.imul, 1) := by decide +kernel
theorem dX3_together_56 : decode cX3_together 56 = .ok (.iload 4, 2) := by decide +kernel
theorem dX3_together_58 : decode cX3_together 58 = .ok (.iload 5, 2) := by decide +kernel
theorem dX3_together_60 : decode cX3_together 60 = .ok (.imul, 1) := by decide +kernel
theorem dX3_together_61 : decode cX3_together 61 = .ok (.isub, 1) := by decide +kernel
theorem dX3_together_62 : decode cX3_together 62 = .ok (.istore 7, 2) := by decide +kernel
theorem dX3_together_64 : decode cX3_together 64 = .ok (.iload 7, 2) := by decide +kernel
theorem dX3_together_66 : decode cX3_together 66 = .ok (.ifCond .ne 5, 3) := by decide +kernel
theorem dX3_together_69 : decode cX3_together 69 = .ok (.iconst 0, 1) := by decide +kernel
theorem dX3_together_70 : decode cX3_together 70 = .ok (.ireturn, 1) := by decide +kernel
theorem dX3_together_71 : decode cX3_together 71 = .ok (.iload 4, 2) := by decide +kernel
theorem dX3_together_73 : decode cX3_together 73 = .ok (.iload 5, 2) := by decide +kernel
theorem dX3_together_75 : decode cX3_together 75 = .ok (.if_icmp .ge 10, 3) := by decide +kernel
theorem dX3_together_78 : decode cX3_together 78 = .ok (.iload_n 3, 1) := by decide +kernel
theorem dX3_together_79 : decode cX3_together 79 = .ok (.iload 4, 2) := by decide +kernel
theorem dX3_together_81 : decode cX3_together 81 = .ok (.iadd, 1) := by decide +kernel
theorem dX3_together_82 : decode cX3_together 82 = .ok (.goto 7, 3) := by decide +kernel
theorem dX3_together_85 : decode cX3_together 85 = .ok (.iload_n 3, 1) := by decide +kernel
theorem dX3_together_86 : decode cX3_together 86 = .ok (.iload 5, 2) := by decide +kernel
theorem dX3_together_88 : decode cX3_together 88 = .ok (.iadd, 1) := by decide +kernel
theorem dX3_together_89 : decode cX3_together 89 = .ok (.istore 8, 2) := by decide +kernel
theorem dX3_together_91 : decode cX3_together 91 = .ok (.iload_n 3, 1) := by decide +kernel
theorem dX3_together_92 : decode cX3_together 92 = .ok (.iload 6, 2) := by decide +kernel
theorem dX3_together_94 : decode cX3_together 94 = .ok (.if_icmp .le 10, 3) := by decide +kernel
theorem dX3_together_97 : decode cX3_together 97 = .ok (.iload_n 3, 1) := by decide +kernel
theorem dX3_together_98 : decode cX3_together 98 = .ok (.iload 6, 2) := by decide +kernel
theorem dX3_together_100 : decode cX3_together 100 = .ok (.isub, 1) := by decide +kernel
theorem dX3_together_101 : decode cX3_together 101 = .ok (.goto 4, 3) := by decide +kernel
theorem dX3_together_104 : decode cX3_together 104 = .ok (.iconst 0, 1) := by decide +kernel
theorem dX3_together_105 : decode cX3_together 105 = .ok (.istore 9, 2) := by decide +kernel
theorem dX3_together_107 : decode cX3_together 107 = .ok (.iload 7, 2) := by decide +kernel
theorem dX3_together_109 : decode cX3_together 109 = .ok (.ifCond .le 23, 3) := by decide +kernel
theorem dX3_together_112 : decode cX3_together 112 = .ok (.aload_n 0, 1) := by decide +kernel
theorem dX3_together_113 : decode cX3_together 113 = .ok (.getfield 23, 3) := by decide +kernel
theorem dX3_together_116 : decode cX3_together 116 = .ok (.iload 8, 2) := by decide +kernel
theorem dX3_together_118 : decode cX3_together 118 = .ok (.imul, 1) := by decide +kernel
theorem dX3_together_119 : decode cX3_together 119 = .ok (.iload_n 3, 1) := by decide +kernel
theorem dX3_together_120 : decode cX3_together 120 = .ok (.iload 4, 2) := by decide +kernel
theorem dX3_together_122 : decode cX3_together 122 = .ok (.iadd, 1) := by decide +kernel
theorem dX3_together_123 : decode cX3_together 123 = .ok (.iload_n 3, 1) := by decide +kernel
theorem dX3_together_124 : decode cX3_together 124 = .ok (.iload 5, 2) := by decide +kernel
theorem dX3_together_126 : decode cX3_together 126 = .ok (.iadd, 1) := by decide +kernel
theorem dX3_together_127 : decode cX3_together 127 = .ok (.imul, 1) := by decide +kernel
theorem dX3_together_128 : decode cX3_together 128 = .ok (.isub, 1) := by decide +kernel
theorem dX3_together_129 : decode cX3_together 129 = .ok (.goto 20, 3) := by decide +kernel
theorem dX3_together_132 : decode cX3_together 132 = .ok (.iload_n 3, 1) := by decide +kernel
theorem dX3_together_133 : decode cX3_together 133 = .ok (.iload 4, 2) := by decide +kernel
theorem dX3_together_135 : decode cX3_together 135 = .ok (.iadd, 1) := by decide +kernel
theorem dX3_together_136 : decode cX3_together 136 = .ok (.iload_n 3, 1) := by decide +kernel
theorem dX3_together_137 : decode cX3_together 137 = .ok (.iload 5, 2) := by decide +kernel
theorem dX3_together_139 : decode cX3_together 139 = .ok (.iadd, 1) := by decide +kernel
theorem dX3_together_140 : decode cX3_together 140 = .ok (.imul, 1) := by decide +kernel
theorem dX3_together_141 : decode cX3_together 141 = .ok (.aload_n 0, 1) := by decide +kernel
theorem dX3_together_142 : decode cX3_together 142 = .ok (.getfield 23, 3) := by decide +kernel
theorem dX3_together_145 : decode cX3_together 145 = .ok (.iload 9, 2) := by decide +kernel
theorem dX3_together_147 : decode cX3_together 147 = .ok (.imul, 1) := by decide +kernel
theorem dX3_together_148 : decode cX3_together 148 = .ok (.isub, 1) := by decide +kernel
theorem dX3_together_149 : decode cX3_together 149 = .ok (.istore 10, 2) := by decide +kernel
theorem dX3_together_151 : decode cX3_together 151 = .ok (.sipush 1000, 3) := by decide +kernel
theorem dX3_together_154 : decode cX3_together 154 = .ok (.iload 7, 2) := by decide +kernel
theorem dX3_together_156 : decode cX3_together 156 = .ok (.imul, 1) := by decide +kernel
theorem dX3_together_157 : decode cX3_together 157 = .ok (.iload 10, 2) := by decide +kernel
theorem dX3_together_159 : decode cX3_together 159 = .ok (.idiv, 1) := by decide +kernel
theorem dX3_together_160 : decode cX3_together 160 = .ok (.ireturn, 1) := by decide +kernel
theorem dX3_due_0 : decode cX3_due 0 = .ok (.aload_n 0, 1) := by decide +kernel
theorem dX3_due_1 : decode cX3_due 1 = .ok (.getfield 23, 3) := by decide +kernel
theorem dX3_due_4 : decode cX3_due 4 = .ok (.iload_n 2, 1) := by decide +kernel
theorem dX3_due_5 : decode cX3_due 5 = .ok (.iload_n 3, 1) := by decide +kernel
theorem dX3_due_6 : decode cX3_due 6 = .ok (.iadd, 1) := by decide +kernel
theorem dX3_due_7 : decode cX3_due 7 = .ok (.imul, 1) := by decide +kernel
theorem dX3_due_8 : decode cX3_due 8 = .ok (.iconst 2, 1) := by decide +kernel
theorem dX3_due_9 : decode cX3_due 9 = .ok (.iload_n 2, 1) := by decide +kernel
theorem dX3_due_10 : decode cX3_due 10 = .ok (.imul, 1) := by decide +kernel
theorem dX3_due_11 : decode cX3_due 11 = .ok (.iload_n 3, 1) := by decide +kernel
theorem dX3_due_12 : decode cX3_due 12 = .ok (.imul, 1) := by decide +kernel
theorem dX3_due_13 : decode cX3_due 13 = .ok (.isub, 1) := by decide +kernel
theorem dX3_due_14 : decode cX3_due 14 = .ok (.istore 4, 2) := by decide +kernel
theorem dX3_due_16 : decode cX3_due 16 = .ok (.iload_n 1, 1) := by decide +kernel
theorem dX3_due_17 : decode cX3_due 17 = .ok (.ifCond .ne 9, 3) := by decide +kernel
theorem dX3_due_20 : decode cX3_due 20 = .ok (.iload_n 2, 1) := by decide +kernel
theorem dX3_due_21 : decode cX3_due 21 = .ok (.iload_n 3, 1) := by decide +kernel
theorem dX3_due_22 : decode cX3_due 22 = .ok (.imul, 1) := by decide +kernel
theorem dX3_due_23 : decode cX3_due 23 = .ok (.goto 45, 3) := by decide +kernel
theorem dX3_due_26 : decode cX3_due 26 = .ok (.iload_n 1, 1) := by decide +kernel
theorem dX3_due_27 : decode cX3_due 27 = .ok (.iconst 1, 1) := by decide +kernel
theorem dX3_due_28 : decode cX3_due 28 = .ok (.if_icmp .ne 18, 3) := by decide +kernel
theorem dX3_due_31 : decode cX3_due 31 = .ok (.aload_n 0, 1) := by decide +kernel
theorem dX3_due_32 : decode cX3_due 32 = .ok (.getfield 23, 3) := by decide +kernel
theorem dX3_due_35 : decode cX3_due 35 = .ok (.iload_n 2, 1) := by decide +kernel
theorem dX3_due_36 : decode cX3_due 36 = .ok (.iload_n 3, 1) := by decide +kernel
theorem dX3_due_37 : decode cX3_due 37 = .ok (.iadd, 1) := by decide +kernel
theorem dX3_due_38 : decode cX3_due 38 = .ok (.imul, 1) := by decide +kernel
theorem dX3_due_39 : decode cX3_due 39 = .ok (.iload_n 2, 1) := by decide +kernel
theorem dX3_due_40 : decode cX3_due 40 = .ok (.iload_n 3, 1) := by decide +kernel
theorem dX3_due_41 : decode cX3_due 41 = .ok (.imul, 1) := by decide +kernel
theorem dX3_due_42 : decode cX3_due 42 = .ok (.isub, 1) := by decide +kernel
theorem dX3_due_43 : decode cX3_due 43 = .ok (.goto 25, 3) := by decide +kernel
theorem dX3_due_46 : decode cX3_due 46 = .ok (.iload_n 1, 1) := by decide +kernel
theorem dX3_due_47 : decode cX3_due 47 = .ok (.iconst 2, 1) := by decide +kernel
theorem dX3_due_48 : decode cX3_due 48 = .ok (.if_icmp .ne 8, 3) := by decide +kernel
theorem dX3_due_51 : decode cX3_due 51 = .ok (.iload 4, 2) := by decide +kernel
theorem dX3_due_53 : decode cX3_due 53 = .ok (.goto 15, 3) := by decide +kernel
theorem dX3_due_56 : decode cX3_due 56 = .ok (.aload_n 0, 1) := by decide +kernel
theorem dX3_due_57 : decode cX3_due 57 = .ok (.getfield 23, 3) := by decide +kernel
theorem dX3_due_60 : decode cX3_due 60 = .ok (.aload_n 0, 1) := by decide +kernel
theorem dX3_due_61 : decode cX3_due 61 = .ok (.getfield 23, 3) := by decide +kernel
theorem dX3_due_64 : decode cX3_due 64 = .ok (.imul, 1) := by decide +kernel
theorem dX3_due_65 : decode cX3_due 65 = .ok (.iload 4, 2) := by decide +kernel
theorem dX3_due_67 : decode cX3_due 67 = .ok (.isub, 1) := by decide +kernel
theorem dX3_due_68 : decode cX3_due 68 = .ok (.ireturn, 1) := by decide +kernel
set_option maxRecDepth 20000 in
theorem ggX3_miss_X3_in : GoodIn wsX3_miss wsX3_in := goodIn_r _ [12] (by decide +kernel) (by decide +kernel)
set_option maxRecDepth 20000 in
theorem gX3_miss_X3_in : GoodIn wsX3_miss (va_wsS RX3 35 yX3_in wsX3_in) := goodIn_app (goodIn_of _ (by decide +kernel)) ggX3_miss_X3_in
set_option maxRecDepth 20000 in
theorem ggX3_miss_X3_sourceRow : GoodIn wsX3_miss wsX3_sourceRow := goodIn_r _ [16, 4, 17, 18, 19, 11, 20, 44, 45, 46, 47, 48, 49, 50, 51, 52, 53, 54, 55, 56] (by decide +kernel) (by decide +kernel)
set_option maxRecDepth 20000 in
theorem gX3_miss_X3_sourceRow : GoodIn wsX3_miss (wsV RX3 57 RX3 yX3_sourceRow wsX3_sourceRow) := goodIn_app (goodIn_of _ (by decide +kernel)) ggX3_miss_X3_sourceRow
set_option maxRecDepth 20000 in
theorem ggX3_miss_X3_shifted : GoodIn wsX3_miss wsX3_shifted := goodIn_r _ [24, 4, 25, 26, 27, 11, 28, 44, 45, 46, 47, 48, 49, 50, 51, 52, 53, 54, 55, 56] (by decide +kernel) (by decide +kernel)
set_option maxRecDepth 20000 in
theorem gX3_miss_X3_shifted : GoodIn wsX3_miss (wsV RX3 81 RX3 yX3_shifted wsX3_shifted) := goodIn_app (goodIn_of _ (by decide +kernel)) ggX3_miss_X3_shifted
set_option maxRecDepth 20000 in
theorem ggX3_miss_X3_gateRow : GoodIn wsX3_miss wsX3_gateRow := goodIn_r _ [32, 4, 25, 26, 27, 11, 28, 33, 34, 35, 44, 45, 46, 47, 48, 49, 50, 51, 52, 53, 54, 55, 56] (by decide +kernel) (by decide +kernel)
set_option maxRecDepth 20000 in
theorem gX3_miss_X3_gateRow : GoodIn wsX3_miss (wsV RX3 73 RX3 yX3_gateRow wsX3_gateRow) := goodIn_app (goodIn_of _ (by decide +kernel)) ggX3_miss_X3_gateRow
set_option maxRecDepth 20000 in
theorem ggX3_miss_X3_onesOf : GoodIn wsX3_miss wsX3_onesOf := goodIn_r _ [39, 4, 25, 26, 27, 11, 28, 44, 45, 46, 47, 48, 49, 50, 51, 52, 53, 54, 55, 56] (by decide +kernel) (by decide +kernel)
set_option maxRecDepth 20000 in
theorem gX3_miss_X3_onesOf : GoodIn wsX3_miss (wsV RX3 61 RX3 yX3_onesOf wsX3_onesOf) := goodIn_app (goodIn_of _ (by decide +kernel)) ggX3_miss_X3_onesOf
set_option maxRecDepth 20000 in
theorem ggX3_miss_X3_due : GoodIn wsX3_miss wsX3_due := goodIn_r _ [43, 4, 44, 45, 46, 47, 48, 49, 50, 51, 52, 53, 54, 55, 56] (by decide +kernel) (by decide +kernel)
set_option maxRecDepth 20000 in
theorem gX3_miss_X3_due : GoodIn wsX3_miss (wsV RX3 95 RX3 yX3_due wsX3_due) := goodIn_app (goodIn_of _ (by decide +kernel)) ggX3_miss_X3_due
theorem dX3_miss_0 : decode cX3_miss 0 = .ok (.iload_n 1, 1) := by decide +kernel
theorem dX3_miss_1 : decode cX3_miss 1 = .ok (.i2l, 1) := by decide +kernel
theorem dX3_miss_2 : decode cX3_miss 2 = .ok (.lconst 0, 1) := by decide +kernel
theorem dX3_miss_3 : decode cX3_miss 3 = .ok (.ldc2_w 47, 3) := by decide +kernel
theorem dX3_miss_6 : decode cX3_miss 6 = .ok (.invokestatic 35, 3) := by decide +kernel
theorem dX3_miss_9 : decode cX3_miss 9 = .ok (.ifCond .eq 40, 3) := by decide +kernel
theorem dX3_miss_12 : decode cX3_miss 12 = .ok (.iload_n 2, 1) := by decide +kernel
theorem dX3_miss_13 : decode cX3_miss 13 = .ok (.i2l, 1) := by decide +kernel
theorem dX3_miss_14 : decode cX3_miss 14 = .ok (.lconst 0, 1) := by decide +kernel
theorem dX3_miss_15 : decode cX3_miss 15 = .ok (.ldc2_w 47, 3) := by decide +kernel
theorem dX3_miss_18 : decode cX3_miss 18 = .ok (.invokestatic 35, 3) := by decide +kernel
theorem dX3_miss_21 : decode cX3_miss 21 = .ok (.ifCond .eq 28, 3) := by decide +kernel
theorem dX3_miss_24 : decode cX3_miss 24 = .ok (.iload_n 3, 1) := by decide +kernel
theorem dX3_miss_25 : decode cX3_miss 25 = .ok (.i2l, 1) := by decide +kernel
theorem dX3_miss_26 : decode cX3_miss 26 = .ok (.lconst 0, 1) := by decide +kernel
theorem dX3_miss_27 : decode cX3_miss 27 = .ok (.ldc2_w 47, 3) := by decide +kernel
theorem dX3_miss_30 : decode cX3_miss 30 = .ok (.invokestatic 35, 3) := by decide +kernel
theorem dX3_miss_33 : decode cX3_miss 33 = .ok (.ifCond .eq 16, 3) := by decide +kernel
theorem dX3_miss_36 : decode cX3_miss 36 = .ok (.iload 4, 2) := by decide +kernel
theorem dX3_miss_38 : decode cX3_miss 38 = .ok (.i2l, 1) := by decide +kernel
theorem dX3_miss_39 : decode cX3_miss 39 = .ok (.lconst 0, 1) := by decide +kernel
theorem dX3_miss_40 : decode cX3_miss 40 = .ok (.ldc2_w 90, 3) := by decide +kernel
theorem dX3_miss_43 : decode cX3_miss 43 = .ok (.invokestatic 35, 3) := by decide +kernel
theorem dX3_miss_46 : decode cX3_miss 46 = .ok (.ifCond .ne 6, 3) := by decide +kernel
theorem dX3_miss_49 : decode cX3_miss 49 = .ok (.bipush (-102), 2) := by decide +kernel
theorem dX3_miss_51 : decode cX3_miss 51 = .ok (.ireturn, 1) := by decide +kernel
theorem dX3_miss_52 : decode cX3_miss 52 = .ok (.aload_n 0, 1) := by decide +kernel
theorem dX3_miss_53 : decode cX3_miss 53 = .ok (.getfield 92, 3) := by decide +kernel
theorem dX3_miss_56 : decode cX3_miss 56 = .ok (.bipush 60, 2) := by decide +kernel
theorem dX3_miss_58 : decode cX3_miss 58 = .ok (.if_icmp .ne 6, 3) := by decide +kernel
theorem dX3_miss_61 : decode cX3_miss 61 = .ok (.bipush (-103), 2) := by decide +kernel
theorem dX3_miss_63 : decode cX3_miss 63 = .ok (.ireturn, 1) := by decide +kernel
theorem dX3_miss_64 : decode cX3_miss 64 = .ok (.aload_n 0, 1) := by decide +kernel
theorem dX3_miss_65 : decode cX3_miss 65 = .ok (.dup, 1) := by decide +kernel
theorem dX3_miss_66 : decode cX3_miss 66 = .ok (.getfield 92, 3) := by decide +kernel
theorem dX3_miss_69 : decode cX3_miss 69 = .ok (.iconst 1, 1) := by decide +kernel
theorem dX3_miss_70 : decode cX3_miss 70 = .ok (.iadd, 1) := by decide +kernel
theorem dX3_miss_71 : decode cX3_miss 71 = .ok (.putfield 92, 3) := by decide +kernel
theorem dX3_miss_74 : decode cX3_miss 74 = .ok (.iconst 0, 1) := by decide +kernel
theorem dX3_miss_75 : decode cX3_miss 75 = .ok (.istore 5, 2) := by decide +kernel
theorem dX3_miss_77 : decode cX3_miss 77 = .ok (.iload 5, 2) := by decide +kernel
theorem dX3_miss_79 : decode cX3_miss 79 = .ok (.aload_n 0, 1) := by decide +kernel
theorem dX3_miss_80 : decode cX3_miss 80 = .ok (.getfield 23, 3) := by decide +kernel
theorem dX3_miss_83 : decode cX3_miss 83 = .ok (.if_icmp .gt 48, 3) := by decide +kernel
theorem dX3_miss_86 : decode cX3_miss 86 = .ok (.aload_n 0, 1) := by decide +kernel
theorem dX3_miss_87 : decode cX3_miss 87 = .ok (.getfield 13, 3) := by decide +kernel
theorem dX3_miss_90 : decode cX3_miss 90 = .ok (.iload 5, 2) := by decide +kernel
theorem dX3_miss_92 : decode cX3_miss 92 = .ok (.aload_n 0, 1) := by decide +kernel
theorem dX3_miss_93 : decode cX3_miss 93 = .ok (.iload_n 2, 1) := by decide +kernel
theorem dX3_miss_94 : decode cX3_miss 94 = .ok (.iload 5, 2) := by decide +kernel
theorem dX3_miss_96 : decode cX3_miss 96 = .ok (.invokevirtual 57, 3) := by decide +kernel
theorem dX3_miss_99 : decode cX3_miss 99 = .ok (.lastore, 1) := by decide +kernel
theorem dX3_miss_100 : decode cX3_miss 100 = .ok (.aload_n 0, 1) := by decide +kernel
theorem dX3_miss_101 : decode cX3_miss 101 = .ok (.getfield 16, 3) := by decide +kernel
theorem dX3_miss_104 : decode cX3_miss 104 = .ok (.iload 5, 2) := by decide +kernel
theorem dX3_miss_106 : decode cX3_miss 106 = .ok (.aload_n 0, 1) := by decide +kernel
theorem dX3_miss_107 : decode cX3_miss 107 = .ok (.aload_n 0, 1) := by decide +kernel
theorem dX3_miss_108 : decode cX3_miss 108 = .ok (.iload_n 3, 1) := by decide +kernel
theorem dX3_miss_109 : decode cX3_miss 109 = .ok (.iload 5, 2) := by decide +kernel
theorem dX3_miss_111 : decode cX3_miss 111 = .ok (.invokevirtual 57, 3) := by decide +kernel
theorem dX3_miss_114 : decode cX3_miss 114 = .ok (.iload 4, 2) := by decide +kernel
theorem dX3_miss_116 : decode cX3_miss 116 = .ok (.aload_n 0, 1) := by decide +kernel
theorem dX3_miss_117 : decode cX3_miss 117 = .ok (.getfield 23, 3) := by decide +kernel
theorem dX3_miss_120 : decode cX3_miss 120 = .ok (.irem, 1) := by decide +kernel
theorem dX3_miss_121 : decode cX3_miss 121 = .ok (.invokevirtual 81, 3) := by decide +kernel
theorem dX3_miss_124 : decode cX3_miss 124 = .ok (.lastore, 1) := by decide +kernel
theorem dX3_miss_125 : decode cX3_miss 125 = .ok (.iinc 5 1, 3) := by decide +kernel
theorem dX3_miss_128 : decode cX3_miss 128 = .ok (.goto (-51), 3) := by decide +kernel
theorem dX3_miss_131 : decode cX3_miss 131 = .ok (.iconst (-1), 1) := by decide +kernel
theorem dX3_miss_132 : decode cX3_miss 132 = .ok (.istore 5, 2) := by decide +kernel
theorem dX3_miss_134 : decode cX3_miss 134 = .ok (.iconst 0, 1) := by decide +kernel
theorem dX3_miss_135 : decode cX3_miss 135 = .ok (.istore 6, 2) := by decide +kernel
theorem dX3_miss_137 : decode cX3_miss 137 = .ok (.iload 6, 2) := by decide +kernel
theorem dX3_miss_139 : decode cX3_miss 139 = .ok (.aload_n 0, 1) := by decide +kernel
theorem dX3_miss_140 : decode cX3_miss 140 = .ok (.getfield 23, 3) := by decide +kernel
theorem dX3_miss_143 : decode cX3_miss 143 = .ok (.if_icmp .gt 106, 3) := by decide +kernel
theorem dX3_miss_146 : decode cX3_miss 146 = .ok (.iconst 0, 1) := by decide +kernel
theorem dX3_miss_147 : decode cX3_miss 147 = .ok (.istore 7, 2) := by decide +kernel
theorem dX3_miss_149 : decode cX3_miss 149 = .ok (.iload 7, 2) := by decide +kernel
theorem dX3_miss_151 : decode cX3_miss 151 = .ok (.aload_n 0, 1) := by decide +kernel
theorem dX3_miss_152 : decode cX3_miss 152 = .ok (.getfield 23, 3) := by decide +kernel
theorem dX3_miss_155 : decode cX3_miss 155 = .ok (.if_icmp .gt 88, 3) := by decide +kernel
theorem dX3_miss_158 : decode cX3_miss 158 = .ok (.aload_n 0, 1) := by decide +kernel
theorem dX3_miss_159 : decode cX3_miss 159 = .ok (.aload_n 0, 1) := by decide +kernel
theorem dX3_miss_160 : decode cX3_miss 160 = .ok (.iload_n 1, 1) := by decide +kernel
theorem dX3_miss_161 : decode cX3_miss 161 = .ok (.aload_n 0, 1) := by decide +kernel
theorem dX3_miss_162 : decode cX3_miss 162 = .ok (.getfield 13, 3) := by decide +kernel
theorem dX3_miss_165 : decode cX3_miss 165 = .ok (.iload 6, 2) := by decide +kernel
theorem dX3_miss_167 : decode cX3_miss 167 = .ok (.laload, 1) := by decide +kernel
theorem dX3_miss_168 : decode cX3_miss 168 = .ok (.aload_n 0, 1) := by decide +kernel
theorem dX3_miss_169 : decode cX3_miss 169 = .ok (.getfield 16, 3) := by decide +kernel
theorem dX3_miss_172 : decode cX3_miss 172 = .ok (.iload 7, 2) := by decide +kernel
theorem dX3_miss_174 : decode cX3_miss 174 = .ok (.laload, 1) := by decide +kernel
theorem dX3_miss_175 : decode cX3_miss 175 = .ok (.lconst 0, 1) := by decide +kernel
theorem dX3_miss_176 : decode cX3_miss 176 = .ok (.invokevirtual 73, 3) := by decide +kernel
theorem dX3_miss_179 : decode cX3_miss 179 = .ok (.invokevirtual 61, 3) := by decide +kernel
theorem dX3_miss_182 : decode cX3_miss 182 = .ok (.aload_n 0, 1) := by decide +kernel
theorem dX3_miss_183 : decode cX3_miss 183 = .ok (.getfield 23, 3) := by decide +kernel
theorem dX3_miss_186 : decode cX3_miss 186 = .ok (.imul, 1) := by decide +kernel
theorem dX3_miss_187 : decode cX3_miss 187 = .ok (.aload_n 0, 1) := by decide +kernel
theorem dX3_miss_188 : decode cX3_miss 188 = .ok (.iload_n 1, 1) := by decide +kernel
theorem dX3_miss_189 : decode cX3_miss 189 = .ok (.iload 6, 2) := by decide +kernel
theorem dX3_miss_191 : decode cX3_miss 191 = .ok (.iload 7, 2) := by decide +kernel
theorem dX3_miss_193 : decode cX3_miss 193 = .ok (.invokevirtual 95, 3) := by decide +kernel
theorem dX3_miss_196 : decode cX3_miss 196 = .ok (.isub, 1) := by decide +kernel
theorem dX3_miss_197 : decode cX3_miss 197 = .ok (.istore 8, 2) := by decide +kernel
theorem dX3_miss_199 : decode cX3_miss 199 = .ok (.iload 8, 2) := by decide +kernel
theorem dX3_miss_201 : decode cX3_miss 201 = .ok (.ifCond .ge 9, 3) := by decide +kernel
theorem dX3_miss_204 : decode cX3_miss 204 = .ok (.iload 8, 2) := by decide +kernel
theorem dX3_miss_206 : decode cX3_miss 206 = .ok (.ineg, 1) := by decide +kernel
theorem dX3_miss_207 : decode cX3_miss 207 = .ok (.goto 5, 3) := by decide +kernel
theorem dX3_miss_210 : decode cX3_miss 210 = .ok (.iload 8, 2) := by decide +kernel
theorem dX3_miss_212 : decode cX3_miss 212 = .ok (.istore 8, 2) := by decide +kernel
theorem dX3_miss_214 : decode cX3_miss 214 = .ok (.iload 8, 2) := by decide +kernel
theorem dX3_miss_216 : decode cX3_miss 216 = .ok (.iload 5, 2) := by decide +kernel
theorem dX3_miss_218 : decode cX3_miss 218 = .ok (.if_icmp .le 19, 3) := by decide +kernel
theorem dX3_miss_221 : decode cX3_miss 221 = .ok (.iload 8, 2) := by decide +kernel
theorem dX3_miss_223 : decode cX3_miss 223 = .ok (.istore 5, 2) := by decide +kernel
theorem dX3_miss_225 : decode cX3_miss 225 = .ok (.aload_n 0, 1) := by decide +kernel
theorem dX3_miss_226 : decode cX3_miss 226 = .ok (.iload 6, 2) := by decide +kernel
theorem dX3_miss_228 : decode cX3_miss 228 = .ok (.putfield 98, 3) := by decide +kernel
theorem dX3_miss_231 : decode cX3_miss 231 = .ok (.aload_n 0, 1) := by decide +kernel
theorem dX3_miss_232 : decode cX3_miss 232 = .ok (.iload 7, 2) := by decide +kernel
theorem dX3_miss_234 : decode cX3_miss 234 = .ok (.putfield 101, 3) := by decide +kernel
theorem dX3_miss_237 : decode cX3_miss 237 = .ok (.iinc 7 1, 3) := by decide +kernel
theorem dX3_miss_240 : decode cX3_miss 240 = .ok (.goto (-91), 3) := by decide +kernel
theorem dX3_miss_243 : decode cX3_miss 243 = .ok (.iinc 6 1, 3) := by decide +kernel
theorem dX3_miss_246 : decode cX3_miss 246 = .ok (.goto (-109), 3) := by decide +kernel
theorem dX3_miss_249 : decode cX3_miss 249 = .ok (.iload 5, 2) := by decide +kernel
theorem dX3_miss_251 : decode cX3_miss 251 = .ok (.ireturn, 1) := by decide +kernel
theorem dX3_where_0 : decode cX3_where 0 = .ok (.aload_n 0, 1) := by decide +kernel
theorem dX3_where_1 : decode cX3_where 1 = .ok (.getfield 92, 3) := by decide +kernel
theorem dX3_where_4 : decode cX3_where 4 = .ok (.ifCond .ne 6, 3) := by decide +kernel
theorem dX3_where_7 : decode cX3_where 7 = .ok (.bipush (-103), 2) := by decide +kernel
theorem dX3_where_9 : decode cX3_where 9 = .ok (.ireturn, 1) := by decide +kernel
theorem dX3_where_10 : decode cX3_where 10 = .ok (.iload_n 1, 1) := by decide +kernel
theorem dX3_where_11 : decode cX3_where 11 = .ok (.ifCond .ne 10, 3) := by decide +kernel
theorem dX3_where_14 : decode cX3_where 14 = .ok (.aload_n 0, 1) := by decide +kernel
theorem dX3_where_15 : decode cX3_where 15 = .ok (.getfield 98, 3) := by decide +kernel
theorem dX3_where_18 : decode cX3_where 18 = .ok (.goto 17, 3) := by decide +kernel
theorem dX3_where_21 : decode cX3_where 21 = .ok (.iload_n 1, 1) := by decide +kernel
theorem dX3_where_22 : decode cX3_where 22 = .ok (.iconst 1, 1) := by decide +kernel
theorem dX3_where_23 : decode cX3_where 23 = .ok (.if_icmp .ne 10, 3) := by decide +kernel
theorem dX3_where_26 : decode cX3_where 26 = .ok (.aload_n 0, 1) := by decide +kernel
theorem dX3_where_27 : decode cX3_where 27 = .ok (.getfield 101, 3) := by decide +kernel
theorem dX3_where_30 : decode cX3_where 30 = .ok (.goto 5, 3) := by decide +kernel
theorem dX3_where_33 : decode cX3_where 33 = .ok (.bipush (-102), 2) := by decide +kernel
theorem dX3_where_35 : decode cX3_where 35 = .ok (.ireturn, 1) := by decide +kernel
set_option maxRecDepth 20000 in
theorem ggX3_isMachine_X3_in : GoodIn wsX3_isMachine wsX3_in := goodIn_r _ [6] (by decide +kernel) (by decide +kernel)
set_option maxRecDepth 20000 in
theorem gX3_isMachine_X3_in : GoodIn wsX3_isMachine (va_wsS RX3 35 yX3_in wsX3_in) := goodIn_app (goodIn_of _ (by decide +kernel)) ggX3_isMachine_X3_in
theorem dX3_isMachine_0 : decode cX3_isMachine 0 = .ok (.iload_n 0, 1) := by decide +kernel
theorem dX3_isMachine_1 : decode cX3_isMachine 1 = .ok (.i2l, 1) := by decide +kernel
theorem dX3_isMachine_2 : decode cX3_isMachine 2 = .ok (.ldc2_w 104, 3) := by decide +kernel
theorem dX3_isMachine_5 : decode cX3_isMachine 5 = .ok (.ldc2_w 106, 3) := by decide +kernel
theorem dX3_isMachine_8 : decode cX3_isMachine 8 = .ok (.invokestatic 35, 3) := by decide +kernel
theorem dX3_isMachine_11 : decode cX3_isMachine 11 = .ok (.ifCond .eq 13, 3) := by decide +kernel
theorem dX3_isMachine_14 : decode cX3_isMachine 14 = .ok (.iload_n 0, 1) := by decide +kernel
theorem dX3_isMachine_15 : decode cX3_isMachine 15 = .ok (.iconst 2, 1) := by decide +kernel
theorem dX3_isMachine_16 : decode cX3_isMachine 16 = .ok (.irem, 1) := by decide +kernel
theorem dX3_isMachine_17 : decode cX3_isMachine 17 = .ok (.ifCond .ne 7, 3) := by decide +kernel
theorem dX3_isMachine_20 : decode cX3_isMachine 20 = .ok (.iconst 1, 1) := by decide +kernel
theorem dX3_isMachine_21 : decode cX3_isMachine 21 = .ok (.goto 4, 3) := by decide +kernel
theorem dX3_isMachine_24 : decode cX3_isMachine 24 = .ok (.iconst 0, 1) := by decide +kernel
theorem dX3_isMachine_25 : decode cX3_isMachine 25 = .ok (.ireturn, 1) := by decide +kernel
set_option maxRecDepth 20000 in
theorem ggX3_machine_X3_isStream : GoodIn wsX3_machine wsX3_isStream := goodIn_r _ [7, 8, 9, 10, 6, 11] (by decide +kernel) (by decide +kernel)
set_option maxRecDepth 20000 in
theorem gX3_machine_X3_isStream : GoodIn wsX3_machine (va_wsS RX3 49 yX3_isStream wsX3_isStream) := goodIn_app (goodIn_of _ (by decide +kernel)) ggX3_machine_X3_isStream
set_option maxRecDepth 20000 in
theorem ggX3_machine_X3_isMachine : GoodIn wsX3_machine wsX3_isMachine := goodIn_r _ [14, 15, 16, 9, 10, 6, 11] (by decide +kernel) (by decide +kernel)
set_option maxRecDepth 20000 in
theorem gX3_machine_X3_isMachine : GoodIn wsX3_machine (va_wsS RX3 108 yX3_isMachine wsX3_isMachine) := goodIn_app (goodIn_of _ (by decide +kernel)) ggX3_machine_X3_isMachine
set_option maxRecDepth 20000 in
theorem ggX3_machine_X3_bitOf : GoodIn wsX3_machine wsX3_bitOf := goodIn_r _ [20] (by decide +kernel) (by decide +kernel)
set_option maxRecDepth 20000 in
theorem gX3_machine_X3_bitOf : GoodIn wsX3_machine (wsV RX3 39 RX3 yX3_bitOf wsX3_bitOf) := goodIn_app (goodIn_of _ (by decide +kernel)) ggX3_machine_X3_bitOf
set_option maxRecDepth 20000 in
theorem ggX3_machine_X3_onesOf : GoodIn wsX3_machine wsX3_onesOf := goodIn_r _ [24, 1, 17, 18, 19, 6, 20, 25, 26, 27, 28, 29, 30, 31, 32, 33, 34, 35, 36, 37] (by decide +kernel) (by decide +kernel)
set_option maxRecDepth 20000 in
theorem gX3_machine_X3_onesOf : GoodIn wsX3_machine (wsV RX3 61 RX3 yX3_onesOf wsX3_onesOf) := goodIn_app (goodIn_of _ (by decide +kernel)) ggX3_machine_X3_onesOf
theorem dX3_machine_0 : decode cX3_machine 0 = .ok (.iload_n 1, 1) := by decide +kernel
theorem dX3_machine_1 : decode cX3_machine 1 = .ok (.invokestatic 49, 3) := by decide +kernel
theorem dX3_machine_4 : decode cX3_machine 4 = .ok (.ifCond .eq 10, 3) := by decide +kernel
theorem dX3_machine_7 : decode cX3_machine 7 = .ok (.iload_n 3, 1) := by decide +kernel
theorem dX3_machine_8 : decode cX3_machine 8 = .ok (.invokestatic 49, 3) := by decide +kernel
theorem dX3_machine_11 : decode cX3_machine 11 = .ok (.ifCond .ne 6, 3) := by decide +kernel
theorem dX3_machine_14 : decode cX3_machine 14 = .ok (.bipush (-101), 2) := by decide +kernel
theorem dX3_machine_16 : decode cX3_machine 16 = .ok (.ireturn, 1) := by decide +kernel
theorem dX3_machine_17 : decode cX3_machine 17 = .ok (.iload_n 2, 1) := by decide +kernel
theorem dX3_machine_18 : decode cX3_machine 18 = .ok (.invokestatic 108, 3) := by decide +kernel
theorem dX3_machine_21 : decode cX3_machine 21 = .ok (.ifCond .ne 6, 3) := by decide +kernel
theorem dX3_machine_24 : decode cX3_machine 24 = .ok (.bipush (-102), 2) := by decide +kernel
theorem dX3_machine_26 : decode cX3_machine 26 = .ok (.ireturn, 1) := by decide +kernel
theorem dX3_machine_27 : decode cX3_machine 27 = .ok (.iload_n 2, 1) := by decide +kernel
theorem dX3_machine_28 : decode cX3_machine 28 = .ok (.iconst 2, 1) := by decide +kernel
theorem dX3_machine_29 : decode cX3_machine 29 = .ok (.idiv, 1) := by decide +kernel
theorem dX3_machine_30 : decode cX3_machine 30 = .ok (.iconst 1, 1) := by decide +kernel
theorem dX3_machine_31 : decode cX3_machine 31 = .ok (.isub, 1) := by decide +kernel
theorem dX3_machine_32 : decode cX3_machine 32 = .ok (.istore 4, 2) := by decide +kernel
theorem dX3_machine_34 : decode cX3_machine 34 = .ok (.lconst 0, 1) := by decide +kernel
theorem dX3_machine_35 : decode cX3_machine 35 = .ok (.lstore 5, 2) := by decide +kernel
theorem dX3_machine_37 : decode cX3_machine 37 = .ok (.iconst 0, 1) := by decide +kernel
theorem dX3_machine_38 : decode cX3_machine 38 = .ok (.istore 7, 2) := by decide +kernel
theorem dX3_machine_40 : decode cX3_machine 40 = .ok (.iload 7, 2) := by decide +kernel
theorem dX3_machine_42 : decode cX3_machine 42 = .ok (.aload_n 0, 1) := by decide +kernel
theorem dX3_machine_43 : decode cX3_machine 43 = .ok (.getfield 23, 3) := by decide +kernel
theorem dX3_machine_46 : decode cX3_machine 46 = .ok (.if_icmp .ge 82, 3) := by decide +kernel
theorem dX3_machine_49 : decode cX3_machine 49 = .ok (.aload_n 0, 1) := by decide +kernel
theorem dX3_machine_50 : decode cX3_machine 50 = .ok (.aload_n 0, 1) := by decide +kernel
theorem dX3_machine_51 : decode cX3_machine 51 = .ok (.getfield 7, 3) := by decide +kernel
theorem dX3_machine_54 : decode cX3_machine 54 = .ok (.iload_n 1, 1) := by decide +kernel
theorem dX3_machine_55 : decode cX3_machine 55 = .ok (.laload, 1) := by decide +kernel
theorem dX3_machine_56 : decode cX3_machine 56 = .ok (.iload 7, 2) := by decide +kernel
theorem dX3_machine_58 : decode cX3_machine 58 = .ok (.invokevirtual 39, 3) := by decide +kernel
theorem dX3_machine_61 : decode cX3_machine 61 = .ok (.iconst 1, 1) := by decide +kernel
theorem dX3_machine_62 : decode cX3_machine 62 = .ok (.if_icmp .ne 24, 3) := by decide +kernel
theorem dX3_machine_65 : decode cX3_machine 65 = .ok (.iload 4, 2) := by decide +kernel
theorem dX3_machine_67 : decode cX3_machine 67 = .ok (.iload 4, 2) := by decide +kernel
theorem dX3_machine_69 : decode cX3_machine 69 = .ok (.iload_n 2, 1) := by decide +kernel
theorem dX3_machine_70 : decode cX3_machine 70 = .ok (.iconst 1, 1) := by decide +kernel
theorem dX3_machine_71 : decode cX3_machine 71 = .ok (.isub, 1) := by decide +kernel
theorem dX3_machine_72 : decode cX3_machine 72 = .ok (.if_icmp .ge 7, 3) := by decide +kernel
theorem dX3_machine_75 : decode cX3_machine 75 = .ok (.iconst 1, 1) := by decide +kernel
theorem dX3_machine_76 : decode cX3_machine 76 = .ok (.goto 4, 3) := by decide +kernel
theorem dX3_machine_79 : decode cX3_machine 79 = .ok (.iconst 0, 1) := by decide +kernel
theorem dX3_machine_80 : decode cX3_machine 80 = .ok (.iadd, 1) := by decide +kernel
theorem dX3_machine_81 : decode cX3_machine 81 = .ok (.istore 4, 2) := by decide +kernel
theorem dX3_machine_83 : decode cX3_machine 83 = .ok (.goto 18, 3) := by decide +kernel
theorem dX3_machine_86 : decode cX3_machine 86 = .ok (.iload 4, 2) := by decide +kernel
theorem dX3_machine_88 : decode cX3_machine 88 = .ok (.iload 4, 2) := by decide +kernel
theorem dX3_machine_90 : decode cX3_machine 90 = .ok (.ifCond .le 7, 3) := by decide +kernel
theorem dX3_machine_93 : decode cX3_machine 93 = .ok (.iconst 1, 1) := by decide +kernel
theorem dX3_machine_94 : decode cX3_machine 94 = .ok (.goto 4, 3) := by decide +kernel
theorem dX3_machine_97 : decode cX3_machine 97 = .ok (.iconst 0, 1) := by decide +kernel
theorem dX3_machine_98 : decode cX3_machine 98 = .ok (.isub, 1) := by decide +kernel
theorem dX3_machine_99 : decode cX3_machine 99 = .ok (.istore 4, 2) := by decide +kernel
theorem dX3_machine_101 : decode cX3_machine 101 = .ok (.lload 5, 2) := by decide +kernel
theorem dX3_machine_103 : decode cX3_machine 103 = .ok (.iload 4, 2) := by decide +kernel
theorem dX3_machine_105 : decode cX3_machine 105 = .ok (.iload_n 2, 1) := by decide +kernel
theorem dX3_machine_106 : decode cX3_machine 106 = .ok (.iconst 2, 1) := by decide +kernel
theorem dX3_machine_107 : decode cX3_machine 107 = .ok (.idiv, 1) := by decide +kernel
theorem dX3_machine_108 : decode cX3_machine 108 = .ok (.if_icmp .lt 10, 3) := by decide +kernel
theorem dX3_machine_111 : decode cX3_machine 111 = .ok (.lconst 1, 1) := by decide +kernel
theorem dX3_machine_112 : decode cX3_machine 112 = .ok (.iload 7, 2) := by decide +kernel
theorem dX3_machine_114 : decode cX3_machine 114 = .ok (.lshl, 1) := by decide +kernel
theorem dX3_machine_115 : decode cX3_machine 115 = .ok (.goto 4, 3) := by decide +kernel
theorem dX3_machine_118 : decode cX3_machine 118 = .ok (.lconst 0, 1) := by decide +kernel
theorem dX3_machine_119 : decode cX3_machine 119 = .ok (.lor, 1) := by decide +kernel
theorem dX3_machine_120 : decode cX3_machine 120 = .ok (.lstore 5, 2) := by decide +kernel
theorem dX3_machine_122 : decode cX3_machine 122 = .ok (.iinc 7 1, 3) := by decide +kernel
theorem dX3_machine_125 : decode cX3_machine 125 = .ok (.goto (-85), 3) := by decide +kernel
theorem dX3_machine_128 : decode cX3_machine 128 = .ok (.aload_n 0, 1) := by decide +kernel
theorem dX3_machine_129 : decode cX3_machine 129 = .ok (.getfield 7, 3) := by decide +kernel
theorem dX3_machine_132 : decode cX3_machine 132 = .ok (.iload_n 3, 1) := by decide +kernel
theorem dX3_machine_133 : decode cX3_machine 133 = .ok (.lload 5, 2) := by decide +kernel
theorem dX3_machine_135 : decode cX3_machine 135 = .ok (.lastore, 1) := by decide +kernel
theorem dX3_machine_136 : decode cX3_machine 136 = .ok (.aload_n 0, 1) := by decide +kernel
theorem dX3_machine_137 : decode cX3_machine 137 = .ok (.iload 4, 2) := by decide +kernel
theorem dX3_machine_139 : decode cX3_machine 139 = .ok (.putfield 27, 3) := by decide +kernel
theorem dX3_machine_142 : decode cX3_machine 142 = .ok (.aload_n 0, 1) := by decide +kernel
theorem dX3_machine_143 : decode cX3_machine 143 = .ok (.lload 5, 2) := by decide +kernel
theorem dX3_machine_145 : decode cX3_machine 145 = .ok (.invokevirtual 61, 3) := by decide +kernel
theorem dX3_machine_148 : decode cX3_machine 148 = .ok (.ireturn, 1) := by decide +kernel
theorem dX3_state_0 : decode cX3_state 0 = .ok (.aload_n 0, 1) := by decide +kernel
theorem dX3_state_1 : decode cX3_state 1 = .ok (.getfield 27, 3) := by decide +kernel
theorem dX3_state_4 : decode cX3_state 4 = .ok (.ireturn, 1) := by decide +kernel
theorem dX3_power_0 : decode cX3_power 0 = .ok (.lconst 1, 1) := by decide +kernel
theorem dX3_power_1 : decode cX3_power 1 = .ok (.lstore_n 3, 1) := by decide +kernel
theorem dX3_power_2 : decode cX3_power 2 = .ok (.iconst 0, 1) := by decide +kernel
theorem dX3_power_3 : decode cX3_power 3 = .ok (.istore 5, 2) := by decide +kernel
theorem dX3_power_5 : decode cX3_power 5 = .ok (.iload 5, 2) := by decide +kernel
theorem dX3_power_7 : decode cX3_power 7 = .ok (.iload_n 2, 1) := by decide +kernel
theorem dX3_power_8 : decode cX3_power 8 = .ok (.if_icmp .ge 13, 3) := by decide +kernel
theorem dX3_power_11 : decode cX3_power 11 = .ok (.lload_n 3, 1) := by decide +kernel
theorem dX3_power_12 : decode cX3_power 12 = .ok (.lload_n 0, 1) := by decide +kernel
theorem dX3_power_13 : decode cX3_power 13 = .ok (.lmul, 1) := by decide +kernel
theorem dX3_power_14 : decode cX3_power 14 = .ok (.lstore_n 3, 1) := by decide +kernel
theorem dX3_power_15 : decode cX3_power 15 = .ok (.iinc 5 1, 3) := by decide +kernel
theorem dX3_power_18 : decode cX3_power 18 = .ok (.goto (-13), 3) := by decide +kernel
theorem dX3_power_21 : decode cX3_power 21 = .ok (.lload_n 3, 1) := by decide +kernel
theorem dX3_power_22 : decode cX3_power 22 = .ok (.lreturn, 1) := by decide +kernel
theorem dX3_common_0 : decode cX3_common 0 = .ok (.lload_n 0, 1) := by decide +kernel
theorem dX3_common_1 : decode cX3_common 1 = .ok (.lconst 0, 1) := by decide +kernel
theorem dX3_common_2 : decode cX3_common 2 = .ok (.lcmp, 1) := by decide +kernel
theorem dX3_common_3 : decode cX3_common 3 = .ok (.ifCond .ge 8, 3) := by decide +kernel
theorem dX3_common_6 : decode cX3_common 6 = .ok (.lload_n 0, 1) := by decide +kernel
theorem dX3_common_7 : decode cX3_common 7 = .ok (.lneg, 1) := by decide +kernel
theorem dX3_common_8 : decode cX3_common 8 = .ok (.goto 4, 3) := by decide +kernel
theorem dX3_common_11 : decode cX3_common 11 = .ok (.lload_n 0, 1) := by decide +kernel
theorem dX3_common_12 : decode cX3_common 12 = .ok (.lstore 4, 2) := by decide +kernel
theorem dX3_common_14 : decode cX3_common 14 = .ok (.lload_n 2, 1) := by decide +kernel
theorem dX3_common_15 : decode cX3_common 15 = .ok (.lstore 6, 2) := by decide +kernel
theorem dX3_common_17 : decode cX3_common 17 = .ok (.lload 4, 2) := by decide +kernel
theorem dX3_common_19 : decode cX3_common 19 = .ok (.lconst 0, 1) := by decide +kernel
theorem dX3_common_20 : decode cX3_common 20 = .ok (.lcmp, 1) := by decide +kernel
theorem dX3_common_21 : decode cX3_common 21 = .ok (.ifCond .le 21, 3) := by decide +kernel
theorem dX3_common_24 : decode cX3_common 24 = .ok (.lload 6, 2) := by decide +kernel
theorem dX3_common_26 : decode cX3_common 26 = .ok (.lload 4, 2) := by decide +kernel
theorem dX3_common_28 : decode cX3_common 28 = .ok (.lrem, 1) := by decide +kernel
theorem dX3_common_29 : decode cX3_common 29 = .ok (.lstore 8, 2) := by decide +kernel
theorem dX3_common_31 : decode cX3_common 31 = .ok (.lload 4, 2) := by decide +kernel
theorem dX3_common_33 : decode cX3_common 33 = .ok (.lstore 6, 2) := by decide +kernel
theorem dX3_common_35 : decode cX3_common 35 = .ok (.lload 8, 2) := by decide +kernel
theorem dX3_common_37 : decode cX3_common 37 = .ok (.lstore 4, 2) := by decide +kernel
theorem dX3_common_39 : decode cX3_common 39 = .ok (.goto (-22), 3) := by decide +kernel
theorem dX3_common_42 : decode cX3_common 42 = .ok (.lload 6, 2) := by decide +kernel
theorem dX3_common_44 : decode cX3_common 44 = .ok (.lreturn, 1) := by decide +kernel
set_option maxRecDepth 20000 in
theorem ggX3_ever_X3_isMachine : GoodIn wsX3_ever wsX3_isMachine := goodIn_r _ [6, 7, 8, 9, 10, 5, 11] (by decide +kernel) (by decide +kernel)
set_option maxRecDepth 20000 in
theorem gX3_ever_X3_isMachine : GoodIn wsX3_ever (va_wsS RX3 108 yX3_isMachine wsX3_isMachine) := goodIn_app (goodIn_of _ (by decide +kernel)) ggX3_ever_X3_isMachine
set_option maxRecDepth 20000 in
theorem ggX3_ever_X3_in : GoodIn wsX3_ever wsX3_in := goodIn_r _ [11] (by decide +kernel) (by decide +kernel)
set_option maxRecDepth 20000 in
theorem gX3_ever_X3_in : GoodIn wsX3_ever (va_wsS RX3 35 yX3_in wsX3_in) := goodIn_app (goodIn_of _ (by decide +kernel)) ggX3_ever_X3_in
set_option maxRecDepth 20000 in
theorem ggX3_ever_X3_power : GoodIn wsX3_ever wsX3_power := goodIn_r _ [14] (by decide +kernel) (by decide +kernel)
set_option maxRecDepth 20000 in
theorem gX3_ever_X3_power : GoodIn wsX3_ever (va_wsS RX3 113 yX3_power wsX3_power) := goodIn_app (goodIn_of _ (by decide +kernel)) ggX3_ever_X3_power
set_option maxRecDepth 20000 in
theorem ggX3_ever_X3_common : GoodIn wsX3_ever wsX3_common := goodIn_r _ [17] (by decide +kernel) (by decide +kernel)
set_option maxRecDepth 20000 in
theorem gX3_ever_X3_common : GoodIn wsX3_ever (va_wsS RX3 116 yX3_common wsX3_common) := goodIn_app (goodIn_of _ (by decide +kernel)) ggX3_ever_X3_common
theorem dX3_ever_0 : decode cX3_ever 0 = .ok (.iload_n 1, 1) := by decide +kernel
theorem dX3_ever_1 : decode cX3_ever 1 = .ok (.invokestatic 108, 3) := by decide +kernel
theorem dX3_ever_4 : decode cX3_ever 4 = .ok (.ifCond .eq 27, 3) := by decide +kernel
theorem dX3_ever_7 : decode cX3_ever 7 = .ok (.iload_n 2, 1) := by decide +kernel
theorem dX3_ever_8 : decode cX3_ever 8 = .ok (.i2l, 1) := by decide +kernel
theorem dX3_ever_9 : decode cX3_ever 9 = .ok (.lconst 0, 1) := by decide +kernel
theorem dX3_ever_10 : decode cX3_ever 10 = .ok (.aload_n 0, 1) := by decide +kernel
theorem dX3_ever_11 : decode cX3_ever 11 = .ok (.getfield 23, 3) := by decide +kernel
theorem dX3_ever_14 : decode cX3_ever 14 = .ok (.i2l, 1) := by decide +kernel
theorem dX3_ever_15 : decode cX3_ever 15 = .ok (.invokestatic 35, 3) := by decide +kernel
theorem dX3_ever_18 : decode cX3_ever 18 = .ok (.ifCond .eq 13, 3) := by decide +kernel
theorem dX3_ever_21 : decode cX3_ever 21 = .ok (.iload_n 3, 1) := by decide +kernel
theorem dX3_ever_22 : decode cX3_ever 22 = .ok (.i2l, 1) := by decide +kernel
theorem dX3_ever_23 : decode cX3_ever 23 = .ok (.lconst 0, 1) := by decide +kernel
theorem dX3_ever_24 : decode cX3_ever 24 = .ok (.lconst 1, 1) := by decide +kernel
theorem dX3_ever_25 : decode cX3_ever 25 = .ok (.invokestatic 35, 3) := by decide +kernel
theorem dX3_ever_28 : decode cX3_ever 28 = .ok (.ifCond .ne 7, 3) := by decide +kernel
theorem dX3_ever_31 : decode cX3_ever 31 = .ok (.ldc2_w 111, 3) := by decide +kernel
theorem dX3_ever_34 : decode cX3_ever 34 = .ok (.lreturn, 1) := by decide +kernel
theorem dX3_ever_35 : decode cX3_ever 35 = .ok (.lconst 0, 1) := by decide +kernel
theorem dX3_ever_36 : decode cX3_ever 36 = .ok (.lstore 4, 2) := by decide +kernel
theorem dX3_ever_38 : decode cX3_ever 38 = .ok (.lconst 0, 1) := by decide +kernel
theorem dX3_ever_39 : decode cX3_ever 39 = .ok (.lstore 6, 2) := by decide +kernel
theorem dX3_ever_41 : decode cX3_ever 41 = .ok (.iconst 0, 1) := by decide +kernel
theorem dX3_ever_42 : decode cX3_ever 42 = .ok (.istore 8, 2) := by decide +kernel
theorem dX3_ever_44 : decode cX3_ever 44 = .ok (.iload 8, 2) := by decide +kernel
theorem dX3_ever_46 : decode cX3_ever 46 = .ok (.iload_n 1, 1) := by decide +kernel
theorem dX3_ever_47 : decode cX3_ever 47 = .ok (.if_icmp .ge 61, 3) := by decide +kernel
theorem dX3_ever_50 : decode cX3_ever 50 = .ok (.iload_n 2, 1) := by decide +kernel
theorem dX3_ever_51 : decode cX3_ever 51 = .ok (.i2l, 1) := by decide +kernel
theorem dX3_ever_52 : decode cX3_ever 52 = .ok (.iload 8, 2) := by decide +kernel
theorem dX3_ever_54 : decode cX3_ever 54 = .ok (.invokestatic 113, 3) := by decide +kernel
theorem dX3_ever_57 : decode cX3_ever 57 = .ok (.aload_n 0, 1) := by decide +kernel
theorem dX3_ever_58 : decode cX3_ever 58 = .ok (.getfield 23, 3) := by decide +kernel
theorem dX3_ever_61 : decode cX3_ever 61 = .ok (.iload_n 2, 1) := by decide +kernel
theorem dX3_ever_62 : decode cX3_ever 62 = .ok (.isub, 1) := by decide +kernel
theorem dX3_ever_63 : decode cX3_ever 63 = .ok (.i2l, 1) := by decide +kernel
theorem dX3_ever_64 : decode cX3_ever 64 = .ok (.iload_n 1, 1) := by decide +kernel
theorem dX3_ever_65 : decode cX3_ever 65 = .ok (.iconst 1, 1) := by decide +kernel
theorem dX3_ever_66 : decode cX3_ever 66 = .ok (.isub, 1) := by decide +kernel
theorem dX3_ever_67 : decode cX3_ever 67 = .ok (.iload 8, 2) := by decide +kernel
theorem dX3_ever_69 : decode cX3_ever 69 = .ok (.isub, 1) := by decide +kernel
theorem dX3_ever_70 : decode cX3_ever 70 = .ok (.invokestatic 113, 3) := by decide +kernel
theorem dX3_ever_73 : decode cX3_ever 73 = .ok (.lmul, 1) := by decide +kernel
theorem dX3_ever_74 : decode cX3_ever 74 = .ok (.lstore 9, 2) := by decide +kernel
theorem dX3_ever_76 : decode cX3_ever 76 = .ok (.lload 6, 2) := by decide +kernel
theorem dX3_ever_78 : decode cX3_ever 78 = .ok (.lload 9, 2) := by decide +kernel
theorem dX3_ever_80 : decode cX3_ever 80 = .ok (.ladd, 1) := by decide +kernel
theorem dX3_ever_81 : decode cX3_ever 81 = .ok (.lstore 6, 2) := by decide +kernel
theorem dX3_ever_83 : decode cX3_ever 83 = .ok (.lload 4, 2) := by decide +kernel
theorem dX3_ever_85 : decode cX3_ever 85 = .ok (.iload 8, 2) := by decide +kernel
theorem dX3_ever_87 : decode cX3_ever 87 = .ok (.iload_n 1, 1) := by decide +kernel
theorem dX3_ever_88 : decode cX3_ever 88 = .ok (.iconst 2, 1) := by decide +kernel
theorem dX3_ever_89 : decode cX3_ever 89 = .ok (.idiv, 1) := by decide +kernel
theorem dX3_ever_90 : decode cX3_ever 90 = .ok (.if_icmp .lt 8, 3) := by decide +kernel
theorem dX3_ever_93 : decode cX3_ever 93 = .ok (.lload 9, 2) := by decide +kernel
theorem dX3_ever_95 : decode cX3_ever 95 = .ok (.goto 4, 3) := by decide +kernel
theorem dX3_ever_98 : decode cX3_ever 98 = .ok (.lconst 0, 1) := by decide +kernel
theorem dX3_ever_99 : decode cX3_ever 99 = .ok (.ladd, 1) := by decide +kernel
theorem dX3_ever_100 : decode cX3_ever 100 = .ok (.lstore 4, 2) := by decide +kernel
theorem dX3_ever_102 : decode cX3_ever 102 = .ok (.iinc 8 1, 3) := by decide +kernel
theorem dX3_ever_105 : decode cX3_ever 105 = .ok (.goto (-61), 3) := by decide +kernel
theorem dX3_ever_108 : decode cX3_ever 108 = .ok (.lload 4, 2) := by decide +kernel
theorem dX3_ever_110 : decode cX3_ever 110 = .ok (.lload 6, 2) := by decide +kernel
theorem dX3_ever_112 : decode cX3_ever 112 = .ok (.invokestatic 116, 3) := by decide +kernel
theorem dX3_ever_115 : decode cX3_ever 115 = .ok (.lstore 8, 2) := by decide +kernel
theorem dX3_ever_117 : decode cX3_ever 117 = .ok (.iload_n 3, 1) := by decide +kernel
theorem dX3_ever_118 : decode cX3_ever 118 = .ok (.ifCond .ne 11, 3) := by decide +kernel
theorem dX3_ever_121 : decode cX3_ever 121 = .ok (.lload 4, 2) := by decide +kernel
theorem dX3_ever_123 : decode cX3_ever 123 = .ok (.lload 8, 2) := by decide +kernel
theorem dX3_ever_125 : decode cX3_ever 125 = .ok (.ldiv, 1) := by decide +kernel
theorem dX3_ever_126 : decode cX3_ever 126 = .ok (.goto 8, 3) := by decide +kernel
theorem dX3_ever_129 : decode cX3_ever 129 = .ok (.lload 6, 2) := by decide +kernel
theorem dX3_ever_131 : decode cX3_ever 131 = .ok (.lload 8, 2) := by decide +kernel
theorem dX3_ever_133 : decode cX3_ever 133 = .ok (.ldiv, 1) := by decide +kernel
theorem dX3_ever_134 : decode cX3_ever 134 = .ok (.lreturn, 1) := by decide +kernel
set_option maxRecDepth 20000 in
theorem ggX3_degree_X3_in : GoodIn wsX3_degree wsX3_in := goodIn_r _ [9] (by decide +kernel) (by decide +kernel)
set_option maxRecDepth 20000 in
theorem gX3_degree_X3_in : GoodIn wsX3_degree (va_wsS RX3 35 yX3_in wsX3_in) := goodIn_app (goodIn_of _ (by decide +kernel)) ggX3_degree_X3_in
theorem dX3_degree_0 : decode cX3_degree 0 = .ok (.iload_n 1, 1) := by decide +kernel
theorem dX3_degree_1 : decode cX3_degree 1 = .ok (.i2l, 1) := by decide +kernel
theorem dX3_degree_2 : decode cX3_degree 2 = .ok (.lconst 0, 1) := by decide +kernel
theorem dX3_degree_3 : decode cX3_degree 3 = .ok (.ldc2_w 120, 3) := by decide +kernel
theorem dX3_degree_6 : decode cX3_degree 6 = .ok (.invokestatic 35, 3) := by decide +kernel
theorem dX3_degree_9 : decode cX3_degree 9 = .ok (.ifCond .eq 15, 3) := by decide +kernel
theorem dX3_degree_12 : decode cX3_degree 12 = .ok (.iload_n 2, 1) := by decide +kernel
theorem dX3_degree_13 : decode cX3_degree 13 = .ok (.i2l, 1) := by decide +kernel
theorem dX3_degree_14 : decode cX3_degree 14 = .ok (.lconst 1, 1) := by decide +kernel
theorem dX3_degree_15 : decode cX3_degree 15 = .ok (.ldc2_w 122, 3) := by decide +kernel
theorem dX3_degree_18 : decode cX3_degree 18 = .ok (.invokestatic 35, 3) := by decide +kernel
theorem dX3_degree_21 : decode cX3_degree 21 = .ok (.ifCond .ne 6, 3) := by decide +kernel
theorem dX3_degree_24 : decode cX3_degree 24 = .ok (.bipush (-102), 2) := by decide +kernel
theorem dX3_degree_26 : decode cX3_degree 26 = .ok (.ireturn, 1) := by decide +kernel
theorem dX3_degree_27 : decode cX3_degree 27 = .ok (.aload_n 0, 1) := by decide +kernel
theorem dX3_degree_28 : decode cX3_degree 28 = .ok (.iload_n 1, 1) := by decide +kernel
end
section
theorem dX3_degree_29 : decode cX3_degree 29 = .ok (.putfield 124, 3) := by decide +kernel
theorem dX3_degree_32 : decode cX3_degree 32 = .ok (.aload_n 0, 1) := by decide +kernel
theorem dX3_degree_33 : decode cX3_degree 33 = .ok (.iload_n 2, 1) := by decide +kernel
theorem dX3_degree_34 : decode cX3_degree 34 = .ok (.putfield 30, 3) := by decide +kernel
theorem dX3_degree_37 : decode cX3_degree 37 = .ok (.iload_n 1, 1) := by decide +kernel
theorem dX3_degree_38 : decode cX3_degree 38 = .ok (.iconst 1, 1) := by decide +kernel
theorem dX3_degree_39 : decode cX3_degree 39 = .ok (.iadd, 1) := by decide +kernel
theorem dX3_degree_40 : decode cX3_degree 40 = .ok (.istore_n 3, 1) := by decide +kernel
theorem dX3_degree_41 : decode cX3_degree 41 = .ok (.iload_n 3, 1) := by decide +kernel
theorem dX3_degree_42 : decode cX3_degree 42 = .ok (.iconst 5, 1) := by decide +kernel
theorem dX3_degree_43 : decode cX3_degree 43 = .ok (.if_icmp .ge 16, 3) := by decide +kernel
theorem dX3_degree_46 : decode cX3_degree 46 = .ok (.aload_n 0, 1) := by decide +kernel
theorem dX3_degree_47 : decode cX3_degree 47 = .ok (.getfield 19, 3) := by decide +kernel
theorem dX3_degree_50 : decode cX3_degree 50 = .ok (.iload_n 3, 1) := by decide +kernel
theorem dX3_degree_51 : decode cX3_degree 51 = .ok (.iconst 0, 1) := by decide +kernel
theorem dX3_degree_52 : decode cX3_degree 52 = .ok (.iastore, 1) := by decide +kernel
theorem dX3_degree_53 : decode cX3_degree 53 = .ok (.iinc 3 1, 3) := by decide +kernel
theorem dX3_degree_56 : decode cX3_degree 56 = .ok (.goto (-15), 3) := by decide +kernel
theorem dX3_degree_59 : decode cX3_degree 59 = .ok (.iload_n 1, 1) := by decide +kernel
theorem dX3_degree_60 : decode cX3_degree 60 = .ok (.ireturn, 1) := by decide +kernel
set_option maxRecDepth 20000 in
theorem ggX3_term_X3_in : GoodIn wsX3_term wsX3_in := goodIn_r _ [8] (by decide +kernel) (by decide +kernel)
set_option maxRecDepth 20000 in
theorem gX3_term_X3_in : GoodIn wsX3_term (va_wsS RX3 35 yX3_in wsX3_in) := goodIn_app (goodIn_of _ (by decide +kernel)) ggX3_term_X3_in
theorem dX3_term_0 : decode cX3_term 0 = .ok (.iload_n 1, 1) := by decide +kernel
theorem dX3_term_1 : decode cX3_term 1 = .ok (.i2l, 1) := by decide +kernel
theorem dX3_term_2 : decode cX3_term 2 = .ok (.lconst 0, 1) := by decide +kernel
theorem dX3_term_3 : decode cX3_term 3 = .ok (.aload_n 0, 1) := by decide +kernel
theorem dX3_term_4 : decode cX3_term 4 = .ok (.getfield 124, 3) := by decide +kernel
theorem dX3_term_7 : decode cX3_term 7 = .ok (.i2l, 1) := by decide +kernel
theorem dX3_term_8 : decode cX3_term 8 = .ok (.invokestatic 35, 3) := by decide +kernel
theorem dX3_term_11 : decode cX3_term 11 = .ok (.ifCond .ne 6, 3) := by decide +kernel
theorem dX3_term_14 : decode cX3_term 14 = .ok (.bipush (-101), 2) := by decide +kernel
theorem dX3_term_16 : decode cX3_term 16 = .ok (.ireturn, 1) := by decide +kernel
theorem dX3_term_17 : decode cX3_term 17 = .ok (.iload_n 2, 1) := by decide +kernel
theorem dX3_term_18 : decode cX3_term 18 = .ok (.i2l, 1) := by decide +kernel
theorem dX3_term_19 : decode cX3_term 19 = .ok (.ldc2_w 127, 3) := by decide +kernel
theorem dX3_term_22 : decode cX3_term 22 = .ok (.ldc2_w 122, 3) := by decide +kernel
theorem dX3_term_25 : decode cX3_term 25 = .ok (.invokestatic 35, 3) := by decide +kernel
theorem dX3_term_28 : decode cX3_term 28 = .ok (.ifCond .ne 6, 3) := by decide +kernel
theorem dX3_term_31 : decode cX3_term 31 = .ok (.bipush (-102), 2) := by decide +kernel
theorem dX3_term_33 : decode cX3_term 33 = .ok (.ireturn, 1) := by decide +kernel
theorem dX3_term_34 : decode cX3_term 34 = .ok (.aload_n 0, 1) := by decide +kernel
theorem dX3_term_35 : decode cX3_term 35 = .ok (.getfield 19, 3) := by decide +kernel
theorem dX3_term_38 : decode cX3_term 38 = .ok (.iload_n 1, 1) := by decide +kernel
theorem dX3_term_39 : decode cX3_term 39 = .ok (.iaload, 1) := by decide +kernel
theorem dX3_term_40 : decode cX3_term 40 = .ok (.istore_n 3, 1) := by decide +kernel
theorem dX3_term_41 : decode cX3_term 41 = .ok (.aload_n 0, 1) := by decide +kernel
theorem dX3_term_42 : decode cX3_term 42 = .ok (.getfield 19, 3) := by decide +kernel
theorem dX3_term_45 : decode cX3_term 45 = .ok (.iload_n 1, 1) := by decide +kernel
theorem dX3_term_46 : decode cX3_term 46 = .ok (.iload_n 2, 1) := by decide +kernel
theorem dX3_term_47 : decode cX3_term 47 = .ok (.iastore, 1) := by decide +kernel
theorem dX3_term_48 : decode cX3_term 48 = .ok (.iload_n 3, 1) := by decide +kernel
theorem dX3_term_49 : decode cX3_term 49 = .ok (.ireturn, 1) := by decide +kernel
theorem dX3_chosen_0 : decode cX3_chosen 0 = .ok (.lconst 1, 1) := by decide +kernel
theorem dX3_chosen_1 : decode cX3_chosen 1 = .ok (.lstore_n 2, 1) := by decide +kernel
theorem dX3_chosen_2 : decode cX3_chosen 2 = .ok (.iconst 0, 1) := by decide +kernel
theorem dX3_chosen_3 : decode cX3_chosen 3 = .ok (.istore 4, 2) := by decide +kernel
theorem dX3_chosen_5 : decode cX3_chosen 5 = .ok (.iload 4, 2) := by decide +kernel
theorem dX3_chosen_7 : decode cX3_chosen 7 = .ok (.iload_n 1, 1) := by decide +kernel
theorem dX3_chosen_8 : decode cX3_chosen 8 = .ok (.if_icmp .ge 23, 3) := by decide +kernel
theorem dX3_chosen_11 : decode cX3_chosen 11 = .ok (.lload_n 2, 1) := by decide +kernel
theorem dX3_chosen_12 : decode cX3_chosen 12 = .ok (.iload_n 0, 1) := by decide +kernel
theorem dX3_chosen_13 : decode cX3_chosen 13 = .ok (.iload 4, 2) := by decide +kernel
theorem dX3_chosen_15 : decode cX3_chosen 15 = .ok (.isub, 1) := by decide +kernel
theorem dX3_chosen_16 : decode cX3_chosen 16 = .ok (.i2l, 1) := by decide +kernel
theorem dX3_chosen_17 : decode cX3_chosen 17 = .ok (.lmul, 1) := by decide +kernel
theorem dX3_chosen_18 : decode cX3_chosen 18 = .ok (.iload 4, 2) := by decide +kernel
theorem dX3_chosen_20 : decode cX3_chosen 20 = .ok (.iconst 1, 1) := by decide +kernel
theorem dX3_chosen_21 : decode cX3_chosen 21 = .ok (.iadd, 1) := by decide +kernel
theorem dX3_chosen_22 : decode cX3_chosen 22 = .ok (.i2l, 1) := by decide +kernel
theorem dX3_chosen_23 : decode cX3_chosen 23 = .ok (.ldiv, 1) := by decide +kernel
theorem dX3_chosen_24 : decode cX3_chosen 24 = .ok (.lstore_n 2, 1) := by decide +kernel
theorem dX3_chosen_25 : decode cX3_chosen 25 = .ok (.iinc 4 1, 3) := by decide +kernel
theorem dX3_chosen_28 : decode cX3_chosen 28 = .ok (.goto (-23), 3) := by decide +kernel
theorem dX3_chosen_31 : decode cX3_chosen 31 = .ok (.lload_n 2, 1) := by decide +kernel
theorem dX3_chosen_32 : decode cX3_chosen 32 = .ok (.lreturn, 1) := by decide +kernel
set_option maxRecDepth 20000 in
theorem ggX3_findPart_X3_chosen : GoodIn wsX3_findPart wsX3_chosen := goodIn_r _ [9] (by decide +kernel) (by decide +kernel)
set_option maxRecDepth 20000 in
theorem gX3_findPart_X3_chosen : GoodIn wsX3_findPart (va_wsS RX3 129 yX3_chosen wsX3_chosen) := goodIn_app (goodIn_of _ (by decide +kernel)) ggX3_findPart_X3_chosen
set_option maxRecDepth 20000 in
theorem ggX3_findPart_X3_common : GoodIn wsX3_findPart wsX3_common := goodIn_r _ [12] (by decide +kernel) (by decide +kernel)
set_option maxRecDepth 20000 in
theorem gX3_findPart_X3_common : GoodIn wsX3_findPart (va_wsS RX3 116 yX3_common wsX3_common) := goodIn_app (goodIn_of _ (by decide +kernel)) ggX3_findPart_X3_common
theorem dX3_findPart_0 : decode cX3_findPart 0 = .ok (.lconst 1, 1) := by decide +kernel
theorem dX3_findPart_1 : decode cX3_findPart 1 = .ok (.lstore_n 3, 1) := by decide +kernel
theorem dX3_findPart_2 : decode cX3_findPart 2 = .ok (.iconst 0, 1) := by decide +kernel
theorem dX3_findPart_3 : decode cX3_findPart 3 = .ok (.istore 5, 2) := by decide +kernel
theorem dX3_findPart_5 : decode cX3_findPart 5 = .ok (.iload 5, 2) := by decide +kernel
theorem dX3_findPart_7 : decode cX3_findPart 7 = .ok (.aload_n 0, 1) := by decide +kernel
theorem dX3_findPart_8 : decode cX3_findPart 8 = .ok (.getfield 124, 3) := by decide +kernel
theorem dX3_findPart_11 : decode cX3_findPart 11 = .ok (.if_icmp .gt 18, 3) := by decide +kernel
theorem dX3_findPart_14 : decode cX3_findPart 14 = .ok (.lload_n 3, 1) := by decide +kernel
theorem dX3_findPart_15 : decode cX3_findPart 15 = .ok (.iload_n 1, 1) := by decide +kernel
theorem dX3_findPart_16 : decode cX3_findPart 16 = .ok (.iload 5, 2) := by decide +kernel
theorem dX3_findPart_18 : decode cX3_findPart 18 = .ok (.invokestatic 129, 3) := by decide +kernel
theorem dX3_findPart_21 : decode cX3_findPart 21 = .ok (.lmul, 1) := by decide +kernel
theorem dX3_findPart_22 : decode cX3_findPart 22 = .ok (.lstore_n 3, 1) := by decide +kernel
theorem dX3_findPart_23 : decode cX3_findPart 23 = .ok (.iinc 5 1, 3) := by decide +kernel
theorem dX3_findPart_26 : decode cX3_findPart 26 = .ok (.goto (-21), 3) := by decide +kernel
theorem dX3_findPart_29 : decode cX3_findPart 29 = .ok (.lconst 0, 1) := by decide +kernel
theorem dX3_findPart_30 : decode cX3_findPart 30 = .ok (.lstore 5, 2) := by decide +kernel
theorem dX3_findPart_32 : decode cX3_findPart 32 = .ok (.iconst 0, 1) := by decide +kernel
theorem dX3_findPart_33 : decode cX3_findPart 33 = .ok (.istore 7, 2) := by decide +kernel
theorem dX3_findPart_35 : decode cX3_findPart 35 = .ok (.iload 7, 2) := by decide +kernel
theorem dX3_findPart_37 : decode cX3_findPart 37 = .ok (.aload_n 0, 1) := by decide +kernel
theorem dX3_findPart_38 : decode cX3_findPart 38 = .ok (.getfield 124, 3) := by decide +kernel
theorem dX3_findPart_41 : decode cX3_findPart 41 = .ok (.if_icmp .gt 44, 3) := by decide +kernel
theorem dX3_findPart_44 : decode cX3_findPart 44 = .ok (.iload 7, 2) := by decide +kernel
theorem dX3_findPart_46 : decode cX3_findPart 46 = .ok (.iload_n 2, 1) := by decide +kernel
theorem dX3_findPart_47 : decode cX3_findPart 47 = .ok (.if_icmp .gt 38, 3) := by decide +kernel
theorem dX3_findPart_50 : decode cX3_findPart 50 = .ok (.lload 5, 2) := by decide +kernel
theorem dX3_findPart_52 : decode cX3_findPart 52 = .ok (.iload_n 2, 1) := by decide +kernel
theorem dX3_findPart_53 : decode cX3_findPart 53 = .ok (.iload 7, 2) := by decide +kernel
theorem dX3_findPart_55 : decode cX3_findPart 55 = .ok (.invokestatic 129, 3) := by decide +kernel
theorem dX3_findPart_58 : decode cX3_findPart 58 = .ok (.aload_n 0, 1) := by decide +kernel
theorem dX3_findPart_59 : decode cX3_findPart 59 = .ok (.getfield 19, 3) := by decide +kernel
theorem dX3_findPart_62 : decode cX3_findPart 62 = .ok (.iload 7, 2) := by decide +kernel
theorem dX3_findPart_64 : decode cX3_findPart 64 = .ok (.iaload, 1) := by decide +kernel
theorem dX3_findPart_65 : decode cX3_findPart 65 = .ok (.i2l, 1) := by decide +kernel
theorem dX3_findPart_66 : decode cX3_findPart 66 = .ok (.lmul, 1) := by decide +kernel
theorem dX3_findPart_67 : decode cX3_findPart 67 = .ok (.lload_n 3, 1) := by decide +kernel
theorem dX3_findPart_68 : decode cX3_findPart 68 = .ok (.iload_n 1, 1) := by decide +kernel
theorem dX3_findPart_69 : decode cX3_findPart 69 = .ok (.iload 7, 2) := by decide +kernel
theorem dX3_findPart_71 : decode cX3_findPart 71 = .ok (.invokestatic 129, 3) := by decide +kernel
theorem dX3_findPart_74 : decode cX3_findPart 74 = .ok (.ldiv, 1) := by decide +kernel
theorem dX3_findPart_75 : decode cX3_findPart 75 = .ok (.lmul, 1) := by decide +kernel
theorem dX3_findPart_76 : decode cX3_findPart 76 = .ok (.ladd, 1) := by decide +kernel
theorem dX3_findPart_77 : decode cX3_findPart 77 = .ok (.lstore 5, 2) := by decide +kernel
theorem dX3_findPart_79 : decode cX3_findPart 79 = .ok (.iinc 7 1, 3) := by decide +kernel
theorem dX3_findPart_82 : decode cX3_findPart 82 = .ok (.goto (-47), 3) := by decide +kernel
theorem dX3_findPart_85 : decode cX3_findPart 85 = .ok (.lload_n 3, 1) := by decide +kernel
theorem dX3_findPart_86 : decode cX3_findPart 86 = .ok (.aload_n 0, 1) := by decide +kernel
theorem dX3_findPart_87 : decode cX3_findPart 87 = .ok (.getfield 30, 3) := by decide +kernel
theorem dX3_findPart_90 : decode cX3_findPart 90 = .ok (.i2l, 1) := by decide +kernel
theorem dX3_findPart_91 : decode cX3_findPart 91 = .ok (.lmul, 1) := by decide +kernel
theorem dX3_findPart_92 : decode cX3_findPart 92 = .ok (.lstore_n 3, 1) := by decide +kernel
theorem dX3_findPart_93 : decode cX3_findPart 93 = .ok (.lload 5, 2) := by decide +kernel
theorem dX3_findPart_95 : decode cX3_findPart 95 = .ok (.lload_n 3, 1) := by decide +kernel
theorem dX3_findPart_96 : decode cX3_findPart 96 = .ok (.invokestatic 116, 3) := by decide +kernel
theorem dX3_findPart_99 : decode cX3_findPart 99 = .ok (.lstore 7, 2) := by decide +kernel
theorem dX3_findPart_101 : decode cX3_findPart 101 = .ok (.aload_n 0, 1) := by decide +kernel
theorem dX3_findPart_102 : decode cX3_findPart 102 = .ok (.lload 5, 2) := by decide +kernel
theorem dX3_findPart_104 : decode cX3_findPart 104 = .ok (.lload 7, 2) := by decide +kernel
theorem dX3_findPart_106 : decode cX3_findPart 106 = .ok (.ldiv, 1) := by decide +kernel
theorem dX3_findPart_107 : decode cX3_findPart 107 = .ok (.putfield 132, 3) := by decide +kernel
theorem dX3_findPart_110 : decode cX3_findPart 110 = .ok (.aload_n 0, 1) := by decide +kernel
theorem dX3_findPart_111 : decode cX3_findPart 111 = .ok (.lload_n 3, 1) := by decide +kernel
theorem dX3_findPart_112 : decode cX3_findPart 112 = .ok (.lload 7, 2) := by decide +kernel
theorem dX3_findPart_114 : decode cX3_findPart 114 = .ok (.ldiv, 1) := by decide +kernel
theorem dX3_findPart_115 : decode cX3_findPart 115 = .ok (.putfield 136, 3) := by decide +kernel
theorem dX3_findPart_118 : decode cX3_findPart 118 = .ok (.return_, 1) := by decide +kernel
set_option maxRecDepth 20000 in
theorem ggX3_isPartial_X3_in : GoodIn wsX3_isPartial wsX3_in := goodIn_r _ [6] (by decide +kernel) (by decide +kernel)
set_option maxRecDepth 20000 in
theorem gX3_isPartial_X3_in : GoodIn wsX3_isPartial (va_wsS RX3 35 yX3_in wsX3_in) := goodIn_app (goodIn_of _ (by decide +kernel)) ggX3_isPartial_X3_in
theorem dX3_isPartial_0 : decode cX3_isPartial 0 = .ok (.iload_n 1, 1) := by decide +kernel
theorem dX3_isPartial_1 : decode cX3_isPartial 1 = .ok (.i2l, 1) := by decide +kernel
theorem dX3_isPartial_2 : decode cX3_isPartial 2 = .ok (.aload_n 0, 1) := by decide +kernel
theorem dX3_isPartial_3 : decode cX3_isPartial 3 = .ok (.getfield 124, 3) := by decide +kernel
theorem dX3_isPartial_6 : decode cX3_isPartial 6 = .ok (.i2l, 1) := by decide +kernel
theorem dX3_isPartial_7 : decode cX3_isPartial 7 = .ok (.ldc2_w 139, 3) := by decide +kernel
theorem dX3_isPartial_10 : decode cX3_isPartial 10 = .ok (.invokestatic 35, 3) := by decide +kernel
theorem dX3_isPartial_13 : decode cX3_isPartial 13 = .ok (.ireturn, 1) := by decide +kernel
set_option maxRecDepth 20000 in
theorem ggX3_part_X3_isPartial : GoodIn wsX3_part wsX3_isPartial := goodIn_r _ [9, 10, 11, 12, 13, 8, 14, 27, 28, 29, 30, 31, 32, 33, 34, 35, 36, 37, 38, 39] (by decide +kernel) (by decide +kernel)
set_option maxRecDepth 20000 in
theorem gX3_part_X3_isPartial : GoodIn wsX3_part (wsV RX3 141 RX3 yX3_isPartial wsX3_isPartial) := goodIn_app (goodIn_of _ (by decide +kernel)) ggX3_part_X3_isPartial
set_option maxRecDepth 20000 in
theorem ggX3_part_X3_in : GoodIn wsX3_part wsX3_in := goodIn_r _ [14] (by decide +kernel) (by decide +kernel)
set_option maxRecDepth 20000 in
theorem gX3_part_X3_in : GoodIn wsX3_part (va_wsS RX3 35 yX3_in wsX3_in) := goodIn_app (goodIn_of _ (by decide +kernel)) ggX3_part_X3_in
set_option maxRecDepth 20000 in
theorem ggX3_part_X3_findPart : GoodIn wsX3_part wsX3_findPart := goodIn_r _ [18, 10, 19, 20, 3, 4, 21, 22, 8, 23, 24, 25, 26, 27, 28, 29, 30, 31, 32, 33, 34, 35, 36, 37, 38, 39] (by decide +kernel) (by decide +kernel)
set_option maxRecDepth 20000 in
theorem gX3_part_X3_findPart : GoodIn wsX3_part (wsV RX3 146 RX3 yX3_findPart wsX3_findPart) := goodIn_app (goodIn_of _ (by decide +kernel)) ggX3_part_X3_findPart
theorem dX3_part_0 : decode cX3_part 0 = .ok (.aload_n 0, 1) := by decide +kernel
theorem dX3_part_1 : decode cX3_part 1 = .ok (.iload_n 1, 1) := by decide +kernel
theorem dX3_part_2 : decode cX3_part 2 = .ok (.invokevirtual 141, 3) := by decide +kernel
theorem dX3_part_5 : decode cX3_part 5 = .ok (.ifCond .eq 13, 3) := by decide +kernel
theorem dX3_part_8 : decode cX3_part 8 = .ok (.iload_n 3, 1) := by decide +kernel
theorem dX3_part_9 : decode cX3_part 9 = .ok (.i2l, 1) := by decide +kernel
theorem dX3_part_10 : decode cX3_part 10 = .ok (.lconst 0, 1) := by decide +kernel
theorem dX3_part_11 : decode cX3_part 11 = .ok (.lconst 1, 1) := by decide +kernel
theorem dX3_part_12 : decode cX3_part 12 = .ok (.invokestatic 35, 3) := by decide +kernel
theorem dX3_part_15 : decode cX3_part 15 = .ok (.ifCond .ne 7, 3) := by decide +kernel
theorem dX3_part_18 : decode cX3_part 18 = .ok (.ldc2_w 111, 3) := by decide +kernel
theorem dX3_part_21 : decode cX3_part 21 = .ok (.lreturn, 1) := by decide +kernel
theorem dX3_part_22 : decode cX3_part 22 = .ok (.iload_n 2, 1) := by decide +kernel
theorem dX3_part_23 : decode cX3_part 23 = .ok (.i2l, 1) := by decide +kernel
theorem dX3_part_24 : decode cX3_part 24 = .ok (.lconst 0, 1) := by decide +kernel
theorem dX3_part_25 : decode cX3_part 25 = .ok (.iload_n 1, 1) := by decide +kernel
theorem dX3_part_26 : decode cX3_part 26 = .ok (.i2l, 1) := by decide +kernel
theorem dX3_part_27 : decode cX3_part 27 = .ok (.invokestatic 35, 3) := by decide +kernel
theorem dX3_part_30 : decode cX3_part 30 = .ok (.ifCond .ne 7, 3) := by decide +kernel
theorem dX3_part_33 : decode cX3_part 33 = .ok (.ldc2_w 144, 3) := by decide +kernel
theorem dX3_part_36 : decode cX3_part 36 = .ok (.lreturn, 1) := by decide +kernel
theorem dX3_part_37 : decode cX3_part 37 = .ok (.aload_n 0, 1) := by decide +kernel
theorem dX3_part_38 : decode cX3_part 38 = .ok (.iload_n 1, 1) := by decide +kernel
theorem dX3_part_39 : decode cX3_part 39 = .ok (.iload_n 2, 1) := by decide +kernel
theorem dX3_part_40 : decode cX3_part 40 = .ok (.invokevirtual 146, 3) := by decide +kernel
theorem dX3_part_43 : decode cX3_part 43 = .ok (.iload_n 3, 1) := by decide +kernel
theorem dX3_part_44 : decode cX3_part 44 = .ok (.ifCond .ne 10, 3) := by decide +kernel
theorem dX3_part_47 : decode cX3_part 47 = .ok (.aload_n 0, 1) := by decide +kernel
theorem dX3_part_48 : decode cX3_part 48 = .ok (.getfield 132, 3) := by decide +kernel
theorem dX3_part_51 : decode cX3_part 51 = .ok (.goto 7, 3) := by decide +kernel
theorem dX3_part_54 : decode cX3_part 54 = .ok (.aload_n 0, 1) := by decide +kernel
theorem dX3_part_55 : decode cX3_part 55 = .ok (.getfield 136, 3) := by decide +kernel
theorem dX3_part_58 : decode cX3_part 58 = .ok (.lreturn, 1) := by decide +kernel
set_option maxRecDepth 20000 in
theorem ggX3_mayBeMade_X3_findPart : GoodIn wsX3_mayBeMade wsX3_findPart := goodIn_r _ [7, 8, 9, 10, 1, 2, 11, 12, 6, 13, 14, 15, 16, 17, 18, 19, 20, 21, 22, 23, 24, 25, 26, 27, 28, 29] (by decide +kernel) (by decide +kernel)
set_option maxRecDepth 20000 in
theorem gX3_mayBeMade_X3_findPart : GoodIn wsX3_mayBeMade (wsV RX3 146 RX3 yX3_findPart wsX3_findPart) := goodIn_app (goodIn_of _ (by decide +kernel)) ggX3_mayBeMade_X3_findPart
theorem dX3_mayBeMade_0 : decode cX3_mayBeMade 0 = .ok (.iconst 1, 1) := by decide +kernel
theorem dX3_mayBeMade_1 : decode cX3_mayBeMade 1 = .ok (.istore_n 2, 1) := by decide +kernel
theorem dX3_mayBeMade_2 : decode cX3_mayBeMade 2 = .ok (.iconst 0, 1) := by decide +kernel
theorem dX3_mayBeMade_3 : decode cX3_mayBeMade 3 = .ok (.istore_n 3, 1) := by decide +kernel
theorem dX3_mayBeMade_4 : decode cX3_mayBeMade 4 = .ok (.iload_n 3, 1) := by decide +kernel
theorem dX3_mayBeMade_5 : decode cX3_mayBeMade 5 = .ok (.iload_n 1, 1) := by decide +kernel
theorem dX3_mayBeMade_6 : decode cX3_mayBeMade 6 = .ok (.if_icmp .gt 46, 3) := by decide +kernel
theorem dX3_mayBeMade_9 : decode cX3_mayBeMade 9 = .ok (.aload_n 0, 1) := by decide +kernel
theorem dX3_mayBeMade_10 : decode cX3_mayBeMade 10 = .ok (.iload_n 1, 1) := by decide +kernel
theorem dX3_mayBeMade_11 : decode cX3_mayBeMade 11 = .ok (.iload_n 3, 1) := by decide +kernel
theorem dX3_mayBeMade_12 : decode cX3_mayBeMade 12 = .ok (.invokevirtual 146, 3) := by decide +kernel
theorem dX3_mayBeMade_15 : decode cX3_mayBeMade 15 = .ok (.iload_n 2, 1) := by decide +kernel
theorem dX3_mayBeMade_16 : decode cX3_mayBeMade 16 = .ok (.ifCond .eq 28, 3) := by decide +kernel
theorem dX3_mayBeMade_19 : decode cX3_mayBeMade 19 = .ok (.aload_n 0, 1) := by decide +kernel
theorem dX3_mayBeMade_20 : decode cX3_mayBeMade 20 = .ok (.getfield 132, 3) := by decide +kernel
theorem dX3_mayBeMade_23 : decode cX3_mayBeMade 23 = .ok (.lconst 0, 1) := by decide +kernel
theorem dX3_mayBeMade_24 : decode cX3_mayBeMade 24 = .ok (.lcmp, 1) := by decide +kernel
theorem dX3_mayBeMade_25 : decode cX3_mayBeMade 25 = .ok (.ifCond .lt 19, 3) := by decide +kernel
theorem dX3_mayBeMade_28 : decode cX3_mayBeMade 28 = .ok (.aload_n 0, 1) := by decide +kernel
theorem dX3_mayBeMade_29 : decode cX3_mayBeMade 29 = .ok (.getfield 132, 3) := by decide +kernel
theorem dX3_mayBeMade_32 : decode cX3_mayBeMade 32 = .ok (.aload_n 0, 1) := by decide +kernel
theorem dX3_mayBeMade_33 : decode cX3_mayBeMade 33 = .ok (.getfield 136, 3) := by decide +kernel
theorem dX3_mayBeMade_36 : decode cX3_mayBeMade 36 = .ok (.lcmp, 1) := by decide +kernel
theorem dX3_mayBeMade_37 : decode cX3_mayBeMade 37 = .ok (.ifCond .gt 7, 3) := by decide +kernel
theorem dX3_mayBeMade_40 : decode cX3_mayBeMade 40 = .ok (.iconst 1, 1) := by decide +kernel
theorem dX3_mayBeMade_41 : decode cX3_mayBeMade 41 = .ok (.goto 4, 3) := by decide +kernel
theorem dX3_mayBeMade_44 : decode cX3_mayBeMade 44 = .ok (.iconst 0, 1) := by decide +kernel
theorem dX3_mayBeMade_45 : decode cX3_mayBeMade 45 = .ok (.istore_n 2, 1) := by decide +kernel
theorem dX3_mayBeMade_46 : decode cX3_mayBeMade 46 = .ok (.iinc 3 1, 3) := by decide +kernel
theorem dX3_mayBeMade_49 : decode cX3_mayBeMade 49 = .ok (.goto (-45), 3) := by decide +kernel
theorem dX3_mayBeMade_52 : decode cX3_mayBeMade 52 = .ok (.iload_n 2, 1) := by decide +kernel
theorem dX3_mayBeMade_53 : decode cX3_mayBeMade 53 = .ok (.ireturn, 1) := by decide +kernel
set_option maxRecDepth 20000 in
theorem ggX3_least_X3_mayBeMade : GoodIn wsX3_least wsX3_mayBeMade := goodIn_r _ [6, 7, 8, 9, 10, 11, 5, 12, 1, 13, 14, 15, 16, 17, 18, 19, 20, 21, 22, 23, 24, 25, 26, 27, 28, 29, 30, 31, 32, 33] (by decide +kernel) (by decide +kernel)
set_option maxRecDepth 20000 in
theorem gX3_least_X3_mayBeMade : GoodIn wsX3_least (wsV RX3 150 RX3 yX3_mayBeMade wsX3_mayBeMade) := goodIn_app (goodIn_of _ (by decide +kernel)) ggX3_least_X3_mayBeMade
theorem dX3_least_0 : decode cX3_least 0 = .ok (.aload_n 0, 1) := by decide +kernel
theorem dX3_least_1 : decode cX3_least 1 = .ok (.getfield 124, 3) := by decide +kernel
theorem dX3_least_4 : decode cX3_least 4 = .ok (.istore_n 1, 1) := by decide +kernel
theorem dX3_least_5 : decode cX3_least 5 = .ok (.iload_n 1, 1) := by decide +kernel
theorem dX3_least_6 : decode cX3_least 6 = .ok (.bipush 10, 2) := by decide +kernel
theorem dX3_least_8 : decode cX3_least 8 = .ok (.if_icmp .gt 19, 3) := by decide +kernel
theorem dX3_least_11 : decode cX3_least 11 = .ok (.aload_n 0, 1) := by decide +kernel
theorem dX3_least_12 : decode cX3_least 12 = .ok (.iload_n 1, 1) := by decide +kernel
theorem dX3_least_13 : decode cX3_least 13 = .ok (.invokevirtual 150, 3) := by decide +kernel
theorem dX3_least_16 : decode cX3_least 16 = .ok (.ifCond .eq 5, 3) := by decide +kernel
theorem dX3_least_19 : decode cX3_least 19 = .ok (.iload_n 1, 1) := by decide +kernel
theorem dX3_least_20 : decode cX3_least 20 = .ok (.ireturn, 1) := by decide +kernel
theorem dX3_least_21 : decode cX3_least 21 = .ok (.iinc 1 1, 3) := by decide +kernel
theorem dX3_least_24 : decode cX3_least 24 = .ok (.goto (-19), 3) := by decide +kernel
theorem dX3_least_27 : decode cX3_least 27 = .ok (.iconst (-1), 1) := by decide +kernel
theorem dX3_least_28 : decode cX3_least 28 = .ok (.ireturn, 1) := by decide +kernel
set_option maxRecDepth 20000 in
theorem ggX3_at_X3_in : GoodIn wsX3_at wsX3_in := goodIn_r _ [10] (by decide +kernel) (by decide +kernel)
set_option maxRecDepth 20000 in
theorem gX3_at_X3_in : GoodIn wsX3_at (va_wsS RX3 35 yX3_in wsX3_in) := goodIn_app (goodIn_of _ (by decide +kernel)) ggX3_at_X3_in
set_option maxRecDepth 20000 in
theorem ggX3_at_X3_power : GoodIn wsX3_at wsX3_power := goodIn_r _ [13] (by decide +kernel) (by decide +kernel)
set_option maxRecDepth 20000 in
theorem gX3_at_X3_power : GoodIn wsX3_at (va_wsS RX3 113 yX3_power wsX3_power) := goodIn_app (goodIn_of _ (by decide +kernel)) ggX3_at_X3_power
theorem dX3_at_0 : decode cX3_at 0 = .ok (.iload_n 1, 1) := by decide +kernel
theorem dX3_at_1 : decode cX3_at 1 = .ok (.i2l, 1) := by decide +kernel
theorem dX3_at_2 : decode cX3_at 2 = .ok (.lconst 0, 1) := by decide +kernel
theorem dX3_at_3 : decode cX3_at 3 = .ok (.aload_n 0, 1) := by decide +kernel
theorem dX3_at_4 : decode cX3_at 4 = .ok (.getfield 23, 3) := by decide +kernel
theorem dX3_at_7 : decode cX3_at 7 = .ok (.i2l, 1) := by decide +kernel
theorem dX3_at_8 : decode cX3_at 8 = .ok (.invokestatic 35, 3) := by decide +kernel
theorem dX3_at_11 : decode cX3_at 11 = .ok (.ifCond .ne 6, 3) := by decide +kernel
theorem dX3_at_14 : decode cX3_at 14 = .ok (.ldc 153, 2) := by decide +kernel
theorem dX3_at_16 : decode cX3_at 16 = .ok (.ireturn, 1) := by decide +kernel
theorem dX3_at_17 : decode cX3_at 17 = .ok (.lconst 0, 1) := by decide +kernel
theorem dX3_at_18 : decode cX3_at 18 = .ok (.lstore_n 2, 1) := by decide +kernel
theorem dX3_at_19 : decode cX3_at 19 = .ok (.iconst 0, 1) := by decide +kernel
theorem dX3_at_20 : decode cX3_at 20 = .ok (.istore 4, 2) := by decide +kernel
theorem dX3_at_22 : decode cX3_at 22 = .ok (.iload 4, 2) := by decide +kernel
theorem dX3_at_24 : decode cX3_at 24 = .ok (.aload_n 0, 1) := by decide +kernel
theorem dX3_at_25 : decode cX3_at 25 = .ok (.getfield 124, 3) := by decide +kernel
theorem dX3_at_28 : decode cX3_at 28 = .ok (.if_icmp .gt 44, 3) := by decide +kernel
theorem dX3_at_31 : decode cX3_at 31 = .ok (.lload_n 2, 1) := by decide +kernel
theorem dX3_at_32 : decode cX3_at 32 = .ok (.aload_n 0, 1) := by decide +kernel
theorem dX3_at_33 : decode cX3_at 33 = .ok (.getfield 19, 3) := by decide +kernel
theorem dX3_at_36 : decode cX3_at 36 = .ok (.iload 4, 2) := by decide +kernel
theorem dX3_at_38 : decode cX3_at 38 = .ok (.iaload, 1) := by decide +kernel
theorem dX3_at_39 : decode cX3_at 39 = .ok (.i2l, 1) := by decide +kernel
theorem dX3_at_40 : decode cX3_at 40 = .ok (.iload_n 1, 1) := by decide +kernel
theorem dX3_at_41 : decode cX3_at 41 = .ok (.i2l, 1) := by decide +kernel
theorem dX3_at_42 : decode cX3_at 42 = .ok (.iload 4, 2) := by decide +kernel
theorem dX3_at_44 : decode cX3_at 44 = .ok (.invokestatic 113, 3) := by decide +kernel
theorem dX3_at_47 : decode cX3_at 47 = .ok (.lmul, 1) := by decide +kernel
theorem dX3_at_48 : decode cX3_at 48 = .ok (.aload_n 0, 1) := by decide +kernel
theorem dX3_at_49 : decode cX3_at 49 = .ok (.getfield 23, 3) := by decide +kernel
theorem dX3_at_52 : decode cX3_at 52 = .ok (.i2l, 1) := by decide +kernel
theorem dX3_at_53 : decode cX3_at 53 = .ok (.aload_n 0, 1) := by decide +kernel
theorem dX3_at_54 : decode cX3_at 54 = .ok (.getfield 124, 3) := by decide +kernel
theorem dX3_at_57 : decode cX3_at 57 = .ok (.iload 4, 2) := by decide +kernel
theorem dX3_at_59 : decode cX3_at 59 = .ok (.isub, 1) := by decide +kernel
theorem dX3_at_60 : decode cX3_at 60 = .ok (.invokestatic 113, 3) := by decide +kernel
theorem dX3_at_63 : decode cX3_at 63 = .ok (.lmul, 1) := by decide +kernel
theorem dX3_at_64 : decode cX3_at 64 = .ok (.ladd, 1) := by decide +kernel
theorem dX3_at_65 : decode cX3_at 65 = .ok (.lstore_n 2, 1) := by decide +kernel
theorem dX3_at_66 : decode cX3_at 66 = .ok (.iinc 4 1, 3) := by decide +kernel
theorem dX3_at_69 : decode cX3_at 69 = .ok (.goto (-47), 3) := by decide +kernel
theorem dX3_at_72 : decode cX3_at 72 = .ok (.aload_n 0, 1) := by decide +kernel
theorem dX3_at_73 : decode cX3_at 73 = .ok (.getfield 30, 3) := by decide +kernel
theorem dX3_at_76 : decode cX3_at 76 = .ok (.i2l, 1) := by decide +kernel
theorem dX3_at_77 : decode cX3_at 77 = .ok (.aload_n 0, 1) := by decide +kernel
theorem dX3_at_78 : decode cX3_at 78 = .ok (.getfield 23, 3) := by decide +kernel
theorem dX3_at_81 : decode cX3_at 81 = .ok (.i2l, 1) := by decide +kernel
theorem dX3_at_82 : decode cX3_at 82 = .ok (.aload_n 0, 1) := by decide +kernel
theorem dX3_at_83 : decode cX3_at 83 = .ok (.getfield 124, 3) := by decide +kernel
theorem dX3_at_86 : decode cX3_at 86 = .ok (.invokestatic 113, 3) := by decide +kernel
theorem dX3_at_89 : decode cX3_at 89 = .ok (.lmul, 1) := by decide +kernel
theorem dX3_at_90 : decode cX3_at 90 = .ok (.lstore 4, 2) := by decide +kernel
theorem dX3_at_92 : decode cX3_at 92 = .ok (.ldc2_w 122, 3) := by decide +kernel
theorem dX3_at_95 : decode cX3_at 95 = .ok (.lload_n 2, 1) := by decide +kernel
theorem dX3_at_96 : decode cX3_at 96 = .ok (.lmul, 1) := by decide +kernel
theorem dX3_at_97 : decode cX3_at 97 = .ok (.lload 4, 2) := by decide +kernel
theorem dX3_at_99 : decode cX3_at 99 = .ok (.ldiv, 1) := by decide +kernel
theorem dX3_at_100 : decode cX3_at 100 = .ok (.lstore 6, 2) := by decide +kernel
theorem dX3_at_102 : decode cX3_at 102 = .ok (.ldc2_w 122, 3) := by decide +kernel
theorem dX3_at_105 : decode cX3_at 105 = .ok (.lload_n 2, 1) := by decide +kernel
theorem dX3_at_106 : decode cX3_at 106 = .ok (.lmul, 1) := by decide +kernel
theorem dX3_at_107 : decode cX3_at 107 = .ok (.lload 4, 2) := by decide +kernel
theorem dX3_at_109 : decode cX3_at 109 = .ok (.lrem, 1) := by decide +kernel
theorem dX3_at_110 : decode cX3_at 110 = .ok (.lconst 0, 1) := by decide +kernel
theorem dX3_at_111 : decode cX3_at 111 = .ok (.lcmp, 1) := by decide +kernel
theorem dX3_at_112 : decode cX3_at 112 = .ok (.ifCond .ge 10, 3) := by decide +kernel
theorem dX3_at_115 : decode cX3_at 115 = .ok (.lload 6, 2) := by decide +kernel
theorem dX3_at_117 : decode cX3_at 117 = .ok (.lconst 1, 1) := by decide +kernel
theorem dX3_at_118 : decode cX3_at 118 = .ok (.lsub, 1) := by decide +kernel
theorem dX3_at_119 : decode cX3_at 119 = .ok (.goto 5, 3) := by decide +kernel
theorem dX3_at_122 : decode cX3_at 122 = .ok (.lload 6, 2) := by decide +kernel
theorem dX3_at_124 : decode cX3_at 124 = .ok (.l2i, 1) := by decide +kernel
theorem dX3_at_125 : decode cX3_at 125 = .ok (.ireturn, 1) := by decide +kernel
set_option maxRecDepth 20000 in
theorem ggX3_make_X3_isStream : GoodIn wsX3_make wsX3_isStream := goodIn_r _ [8, 9, 10, 11, 7, 12] (by decide +kernel) (by decide +kernel)
set_option maxRecDepth 20000 in
theorem gX3_make_X3_isStream : GoodIn wsX3_make (va_wsS RX3 49 yX3_isStream wsX3_isStream) := goodIn_app (goodIn_of _ (by decide +kernel)) ggX3_make_X3_isStream
set_option maxRecDepth 20000 in
theorem ggX3_make_X3_isSource : GoodIn wsX3_make wsX3_isSource := goodIn_r _ [16, 17, 1, 10, 11, 7, 12, 56, 57, 58, 59, 60, 61, 62, 63, 64, 65, 66, 67, 68] (by decide +kernel) (by decide +kernel)
set_option maxRecDepth 20000 in
theorem gX3_make_X3_isSource : GoodIn wsX3_make (wsV RX3 53 RX3 yX3_isSource wsX3_isSource) := goodIn_app (goodIn_of _ (by decide +kernel)) ggX3_make_X3_isSource
set_option maxRecDepth 20000 in
theorem ggX3_make_X3_isPartial : GoodIn wsX3_make wsX3_isPartial := goodIn_r _ [21, 22, 23, 10, 11, 7, 12, 56, 57, 58, 59, 60, 61, 62, 63, 64, 65, 66, 67, 68] (by decide +kernel) (by decide +kernel)
set_option maxRecDepth 20000 in
theorem gX3_make_X3_isPartial : GoodIn wsX3_make (wsV RX3 141 RX3 yX3_isPartial wsX3_isPartial) := goodIn_app (goodIn_of _ (by decide +kernel)) ggX3_make_X3_isPartial
set_option maxRecDepth 20000 in
theorem ggX3_make_X3_mayBeMade : GoodIn wsX3_make wsX3_mayBeMade := goodIn_r _ [27, 2, 3, 28, 29, 30, 7, 31, 22, 32, 33, 34, 35, 36, 37, 38, 39, 56, 57, 58, 59, 60, 61, 62, 63, 64, 65, 66, 67, 68] (by decide +kernel) (by decide +kernel)
set_option maxRecDepth 20000 in
theorem gX3_make_X3_mayBeMade : GoodIn wsX3_make (wsV RX3 150 RX3 yX3_mayBeMade wsX3_mayBeMade) := goodIn_app (goodIn_of _ (by decide +kernel)) ggX3_make_X3_mayBeMade
set_option maxRecDepth 20000 in
theorem ggX3_make_X3_sourceRow : GoodIn wsX3_make wsX3_sourceRow := goodIn_r _ [43, 1, 44, 45, 46, 7, 47, 56, 57, 58, 59, 60, 61, 62, 63, 64, 65, 66, 67, 68] (by decide +kernel) (by decide +kernel)
set_option maxRecDepth 20000 in
theorem gX3_make_X3_sourceRow : GoodIn wsX3_make (wsV RX3 57 RX3 yX3_sourceRow wsX3_sourceRow) := goodIn_app (goodIn_of _ (by decide +kernel)) ggX3_make_X3_sourceRow
set_option maxRecDepth 20000 in
theorem ggX3_make_X3_bitOf : GoodIn wsX3_make wsX3_bitOf := goodIn_r _ [51] (by decide +kernel) (by decide +kernel)
set_option maxRecDepth 20000 in
theorem gX3_make_X3_bitOf : GoodIn wsX3_make (wsV RX3 39 RX3 yX3_bitOf wsX3_bitOf) := goodIn_app (goodIn_of _ (by decide +kernel)) ggX3_make_X3_bitOf
set_option maxRecDepth 20000 in
theorem ggX3_make_X3_findPart : GoodIn wsX3_make wsX3_findPart := goodIn_r _ [31, 22, 32, 33, 2, 3, 34, 35, 7, 36, 37, 38, 39, 56, 57, 58, 59, 60, 61, 62, 63, 64, 65, 66, 67, 68] (by decide +kernel) (by decide +kernel)
set_option maxRecDepth 20000 in
theorem gX3_make_X3_findPart : GoodIn wsX3_make (wsV RX3 146 RX3 yX3_findPart wsX3_findPart) := goodIn_app (goodIn_of _ (by decide +kernel)) ggX3_make_X3_findPart
set_option maxRecDepth 20000 in
theorem ggX3_make_X3_round : GoodIn wsX3_make wsX3_round := goodIn_r _ [47, 1, 56, 57, 58, 59, 60, 61, 62, 63, 64, 65, 66, 67, 68] (by decide +kernel) (by decide +kernel)
set_option maxRecDepth 20000 in
theorem gX3_make_X3_round : GoodIn wsX3_make (wsV RX3 43 RX3 yX3_round wsX3_round) := goodIn_app (goodIn_of _ (by decide +kernel)) ggX3_make_X3_round
set_option maxRecDepth 20000 in
theorem ggX3_make_X3_onesOf : GoodIn wsX3_make wsX3_onesOf := goodIn_r _ [55, 1, 48, 49, 50, 7, 51, 56, 57, 58, 59, 60, 61, 62, 63, 64, 65, 66, 67, 68] (by decide +kernel) (by decide +kernel)
set_option maxRecDepth 20000 in
theorem gX3_make_X3_onesOf : GoodIn wsX3_make (wsV RX3 61 RX3 yX3_onesOf wsX3_onesOf) := goodIn_app (goodIn_of _ (by decide +kernel)) ggX3_make_X3_onesOf
theorem dX3_make_0 : decode cX3_make 0 = .ok (.iload_n 1, 1) := by decide +kernel
theorem dX3_make_1 : decode cX3_make 1 = .ok (.invokestatic 49, 3) := by decide +kernel
theorem dX3_make_4 : decode cX3_make 4 = .ok (.ifCond .ne 6, 3) := by decide +kernel
theorem dX3_make_7 : decode cX3_make 7 = .ok (.bipush (-101), 2) := by decide +kernel
theorem dX3_make_9 : decode cX3_make 9 = .ok (.ireturn, 1) := by decide +kernel
theorem dX3_make_10 : decode cX3_make 10 = .ok (.aload_n 0, 1) := by decide +kernel
theorem dX3_make_11 : decode cX3_make 11 = .ok (.iload_n 2, 1) := by decide +kernel
theorem dX3_make_12 : decode cX3_make 12 = .ok (.iload_n 3, 1) := by decide +kernel
theorem dX3_make_13 : decode cX3_make 13 = .ok (.invokevirtual 53, 3) := by decide +kernel
theorem dX3_make_16 : decode cX3_make 16 = .ok (.ifCond .eq 12, 3) := by decide +kernel
theorem dX3_make_19 : decode cX3_make 19 = .ok (.aload_n 0, 1) := by decide +kernel
theorem dX3_make_20 : decode cX3_make 20 = .ok (.iload 4, 2) := by decide +kernel
theorem dX3_make_22 : decode cX3_make 22 = .ok (.invokevirtual 141, 3) := by decide +kernel
theorem dX3_make_25 : decode cX3_make 25 = .ok (.ifCond .ne 6, 3) := by decide +kernel
theorem dX3_make_28 : decode cX3_make 28 = .ok (.bipush (-102), 2) := by decide +kernel
theorem dX3_make_30 : decode cX3_make 30 = .ok (.ireturn, 1) := by decide +kernel
theorem dX3_make_31 : decode cX3_make 31 = .ok (.aload_n 0, 1) := by decide +kernel
theorem dX3_make_32 : decode cX3_make 32 = .ok (.iload 4, 2) := by decide +kernel
theorem dX3_make_34 : decode cX3_make 34 = .ok (.invokevirtual 150, 3) := by decide +kernel
theorem dX3_make_37 : decode cX3_make 37 = .ok (.ifCond .ne 6, 3) := by decide +kernel
theorem dX3_make_40 : decode cX3_make 40 = .ok (.bipush (-103), 2) := by decide +kernel
theorem dX3_make_42 : decode cX3_make 42 = .ok (.ireturn, 1) := by decide +kernel
theorem dX3_make_43 : decode cX3_make 43 = .ok (.aload_n 0, 1) := by decide +kernel
theorem dX3_make_44 : decode cX3_make 44 = .ok (.iload_n 2, 1) := by decide +kernel
theorem dX3_make_45 : decode cX3_make 45 = .ok (.iload_n 3, 1) := by decide +kernel
theorem dX3_make_46 : decode cX3_make 46 = .ok (.invokevirtual 57, 3) := by decide +kernel
theorem dX3_make_49 : decode cX3_make 49 = .ok (.lstore 5, 2) := by decide +kernel
theorem dX3_make_51 : decode cX3_make 51 = .ok (.lconst 0, 1) := by decide +kernel
theorem dX3_make_52 : decode cX3_make 52 = .ok (.lstore 7, 2) := by decide +kernel
theorem dX3_make_54 : decode cX3_make 54 = .ok (.iconst 0, 1) := by decide +kernel
theorem dX3_make_55 : decode cX3_make 55 = .ok (.istore 9, 2) := by decide +kernel
theorem dX3_make_57 : decode cX3_make 57 = .ok (.iload 9, 2) := by decide +kernel
theorem dX3_make_59 : decode cX3_make 59 = .ok (.aload_n 0, 1) := by decide +kernel
theorem dX3_make_60 : decode cX3_make 60 = .ok (.getfield 23, 3) := by decide +kernel
theorem dX3_make_63 : decode cX3_make 63 = .ok (.if_icmp .ge 96, 3) := by decide +kernel
theorem dX3_make_66 : decode cX3_make 66 = .ok (.iconst 0, 1) := by decide +kernel
theorem dX3_make_67 : decode cX3_make 67 = .ok (.istore 10, 2) := by decide +kernel
theorem dX3_make_69 : decode cX3_make 69 = .ok (.iconst 0, 1) := by decide +kernel
theorem dX3_make_70 : decode cX3_make 70 = .ok (.istore 11, 2) := by decide +kernel
theorem dX3_make_72 : decode cX3_make 72 = .ok (.iload 11, 2) := by decide +kernel
theorem dX3_make_74 : decode cX3_make 74 = .ok (.iload 4, 2) := by decide +kernel
theorem dX3_make_76 : decode cX3_make 76 = .ok (.if_icmp .ge 30, 3) := by decide +kernel
theorem dX3_make_79 : decode cX3_make 79 = .ok (.iload 10, 2) := by decide +kernel
theorem dX3_make_81 : decode cX3_make 81 = .ok (.aload_n 0, 1) := by decide +kernel
theorem dX3_make_82 : decode cX3_make 82 = .ok (.lload 5, 2) := by decide +kernel
theorem dX3_make_84 : decode cX3_make 84 = .ok (.iload 9, 2) := by decide +kernel
theorem dX3_make_86 : decode cX3_make 86 = .ok (.iload 11, 2) := by decide +kernel
theorem dX3_make_88 : decode cX3_make 88 = .ok (.iadd, 1) := by decide +kernel
theorem dX3_make_89 : decode cX3_make 89 = .ok (.aload_n 0, 1) := by decide +kernel
theorem dX3_make_90 : decode cX3_make 90 = .ok (.getfield 23, 3) := by decide +kernel
theorem dX3_make_93 : decode cX3_make 93 = .ok (.irem, 1) := by decide +kernel
theorem dX3_make_94 : decode cX3_make 94 = .ok (.invokevirtual 39, 3) := by decide +kernel
theorem dX3_make_97 : decode cX3_make 97 = .ok (.iadd, 1) := by decide +kernel
theorem dX3_make_98 : decode cX3_make 98 = .ok (.istore 10, 2) := by decide +kernel
theorem dX3_make_100 : decode cX3_make 100 = .ok (.iinc 11 1, 3) := by decide +kernel
theorem dX3_make_103 : decode cX3_make 103 = .ok (.goto (-31), 3) := by decide +kernel
theorem dX3_make_106 : decode cX3_make 106 = .ok (.aload_n 0, 1) := by decide +kernel
theorem dX3_make_107 : decode cX3_make 107 = .ok (.iload 4, 2) := by decide +kernel
theorem dX3_make_109 : decode cX3_make 109 = .ok (.iload 10, 2) := by decide +kernel
theorem dX3_make_111 : decode cX3_make 111 = .ok (.invokevirtual 146, 3) := by decide +kernel
theorem dX3_make_114 : decode cX3_make 114 = .ok (.lload 7, 2) := by decide +kernel
theorem dX3_make_116 : decode cX3_make 116 = .ok (.aload_n 0, 1) := by decide +kernel
theorem dX3_make_117 : decode cX3_make 117 = .ok (.getfield 132, 3) := by decide +kernel
theorem dX3_make_120 : decode cX3_make 120 = .ok (.aload_n 0, 1) := by decide +kernel
theorem dX3_make_121 : decode cX3_make 121 = .ok (.getfield 23, 3) := by decide +kernel
theorem dX3_make_124 : decode cX3_make 124 = .ok (.i2l, 1) := by decide +kernel
theorem dX3_make_125 : decode cX3_make 125 = .ok (.lmul, 1) := by decide +kernel
theorem dX3_make_126 : decode cX3_make 126 = .ok (.aload_n 0, 1) := by decide +kernel
theorem dX3_make_127 : decode cX3_make 127 = .ok (.iload 9, 2) := by decide +kernel
theorem dX3_make_129 : decode cX3_make 129 = .ok (.invokevirtual 43, 3) := by decide +kernel
theorem dX3_make_132 : decode cX3_make 132 = .ok (.i2l, 1) := by decide +kernel
theorem dX3_make_133 : decode cX3_make 133 = .ok (.aload_n 0, 1) := by decide +kernel
theorem dX3_make_134 : decode cX3_make 134 = .ok (.getfield 136, 3) := by decide +kernel
theorem dX3_make_137 : decode cX3_make 137 = .ok (.lmul, 1) := by decide +kernel
theorem dX3_make_138 : decode cX3_make 138 = .ok (.lcmp, 1) := by decide +kernel
theorem dX3_make_139 : decode cX3_make 139 = .ok (.ifCond .le 10, 3) := by decide +kernel
theorem dX3_make_142 : decode cX3_make 142 = .ok (.lconst 1, 1) := by decide +kernel
theorem dX3_make_143 : decode cX3_make 143 = .ok (.iload 9, 2) := by decide +kernel
theorem dX3_make_145 : decode cX3_make 145 = .ok (.lshl, 1) := by decide +kernel
theorem dX3_make_146 : decode cX3_make 146 = .ok (.goto 4, 3) := by decide +kernel
theorem dX3_make_149 : decode cX3_make 149 = .ok (.lconst 0, 1) := by decide +kernel
theorem dX3_make_150 : decode cX3_make 150 = .ok (.lor, 1) := by decide +kernel
theorem dX3_make_151 : decode cX3_make 151 = .ok (.lstore 7, 2) := by decide +kernel
theorem dX3_make_153 : decode cX3_make 153 = .ok (.iinc 9 1, 3) := by decide +kernel
theorem dX3_make_156 : decode cX3_make 156 = .ok (.goto (-99), 3) := by decide +kernel
theorem dX3_make_159 : decode cX3_make 159 = .ok (.aload_n 0, 1) := by decide +kernel
theorem dX3_make_160 : decode cX3_make 160 = .ok (.getfield 7, 3) := by decide +kernel
theorem dX3_make_163 : decode cX3_make 163 = .ok (.iload_n 1, 1) := by decide +kernel
theorem dX3_make_164 : decode cX3_make 164 = .ok (.lload 7, 2) := by decide +kernel
theorem dX3_make_166 : decode cX3_make 166 = .ok (.lastore, 1) := by decide +kernel
theorem dX3_make_167 : decode cX3_make 167 = .ok (.aload_n 0, 1) := by decide +kernel
theorem dX3_make_168 : decode cX3_make 168 = .ok (.lload 7, 2) := by decide +kernel
theorem dX3_make_170 : decode cX3_make 170 = .ok (.invokevirtual 61, 3) := by decide +kernel
theorem dX3_make_173 : decode cX3_make 173 = .ok (.ireturn, 1) := by decide +kernel
theorem dX3_count_0 : decode cX3_count 0 = .ok (.iload_n 1, 1) := by decide +kernel
theorem dX3_count_1 : decode cX3_count 1 = .ok (.ifCond .ne 10, 3) := by decide +kernel
theorem dX3_count_4 : decode cX3_count 4 = .ok (.aload_n 0, 1) := by decide +kernel
theorem dX3_count_5 : decode cX3_count 5 = .ok (.getfield 23, 3) := by decide +kernel
theorem dX3_count_8 : decode cX3_count 8 = .ok (.goto 41, 3) := by decide +kernel
theorem dX3_count_11 : decode cX3_count 11 = .ok (.iload_n 1, 1) := by decide +kernel
theorem dX3_count_12 : decode cX3_count 12 = .ok (.iconst 1, 1) := by decide +kernel
theorem dX3_count_13 : decode cX3_count 13 = .ok (.if_icmp .ne 10, 3) := by decide +kernel
theorem dX3_count_16 : decode cX3_count 16 = .ok (.aload_n 0, 1) := by decide +kernel
theorem dX3_count_17 : decode cX3_count 17 = .ok (.getfield 124, 3) := by decide +kernel
theorem dX3_count_20 : decode cX3_count 20 = .ok (.goto 29, 3) := by decide +kernel
theorem dX3_count_23 : decode cX3_count 23 = .ok (.iload_n 1, 1) := by decide +kernel
theorem dX3_count_24 : decode cX3_count 24 = .ok (.iconst 2, 1) := by decide +kernel
theorem dX3_count_25 : decode cX3_count 25 = .ok (.if_icmp .ne 10, 3) := by decide +kernel
theorem dX3_count_28 : decode cX3_count 28 = .ok (.aload_n 0, 1) := by decide +kernel
theorem dX3_count_29 : decode cX3_count 29 = .ok (.getfield 30, 3) := by decide +kernel
theorem dX3_count_32 : decode cX3_count 32 = .ok (.goto 17, 3) := by decide +kernel
theorem dX3_count_35 : decode cX3_count 35 = .ok (.iload_n 1, 1) := by decide +kernel
theorem dX3_count_36 : decode cX3_count 36 = .ok (.iconst 3, 1) := by decide +kernel
theorem dX3_count_37 : decode cX3_count 37 = .ok (.if_icmp .ne 10, 3) := by decide +kernel
theorem dX3_count_40 : decode cX3_count 40 = .ok (.aload_n 0, 1) := by decide +kernel
theorem dX3_count_41 : decode cX3_count 41 = .ok (.getfield 92, 3) := by decide +kernel
theorem dX3_count_44 : decode cX3_count 44 = .ok (.goto 5, 3) := by decide +kernel
theorem dX3_count_47 : decode cX3_count 47 = .ok (.bipush (-102), 2) := by decide +kernel
theorem dX3_count_49 : decode cX3_count 49 = .ok (.ireturn, 1) := by decide +kernel
set_option maxRecDepth 20000 in
theorem ggX3_digest_X3_onesOf : GoodIn wsX3_digest wsX3_onesOf := goodIn_r _ [14, 2, 15, 16, 17, 13, 18, 19, 20, 21, 22, 23, 24, 25, 26, 27, 28, 29, 30, 31] (by decide +kernel) (by decide +kernel)
set_option maxRecDepth 20000 in
theorem gX3_digest_X3_onesOf : GoodIn wsX3_digest (wsV RX3 61 RX3 yX3_onesOf wsX3_onesOf) := goodIn_app (goodIn_of _ (by decide +kernel)) ggX3_digest_X3_onesOf
theorem dX3_digest_0 : decode cX3_digest 0 = .ok (.ldc2_w 154, 3) := by decide +kernel
theorem dX3_digest_3 : decode cX3_digest 3 = .ok (.aload_n 0, 1) := by decide +kernel
theorem dX3_digest_4 : decode cX3_digest 4 = .ok (.getfield 23, 3) := by decide +kernel
theorem dX3_digest_7 : decode cX3_digest 7 = .ok (.i2l, 1) := by decide +kernel
theorem dX3_digest_8 : decode cX3_digest 8 = .ok (.ladd, 1) := by decide +kernel
theorem dX3_digest_9 : decode cX3_digest 9 = .ok (.lstore_n 1, 1) := by decide +kernel
theorem dX3_digest_10 : decode cX3_digest 10 = .ok (.iconst 0, 1) := by decide +kernel
theorem dX3_digest_11 : decode cX3_digest 11 = .ok (.istore_n 3, 1) := by decide +kernel
theorem dX3_digest_12 : decode cX3_digest 12 = .ok (.iload_n 3, 1) := by decide +kernel
theorem dX3_digest_13 : decode cX3_digest 13 = .ok (.bipush 12, 2) := by decide +kernel
theorem dX3_digest_15 : decode cX3_digest 15 = .ok (.if_icmp .ge 40, 3) := by decide +kernel
theorem dX3_digest_18 : decode cX3_digest 18 = .ok (.ldc2_w 156, 3) := by decide +kernel
theorem dX3_digest_21 : decode cX3_digest 21 = .ok (.lload_n 1, 1) := by decide +kernel
theorem dX3_digest_22 : decode cX3_digest 22 = .ok (.lmul, 1) := by decide +kernel
theorem dX3_digest_23 : decode cX3_digest 23 = .ok (.aload_n 0, 1) := by decide +kernel
theorem dX3_digest_24 : decode cX3_digest 24 = .ok (.aload_n 0, 1) := by decide +kernel
theorem dX3_digest_25 : decode cX3_digest 25 = .ok (.getfield 7, 3) := by decide +kernel
theorem dX3_digest_28 : decode cX3_digest 28 = .ok (.iload_n 3, 1) := by decide +kernel
theorem dX3_digest_29 : decode cX3_digest 29 = .ok (.laload, 1) := by decide +kernel
theorem dX3_digest_30 : decode cX3_digest 30 = .ok (.invokevirtual 61, 3) := by decide +kernel
theorem dX3_digest_33 : decode cX3_digest 33 = .ok (.i2l, 1) := by decide +kernel
theorem dX3_digest_34 : decode cX3_digest 34 = .ok (.ladd, 1) := by decide +kernel
theorem dX3_digest_35 : decode cX3_digest 35 = .ok (.lstore_n 1, 1) := by decide +kernel
theorem dX3_digest_36 : decode cX3_digest 36 = .ok (.ldc2_w 156, 3) := by decide +kernel
theorem dX3_digest_39 : decode cX3_digest 39 = .ok (.lload_n 1, 1) := by decide +kernel
theorem dX3_digest_40 : decode cX3_digest 40 = .ok (.lmul, 1) := by decide +kernel
theorem dX3_digest_41 : decode cX3_digest 41 = .ok (.aload_n 0, 1) := by decide +kernel
theorem dX3_digest_42 : decode cX3_digest 42 = .ok (.getfield 7, 3) := by decide +kernel
theorem dX3_digest_45 : decode cX3_digest 45 = .ok (.iload_n 3, 1) := by decide +kernel
theorem dX3_digest_46 : decode cX3_digest 46 = .ok (.laload, 1) := by decide +kernel
theorem dX3_digest_47 : decode cX3_digest 47 = .ok (.ladd, 1) := by decide +kernel
theorem dX3_digest_48 : decode cX3_digest 48 = .ok (.lstore_n 1, 1) := by decide +kernel
theorem dX3_digest_49 : decode cX3_digest 49 = .ok (.iinc 3 1, 3) := by decide +kernel
theorem dX3_digest_52 : decode cX3_digest 52 = .ok (.goto (-40), 3) := by decide +kernel
theorem dX3_digest_55 : decode cX3_digest 55 = .ok (.ldc2_w 156, 3) := by decide +kernel
theorem dX3_digest_58 : decode cX3_digest 58 = .ok (.lload_n 1, 1) := by decide +kernel
theorem dX3_digest_59 : decode cX3_digest 59 = .ok (.lmul, 1) := by decide +kernel
theorem dX3_digest_60 : decode cX3_digest 60 = .ok (.aload_n 0, 1) := by decide +kernel
theorem dX3_digest_61 : decode cX3_digest 61 = .ok (.getfield 27, 3) := by decide +kernel
theorem dX3_digest_64 : decode cX3_digest 64 = .ok (.i2l, 1) := by decide +kernel
theorem dX3_digest_65 : decode cX3_digest 65 = .ok (.ladd, 1) := by decide +kernel
theorem dX3_digest_66 : decode cX3_digest 66 = .ok (.lstore_n 1, 1) := by decide +kernel
theorem dX3_digest_67 : decode cX3_digest 67 = .ok (.ldc2_w 156, 3) := by decide +kernel
theorem dX3_digest_70 : decode cX3_digest 70 = .ok (.lload_n 1, 1) := by decide +kernel
theorem dX3_digest_71 : decode cX3_digest 71 = .ok (.lmul, 1) := by decide +kernel
theorem dX3_digest_72 : decode cX3_digest 72 = .ok (.aload_n 0, 1) := by decide +kernel
theorem dX3_digest_73 : decode cX3_digest 73 = .ok (.getfield 124, 3) := by decide +kernel
theorem dX3_digest_76 : decode cX3_digest 76 = .ok (.i2l, 1) := by decide +kernel
theorem dX3_digest_77 : decode cX3_digest 77 = .ok (.ladd, 1) := by decide +kernel
theorem dX3_digest_78 : decode cX3_digest 78 = .ok (.lstore_n 1, 1) := by decide +kernel
theorem dX3_digest_79 : decode cX3_digest 79 = .ok (.ldc2_w 156, 3) := by decide +kernel
theorem dX3_digest_82 : decode cX3_digest 82 = .ok (.lload_n 1, 1) := by decide +kernel
theorem dX3_digest_83 : decode cX3_digest 83 = .ok (.lmul, 1) := by decide +kernel
theorem dX3_digest_84 : decode cX3_digest 84 = .ok (.aload_n 0, 1) := by decide +kernel
theorem dX3_digest_85 : decode cX3_digest 85 = .ok (.getfield 30, 3) := by decide +kernel
theorem dX3_digest_88 : decode cX3_digest 88 = .ok (.i2l, 1) := by decide +kernel
theorem dX3_digest_89 : decode cX3_digest 89 = .ok (.ladd, 1) := by decide +kernel
theorem dX3_digest_90 : decode cX3_digest 90 = .ok (.lstore_n 1, 1) := by decide +kernel
theorem dX3_digest_91 : decode cX3_digest 91 = .ok (.iconst 0, 1) := by decide +kernel
theorem dX3_digest_92 : decode cX3_digest 92 = .ok (.istore_n 3, 1) := by decide +kernel
theorem dX3_digest_93 : decode cX3_digest 93 = .ok (.iload_n 3, 1) := by decide +kernel
theorem dX3_digest_94 : decode cX3_digest 94 = .ok (.iconst 5, 1) := by decide +kernel
theorem dX3_digest_95 : decode cX3_digest 95 = .ok (.if_icmp .ge 23, 3) := by decide +kernel
theorem dX3_digest_98 : decode cX3_digest 98 = .ok (.ldc2_w 156, 3) := by decide +kernel
theorem dX3_digest_101 : decode cX3_digest 101 = .ok (.lload_n 1, 1) := by decide +kernel
theorem dX3_digest_102 : decode cX3_digest 102 = .ok (.lmul, 1) := by decide +kernel
theorem dX3_digest_103 : decode cX3_digest 103 = .ok (.aload_n 0, 1) := by decide +kernel
theorem dX3_digest_104 : decode cX3_digest 104 = .ok (.getfield 19, 3) := by decide +kernel
theorem dX3_digest_107 : decode cX3_digest 107 = .ok (.iload_n 3, 1) := by decide +kernel
theorem dX3_digest_108 : decode cX3_digest 108 = .ok (.iaload, 1) := by decide +kernel
theorem dX3_digest_109 : decode cX3_digest 109 = .ok (.i2l, 1) := by decide +kernel
theorem dX3_digest_110 : decode cX3_digest 110 = .ok (.ladd, 1) := by decide +kernel
theorem dX3_digest_111 : decode cX3_digest 111 = .ok (.lstore_n 1, 1) := by decide +kernel
theorem dX3_digest_112 : decode cX3_digest 112 = .ok (.iinc 3 1, 3) := by decide +kernel
theorem dX3_digest_115 : decode cX3_digest 115 = .ok (.goto (-22), 3) := by decide +kernel
theorem dX3_digest_118 : decode cX3_digest 118 = .ok (.ldc2_w 156, 3) := by decide +kernel
theorem dX3_digest_121 : decode cX3_digest 121 = .ok (.lload_n 1, 1) := by decide +kernel
theorem dX3_digest_122 : decode cX3_digest 122 = .ok (.lmul, 1) := by decide +kernel
theorem dX3_digest_123 : decode cX3_digest 123 = .ok (.aload_n 0, 1) := by decide +kernel
theorem dX3_digest_124 : decode cX3_digest 124 = .ok (.getfield 92, 3) := by decide +kernel
theorem dX3_digest_127 : decode cX3_digest 127 = .ok (.i2l, 1) := by decide +kernel
theorem dX3_digest_128 : decode cX3_digest 128 = .ok (.ladd, 1) := by decide +kernel
theorem dX3_digest_129 : decode cX3_digest 129 = .ok (.lreturn, 1) := by decide +kernel
theorem dJ6_bitCount_0f7a4_0 : decode cJ6_bitCount_0f7a4 0 = .ok (.iload_n 0, 1) := by decide +kernel
theorem dJ6_bitCount_0f7a4_1 : decode cJ6_bitCount_0f7a4 1 = .ok (.iload_n 0, 1) := by decide +kernel
theorem dJ6_bitCount_0f7a4_2 : decode cJ6_bitCount_0f7a4 2 = .ok (.iconst 1, 1) := by decide +kernel
theorem dJ6_bitCount_0f7a4_3 : decode cJ6_bitCount_0f7a4 3 = .ok (.iushr, 1) := by decide +kernel
theorem dJ6_bitCount_0f7a4_4 : decode cJ6_bitCount_0f7a4 4 = .ok (.ldc_w 265, 3) := by decide +kernel
theorem dJ6_bitCount_0f7a4_7 : decode cJ6_bitCount_0f7a4 7 = .ok (.iand, 1) := by decide +kernel
theorem dJ6_bitCount_0f7a4_8 : decode cJ6_bitCount_0f7a4 8 = .ok (.isub, 1) := by decide +kernel
theorem dJ6_bitCount_0f7a4_9 : decode cJ6_bitCount_0f7a4 9 = .ok (.istore_n 0, 1) := by decide +kernel
theorem dJ6_bitCount_0f7a4_10 : decode cJ6_bitCount_0f7a4 10 = .ok (.iload_n 0, 1) := by decide +kernel
theorem dJ6_bitCount_0f7a4_11 : decode cJ6_bitCount_0f7a4 11 = .ok (.ldc_w 266, 3) := by decide +kernel
theorem dJ6_bitCount_0f7a4_14 : decode cJ6_bitCount_0f7a4 14 = .ok (.iand, 1) := by decide +kernel
theorem dJ6_bitCount_0f7a4_15 : decode cJ6_bitCount_0f7a4 15 = .ok (.iload_n 0, 1) := by decide +kernel
end
section
theorem dJ6_bitCount_0f7a4_16 : decode cJ6_bitCount_0f7a4 16 = .ok (.iconst 2, 1) := by decide +kernel
theorem dJ6_bitCount_0f7a4_17 : decode cJ6_bitCount_0f7a4 17 = .ok (.iushr, 1) := by decide +kernel
theorem dJ6_bitCount_0f7a4_18 : decode cJ6_bitCount_0f7a4 18 = .ok (.ldc_w 266, 3) := by decide +kernel
theorem dJ6_bitCount_0f7a4_21 : decode cJ6_bitCount_0f7a4 21 = .ok (.iand, 1) := by decide +kernel
theorem dJ6_bitCount_0f7a4_22 : decode cJ6_bitCount_0f7a4 22 = .ok (.iadd, 1) := by decide +kernel
theorem dJ6_bitCount_0f7a4_23 : decode cJ6_bitCount_0f7a4 23 = .ok (.istore_n 0, 1) := by decide +kernel
theorem dJ6_bitCount_0f7a4_24 : decode cJ6_bitCount_0f7a4 24 = .ok (.iload_n 0, 1) := by decide +kernel
theorem dJ6_bitCount_0f7a4_25 : decode cJ6_bitCount_0f7a4 25 = .ok (.iload_n 0, 1) := by decide +kernel
theorem dJ6_bitCount_0f7a4_26 : decode cJ6_bitCount_0f7a4 26 = .ok (.iconst 4, 1) := by decide +kernel
theorem dJ6_bitCount_0f7a4_27 : decode cJ6_bitCount_0f7a4 27 = .ok (.iushr, 1) := by decide +kernel
theorem dJ6_bitCount_0f7a4_28 : decode cJ6_bitCount_0f7a4 28 = .ok (.iadd, 1) := by decide +kernel
theorem dJ6_bitCount_0f7a4_29 : decode cJ6_bitCount_0f7a4 29 = .ok (.ldc_w 267, 3) := by decide +kernel
theorem dJ6_bitCount_0f7a4_32 : decode cJ6_bitCount_0f7a4 32 = .ok (.iand, 1) := by decide +kernel
theorem dJ6_bitCount_0f7a4_33 : decode cJ6_bitCount_0f7a4 33 = .ok (.istore_n 0, 1) := by decide +kernel
theorem dJ6_bitCount_0f7a4_34 : decode cJ6_bitCount_0f7a4 34 = .ok (.iload_n 0, 1) := by decide +kernel
theorem dJ6_bitCount_0f7a4_35 : decode cJ6_bitCount_0f7a4 35 = .ok (.iload_n 0, 1) := by decide +kernel
theorem dJ6_bitCount_0f7a4_36 : decode cJ6_bitCount_0f7a4 36 = .ok (.bipush 8, 2) := by decide +kernel
theorem dJ6_bitCount_0f7a4_38 : decode cJ6_bitCount_0f7a4 38 = .ok (.iushr, 1) := by decide +kernel
theorem dJ6_bitCount_0f7a4_39 : decode cJ6_bitCount_0f7a4 39 = .ok (.iadd, 1) := by decide +kernel
theorem dJ6_bitCount_0f7a4_40 : decode cJ6_bitCount_0f7a4 40 = .ok (.istore_n 0, 1) := by decide +kernel
theorem dJ6_bitCount_0f7a4_41 : decode cJ6_bitCount_0f7a4 41 = .ok (.iload_n 0, 1) := by decide +kernel
theorem dJ6_bitCount_0f7a4_42 : decode cJ6_bitCount_0f7a4 42 = .ok (.iload_n 0, 1) := by decide +kernel
theorem dJ6_bitCount_0f7a4_43 : decode cJ6_bitCount_0f7a4 43 = .ok (.bipush 16, 2) := by decide +kernel
theorem dJ6_bitCount_0f7a4_45 : decode cJ6_bitCount_0f7a4 45 = .ok (.iushr, 1) := by decide +kernel
theorem dJ6_bitCount_0f7a4_46 : decode cJ6_bitCount_0f7a4 46 = .ok (.iadd, 1) := by decide +kernel
theorem dJ6_bitCount_0f7a4_47 : decode cJ6_bitCount_0f7a4 47 = .ok (.istore_n 0, 1) := by decide +kernel
theorem dJ6_bitCount_0f7a4_48 : decode cJ6_bitCount_0f7a4 48 = .ok (.iload_n 0, 1) := by decide +kernel
theorem dJ6_bitCount_0f7a4_49 : decode cJ6_bitCount_0f7a4 49 = .ok (.bipush 63, 2) := by decide +kernel
theorem dJ6_bitCount_0f7a4_51 : decode cJ6_bitCount_0f7a4 51 = .ok (.iand, 1) := by decide +kernel
theorem dJ6_bitCount_0f7a4_52 : decode cJ6_bitCount_0f7a4 52 = .ok (.ireturn, 1) := by decide +kernel
theorem dJ13_bitCount_95d88_0 : decode cJ13_bitCount_95d88 0 = .ok (.lload_n 0, 1) := by decide +kernel
theorem dJ13_bitCount_95d88_1 : decode cJ13_bitCount_95d88 1 = .ok (.lload_n 0, 1) := by decide +kernel
theorem dJ13_bitCount_95d88_2 : decode cJ13_bitCount_95d88 2 = .ok (.iconst 1, 1) := by decide +kernel
theorem dJ13_bitCount_95d88_3 : decode cJ13_bitCount_95d88 3 = .ok (.lushr, 1) := by decide +kernel
theorem dJ13_bitCount_95d88_4 : decode cJ13_bitCount_95d88 4 = .ok (.ldc2_w 314, 3) := by decide +kernel
theorem dJ13_bitCount_95d88_7 : decode cJ13_bitCount_95d88 7 = .ok (.land, 1) := by decide +kernel
theorem dJ13_bitCount_95d88_8 : decode cJ13_bitCount_95d88 8 = .ok (.lsub, 1) := by decide +kernel
theorem dJ13_bitCount_95d88_9 : decode cJ13_bitCount_95d88 9 = .ok (.lstore_n 0, 1) := by decide +kernel
theorem dJ13_bitCount_95d88_10 : decode cJ13_bitCount_95d88 10 = .ok (.lload_n 0, 1) := by decide +kernel
theorem dJ13_bitCount_95d88_11 : decode cJ13_bitCount_95d88 11 = .ok (.ldc2_w 316, 3) := by decide +kernel
theorem dJ13_bitCount_95d88_14 : decode cJ13_bitCount_95d88 14 = .ok (.land, 1) := by decide +kernel
theorem dJ13_bitCount_95d88_15 : decode cJ13_bitCount_95d88 15 = .ok (.lload_n 0, 1) := by decide +kernel
theorem dJ13_bitCount_95d88_16 : decode cJ13_bitCount_95d88 16 = .ok (.iconst 2, 1) := by decide +kernel
theorem dJ13_bitCount_95d88_17 : decode cJ13_bitCount_95d88 17 = .ok (.lushr, 1) := by decide +kernel
theorem dJ13_bitCount_95d88_18 : decode cJ13_bitCount_95d88 18 = .ok (.ldc2_w 316, 3) := by decide +kernel
theorem dJ13_bitCount_95d88_21 : decode cJ13_bitCount_95d88 21 = .ok (.land, 1) := by decide +kernel
theorem dJ13_bitCount_95d88_22 : decode cJ13_bitCount_95d88 22 = .ok (.ladd, 1) := by decide +kernel
theorem dJ13_bitCount_95d88_23 : decode cJ13_bitCount_95d88 23 = .ok (.lstore_n 0, 1) := by decide +kernel
theorem dJ13_bitCount_95d88_24 : decode cJ13_bitCount_95d88 24 = .ok (.lload_n 0, 1) := by decide +kernel
theorem dJ13_bitCount_95d88_25 : decode cJ13_bitCount_95d88 25 = .ok (.lload_n 0, 1) := by decide +kernel
theorem dJ13_bitCount_95d88_26 : decode cJ13_bitCount_95d88 26 = .ok (.iconst 4, 1) := by decide +kernel
theorem dJ13_bitCount_95d88_27 : decode cJ13_bitCount_95d88 27 = .ok (.lushr, 1) := by decide +kernel
theorem dJ13_bitCount_95d88_28 : decode cJ13_bitCount_95d88 28 = .ok (.ladd, 1) := by decide +kernel
theorem dJ13_bitCount_95d88_29 : decode cJ13_bitCount_95d88 29 = .ok (.ldc2_w 318, 3) := by decide +kernel
theorem dJ13_bitCount_95d88_32 : decode cJ13_bitCount_95d88 32 = .ok (.land, 1) := by decide +kernel
theorem dJ13_bitCount_95d88_33 : decode cJ13_bitCount_95d88 33 = .ok (.lstore_n 0, 1) := by decide +kernel
theorem dJ13_bitCount_95d88_34 : decode cJ13_bitCount_95d88 34 = .ok (.lload_n 0, 1) := by decide +kernel
theorem dJ13_bitCount_95d88_35 : decode cJ13_bitCount_95d88 35 = .ok (.lload_n 0, 1) := by decide +kernel
theorem dJ13_bitCount_95d88_36 : decode cJ13_bitCount_95d88 36 = .ok (.bipush 8, 2) := by decide +kernel
theorem dJ13_bitCount_95d88_38 : decode cJ13_bitCount_95d88 38 = .ok (.lushr, 1) := by decide +kernel
theorem dJ13_bitCount_95d88_39 : decode cJ13_bitCount_95d88 39 = .ok (.ladd, 1) := by decide +kernel
theorem dJ13_bitCount_95d88_40 : decode cJ13_bitCount_95d88 40 = .ok (.lstore_n 0, 1) := by decide +kernel
theorem dJ13_bitCount_95d88_41 : decode cJ13_bitCount_95d88 41 = .ok (.lload_n 0, 1) := by decide +kernel
theorem dJ13_bitCount_95d88_42 : decode cJ13_bitCount_95d88 42 = .ok (.lload_n 0, 1) := by decide +kernel
theorem dJ13_bitCount_95d88_43 : decode cJ13_bitCount_95d88 43 = .ok (.bipush 16, 2) := by decide +kernel
theorem dJ13_bitCount_95d88_45 : decode cJ13_bitCount_95d88 45 = .ok (.lushr, 1) := by decide +kernel
theorem dJ13_bitCount_95d88_46 : decode cJ13_bitCount_95d88 46 = .ok (.ladd, 1) := by decide +kernel
theorem dJ13_bitCount_95d88_47 : decode cJ13_bitCount_95d88 47 = .ok (.lstore_n 0, 1) := by decide +kernel
theorem dJ13_bitCount_95d88_48 : decode cJ13_bitCount_95d88 48 = .ok (.lload_n 0, 1) := by decide +kernel
theorem dJ13_bitCount_95d88_49 : decode cJ13_bitCount_95d88 49 = .ok (.lload_n 0, 1) := by decide +kernel
theorem dJ13_bitCount_95d88_50 : decode cJ13_bitCount_95d88 50 = .ok (.bipush 32, 2) := by decide +kernel
theorem dJ13_bitCount_95d88_52 : decode cJ13_bitCount_95d88 52 = .ok (.lushr, 1) := by decide +kernel
theorem dJ13_bitCount_95d88_53 : decode cJ13_bitCount_95d88 53 = .ok (.ladd, 1) := by decide +kernel
theorem dJ13_bitCount_95d88_54 : decode cJ13_bitCount_95d88 54 = .ok (.lstore_n 0, 1) := by decide +kernel
theorem dJ13_bitCount_95d88_55 : decode cJ13_bitCount_95d88 55 = .ok (.lload_n 0, 1) := by decide +kernel
theorem dJ13_bitCount_95d88_56 : decode cJ13_bitCount_95d88 56 = .ok (.l2i, 1) := by decide +kernel
theorem dJ13_bitCount_95d88_57 : decode cJ13_bitCount_95d88 57 = .ok (.bipush 127, 2) := by decide +kernel
theorem dJ13_bitCount_95d88_59 : decode cJ13_bitCount_95d88 59 = .ok (.iand, 1) := by decide +kernel
theorem dJ13_bitCount_95d88_60 : decode cJ13_bitCount_95d88 60 = .ok (.ireturn, 1) := by decide +kernel
theorem dJ9_floorDiv_f86c9_0 : decode cJ9_floorDiv_f86c9 0 = .ok (.lload_n 0, 1) := by decide +kernel
theorem dJ9_floorDiv_f86c9_1 : decode cJ9_floorDiv_f86c9 1 = .ok (.lload_n 2, 1) := by decide +kernel
theorem dJ9_floorDiv_f86c9_2 : decode cJ9_floorDiv_f86c9 2 = .ok (.ldiv, 1) := by decide +kernel
theorem dJ9_floorDiv_f86c9_3 : decode cJ9_floorDiv_f86c9 3 = .ok (.lstore 4, 2) := by decide +kernel
theorem dJ9_floorDiv_f86c9_5 : decode cJ9_floorDiv_f86c9 5 = .ok (.lload_n 0, 1) := by decide +kernel
theorem dJ9_floorDiv_f86c9_6 : decode cJ9_floorDiv_f86c9 6 = .ok (.lload_n 2, 1) := by decide +kernel
theorem dJ9_floorDiv_f86c9_7 : decode cJ9_floorDiv_f86c9 7 = .ok (.lxor, 1) := by decide +kernel
theorem dJ9_floorDiv_f86c9_8 : decode cJ9_floorDiv_f86c9 8 = .ok (.lconst 0, 1) := by decide +kernel
theorem dJ9_floorDiv_f86c9_9 : decode cJ9_floorDiv_f86c9 9 = .ok (.lcmp, 1) := by decide +kernel
theorem dJ9_floorDiv_f86c9_10 : decode cJ9_floorDiv_f86c9 10 = .ok (.ifCond .ge 17, 3) := by decide +kernel
theorem dJ9_floorDiv_f86c9_13 : decode cJ9_floorDiv_f86c9 13 = .ok (.lload 4, 2) := by decide +kernel
theorem dJ9_floorDiv_f86c9_15 : decode cJ9_floorDiv_f86c9 15 = .ok (.lload_n 2, 1) := by decide +kernel
theorem dJ9_floorDiv_f86c9_16 : decode cJ9_floorDiv_f86c9 16 = .ok (.lmul, 1) := by decide +kernel
theorem dJ9_floorDiv_f86c9_17 : decode cJ9_floorDiv_f86c9 17 = .ok (.lload_n 0, 1) := by decide +kernel
theorem dJ9_floorDiv_f86c9_18 : decode cJ9_floorDiv_f86c9 18 = .ok (.lcmp, 1) := by decide +kernel
theorem dJ9_floorDiv_f86c9_19 : decode cJ9_floorDiv_f86c9 19 = .ok (.ifCond .eq 8, 3) := by decide +kernel
theorem dJ9_floorDiv_f86c9_22 : decode cJ9_floorDiv_f86c9 22 = .ok (.lload 4, 2) := by decide +kernel
theorem dJ9_floorDiv_f86c9_24 : decode cJ9_floorDiv_f86c9 24 = .ok (.lconst 1, 1) := by decide +kernel
theorem dJ9_floorDiv_f86c9_25 : decode cJ9_floorDiv_f86c9 25 = .ok (.lsub, 1) := by decide +kernel
theorem dJ9_floorDiv_f86c9_26 : decode cJ9_floorDiv_f86c9 26 = .ok (.lreturn, 1) := by decide +kernel
theorem dJ9_floorDiv_f86c9_27 : decode cJ9_floorDiv_f86c9 27 = .ok (.lload 4, 2) := by decide +kernel
theorem dJ9_floorDiv_f86c9_29 : decode cJ9_floorDiv_f86c9 29 = .ok (.lreturn, 1) := by decide +kernel
theorem dJ9_abs_0f7a4_0 : decode cJ9_abs_0f7a4 0 = .ok (.iload_n 0, 1) := by decide +kernel
theorem dJ9_abs_0f7a4_1 : decode cJ9_abs_0f7a4 1 = .ok (.ifCond .ge 8, 3) := by decide +kernel
theorem dJ9_abs_0f7a4_4 : decode cJ9_abs_0f7a4 4 = .ok (.iload_n 0, 1) := by decide +kernel
theorem dJ9_abs_0f7a4_5 : decode cJ9_abs_0f7a4 5 = .ok (.ineg, 1) := by decide +kernel
theorem dJ9_abs_0f7a4_6 : decode cJ9_abs_0f7a4 6 = .ok (.goto 4, 3) := by decide +kernel
theorem dJ9_abs_0f7a4_9 : decode cJ9_abs_0f7a4 9 = .ok (.iload_n 0, 1) := by decide +kernel
theorem dJ9_abs_0f7a4_10 : decode cJ9_abs_0f7a4 10 = .ok (.ireturn, 1) := by decide +kernel
theorem dJ9_abs_067f4_0 : decode cJ9_abs_067f4 0 = .ok (.lload_n 0, 1) := by decide +kernel
theorem dJ9_abs_067f4_1 : decode cJ9_abs_067f4 1 = .ok (.lconst 0, 1) := by decide +kernel
theorem dJ9_abs_067f4_2 : decode cJ9_abs_067f4 2 = .ok (.lcmp, 1) := by decide +kernel
theorem dJ9_abs_067f4_3 : decode cJ9_abs_067f4 3 = .ok (.ifCond .ge 8, 3) := by decide +kernel
theorem dJ9_abs_067f4_6 : decode cJ9_abs_067f4 6 = .ok (.lload_n 0, 1) := by decide +kernel
theorem dJ9_abs_067f4_7 : decode cJ9_abs_067f4 7 = .ok (.lneg, 1) := by decide +kernel
theorem dJ9_abs_067f4_8 : decode cJ9_abs_067f4 8 = .ok (.goto 4, 3) := by decide +kernel
theorem dJ9_abs_067f4_11 : decode cJ9_abs_067f4 11 = .ok (.lload_n 0, 1) := by decide +kernel
theorem dJ9_abs_067f4_12 : decode cJ9_abs_067f4 12 = .ok (.lreturn, 1) := by decide +kernel
theorem dJ9_max_7cf53_0 : decode cJ9_max_7cf53 0 = .ok (.iload_n 0, 1) := by decide +kernel
theorem dJ9_max_7cf53_1 : decode cJ9_max_7cf53 1 = .ok (.iload_n 1, 1) := by decide +kernel
theorem dJ9_max_7cf53_2 : decode cJ9_max_7cf53 2 = .ok (.if_icmp .lt 7, 3) := by decide +kernel
theorem dJ9_max_7cf53_5 : decode cJ9_max_7cf53 5 = .ok (.iload_n 0, 1) := by decide +kernel
theorem dJ9_max_7cf53_6 : decode cJ9_max_7cf53 6 = .ok (.goto 4, 3) := by decide +kernel
theorem dJ9_max_7cf53_9 : decode cJ9_max_7cf53 9 = .ok (.iload_n 1, 1) := by decide +kernel
theorem dJ9_max_7cf53_10 : decode cJ9_max_7cf53 10 = .ok (.ireturn, 1) := by decide +kernel
theorem dJ9_max_f86c9_0 : decode cJ9_max_f86c9 0 = .ok (.lload_n 0, 1) := by decide +kernel
theorem dJ9_max_f86c9_1 : decode cJ9_max_f86c9 1 = .ok (.lload_n 2, 1) := by decide +kernel
theorem dJ9_max_f86c9_2 : decode cJ9_max_f86c9 2 = .ok (.lcmp, 1) := by decide +kernel
theorem dJ9_max_f86c9_3 : decode cJ9_max_f86c9 3 = .ok (.ifCond .lt 7, 3) := by decide +kernel
theorem dJ9_max_f86c9_6 : decode cJ9_max_f86c9 6 = .ok (.lload_n 0, 1) := by decide +kernel
theorem dJ9_max_f86c9_7 : decode cJ9_max_f86c9 7 = .ok (.goto 4, 3) := by decide +kernel
theorem dJ9_max_f86c9_10 : decode cJ9_max_f86c9 10 = .ok (.lload_n 2, 1) := by decide +kernel
theorem dJ9_max_f86c9_11 : decode cJ9_max_f86c9 11 = .ok (.lreturn, 1) := by decide +kernel
theorem dJ9_min_7cf53_0 : decode cJ9_min_7cf53 0 = .ok (.iload_n 0, 1) := by decide +kernel
theorem dJ9_min_7cf53_1 : decode cJ9_min_7cf53 1 = .ok (.iload_n 1, 1) := by decide +kernel
theorem dJ9_min_7cf53_2 : decode cJ9_min_7cf53 2 = .ok (.if_icmp .gt 7, 3) := by decide +kernel
theorem dJ9_min_7cf53_5 : decode cJ9_min_7cf53 5 = .ok (.iload_n 0, 1) := by decide +kernel
theorem dJ9_min_7cf53_6 : decode cJ9_min_7cf53 6 = .ok (.goto 4, 3) := by decide +kernel
theorem dJ9_min_7cf53_9 : decode cJ9_min_7cf53 9 = .ok (.iload_n 1, 1) := by decide +kernel
theorem dJ9_min_7cf53_10 : decode cJ9_min_7cf53 10 = .ok (.ireturn, 1) := by decide +kernel
set_option maxRecDepth 20000 in
theorem ggL_law_X2_init : GoodIn wsL_law wsX2_init := goodIn_r _ [9, 10, 11, 12, 13, 14, 15, 16, 17, 18, 19, 20, 21, 22, 23, 24, 25, 26, 27, 28, 29, 30, 31, 32, 33, 34, 35, 36, 37, 38, 39, 40, 41, 42, 43, 44, 45, 46, 47, 48, 527, 528, 504, 505, 506, 507, 508, 509, 510, 511, 512, 513, 529, 530, 531] (by decide +kernel) (by decide +kernel)
set_option maxRecDepth 20000 in
theorem gL_law_X2_init : GoodIn wsL_law (wsX2_init) := ggL_law_X2_init
set_option maxRecDepth 20000 in
theorem ggL_law_X3_init : GoodIn wsL_law wsX3_init := goodIn_r _ [51, 52, 11, 12, 21, 53, 54, 55, 45, 56, 57, 58, 59, 514, 515, 516, 517, 518, 519, 520, 521, 522, 523, 524, 525, 526] (by decide +kernel) (by decide +kernel)
set_option maxRecDepth 20000 in
theorem gL_law_X3_init : GoodIn wsL_law (wsX3_init) := ggL_law_X3_init
set_option maxRecDepth 20000 in
theorem ggL_law_X2_length : GoodIn wsL_law wsX2_length := goodIn_r _ [63, 16, 22, 64, 15, 65, 66, 33, 34, 35, 36, 37, 38, 39, 40, 41, 504, 505, 506, 507, 508, 509, 510, 511, 512, 513, 527, 528] (by decide +kernel) (by decide +kernel)
set_option maxRecDepth 20000 in
theorem gL_law_X2_length : GoodIn wsL_law (wsV RL 13 RX2 yX2_length wsX2_length) := goodIn_app (goodIn_of _ (by decide +kernel)) ggL_law_X2_length
set_option maxRecDepth 20000 in
theorem ggL_law_X3_length : GoodIn wsL_law wsX3_length := goodIn_r _ [70, 57, 53, 514, 515, 516, 517, 518, 519, 520, 521, 522, 523, 524, 525, 526] (by decide +kernel) (by decide +kernel)
set_option maxRecDepth 20000 in
theorem gL_law_X3_length : GoodIn wsL_law (wsV RL 17 RX3 yX3_length wsX3_length) := goodIn_app (goodIn_of _ (by decide +kernel)) ggL_law_X3_length
set_option maxRecDepth 20000 in
theorem ggL_law_X2_source : GoodIn wsL_law wsX2_source := goodIn_r _ [74, 16, 75, 76, 2, 77, 78, 79, 80, 81, 82, 83, 84, 85, 86, 87, 88, 15, 89, 90, 91, 92, 93, 94, 95, 96, 97, 98, 99, 100, 101, 34, 102, 103, 104, 105, 33, 106, 107, 108, 109, 110, 111, 112, 113, 114, 115, 116, 117, 22, 118, 119, 120, 121, 122, 123, 124, 125, 504, 505, 506, 507, 508, 509, 510, 511, 512, 513, 527, 528] (by decide +kernel) (by decide +kernel)
set_option maxRecDepth 20000 in
theorem gL_law_X2_source : GoodIn wsL_law (wsV RL 18 RX2 yX2_source wsX2_source) := goodIn_app (goodIn_of _ (by decide +kernel)) ggL_law_X2_source
set_option maxRecDepth 20000 in
theorem ggL_law_X3_source : GoodIn wsL_law wsX3_source := goodIn_r _ [129, 53, 130, 131, 5, 132, 133, 134, 135, 136, 137, 138, 139, 140, 141, 57, 142, 143, 144, 145, 146, 147, 148, 149, 150, 151, 152, 153, 154, 155, 156, 157, 514, 515, 516, 517, 518, 519, 520, 521, 522, 523, 524, 525, 526] (by decide +kernel) (by decide +kernel)
set_option maxRecDepth 20000 in
theorem gL_law_X3_source : GoodIn wsL_law (wsV RL 22 RX3 yX3_source wsX3_source) := goodIn_app (goodIn_of _ (by decide +kernel)) ggL_law_X3_source
set_option maxRecDepth 20000 in
theorem ggL_law_X2_put : GoodIn wsL_law wsX2_put := goodIn_r _ [161, 22, 93, 75, 76, 2, 77, 78, 79, 80, 162, 163, 164, 165, 16, 166, 167, 168, 504, 505, 506, 507, 508, 509, 510, 511, 512, 513, 527, 528] (by decide +kernel) (by decide +kernel)
set_option maxRecDepth 20000 in
theorem gL_law_X2_put : GoodIn wsL_law (wsV RL 23 RX2 yX2_put wsX2_put) := goodIn_app (goodIn_of _ (by decide +kernel)) ggL_law_X2_put
set_option maxRecDepth 20000 in
theorem ggL_law_X3_put : GoodIn wsL_law wsX3_put := goodIn_r _ [172, 57, 53, 173, 130, 131, 5, 132, 133, 134, 135, 136, 154, 155, 156, 157, 514, 515, 516, 517, 518, 519, 520, 521, 522, 523, 524, 525, 526] (by decide +kernel) (by decide +kernel)
set_option maxRecDepth 20000 in
theorem gL_law_X3_put : GoodIn wsL_law (wsV RL 27 RX3 yX3_put wsX3_put) := goodIn_app (goodIn_of _ (by decide +kernel)) ggL_law_X3_put
set_option maxRecDepth 20000 in
theorem ggL_law_X2_bit : GoodIn wsL_law wsX2_bit := goodIn_r _ [177, 22, 75, 76, 2, 77, 78, 79, 80, 162, 163, 164, 165, 16, 166, 167, 168, 504, 505, 506, 507, 508, 509, 510, 511, 512, 513, 527, 528] (by decide +kernel) (by decide +kernel)
set_option maxRecDepth 20000 in
theorem gL_law_X2_bit : GoodIn wsL_law (wsV RL 28 RX2 yX2_bit wsX2_bit) := goodIn_app (goodIn_of _ (by decide +kernel)) ggL_law_X2_bit
set_option maxRecDepth 20000 in
theorem ggL_law_X3_bit : GoodIn wsL_law wsX3_bit := goodIn_r _ [181, 57, 53, 130, 131, 5, 132, 133, 134, 135, 136, 154, 155, 156, 157, 514, 515, 516, 517, 518, 519, 520, 521, 522, 523, 524, 525, 526] (by decide +kernel) (by decide +kernel)
set_option maxRecDepth 20000 in
theorem gL_law_X3_bit : GoodIn wsL_law (wsV RL 32 RX3 yX3_bit wsX3_bit) := goodIn_app (goodIn_of _ (by decide +kernel)) ggL_law_X3_bit
set_option maxRecDepth 20000 in
theorem ggL_law_X2_ones : GoodIn wsL_law wsX2_ones := goodIn_r _ [185, 22, 75, 76, 2, 77, 78, 79, 80, 119, 120, 121, 122, 123, 124, 125, 504, 505, 506, 507, 508, 509, 510, 511, 512, 513] (by decide +kernel) (by decide +kernel)
set_option maxRecDepth 20000 in
theorem gL_law_X2_ones : GoodIn wsL_law (wsV RL 33 RX2 yX2_ones wsX2_ones) := goodIn_app (goodIn_of _ (by decide +kernel)) ggL_law_X2_ones
set_option maxRecDepth 20000 in
theorem ggL_law_X3_ones : GoodIn wsL_law wsX3_ones := goodIn_r _ [189, 53, 130, 131, 5, 132, 133, 134, 135, 136, 150, 151, 152, 153, 57, 154, 155, 156, 157, 514, 515, 516, 517, 518, 519, 520, 521, 522, 523, 524, 525, 526] (by decide +kernel) (by decide +kernel)
set_option maxRecDepth 20000 in
theorem gL_law_X3_ones : GoodIn wsL_law (wsV RL 36 RX3 yX3_ones wsX3_ones) := goodIn_app (goodIn_of _ (by decide +kernel)) ggL_law_X3_ones
set_option maxRecDepth 20000 in
theorem ggL_law_X2_gate : GoodIn wsL_law wsX2_gate := goodIn_r _ [193, 22, 78, 79, 2, 80, 75, 76, 77, 194, 195, 196, 93, 114, 115, 116, 117, 16, 118, 91, 92, 119, 120, 121, 122, 123, 124, 125, 504, 505, 506, 507, 508, 509, 510, 511, 512, 513, 527, 528] (by decide +kernel) (by decide +kernel)
set_option maxRecDepth 20000 in
theorem gL_law_X2_gate : GoodIn wsL_law (wsV RL 37 RX2 yX2_gate wsX2_gate) := goodIn_app (goodIn_of _ (by decide +kernel)) ggL_law_X2_gate
set_option maxRecDepth 20000 in
theorem ggL_law_X3_gate : GoodIn wsL_law wsX3_gate := goodIn_r _ [200, 201, 53, 134, 135, 5, 136, 130, 131, 132, 133, 202, 203, 204, 205, 57, 154, 155, 156, 157, 206, 207, 208, 150, 151, 152, 153, 514, 515, 516, 517, 518, 519, 520, 521, 522, 523, 524, 525, 526] (by decide +kernel) (by decide +kernel)
set_option maxRecDepth 20000 in
theorem gL_law_X3_gate : GoodIn wsL_law (wsV RL 41 RX3 yX3_gate wsX3_gate) := goodIn_app (goodIn_of _ (by decide +kernel)) ggL_law_X3_gate
set_option maxRecDepth 20000 in
theorem ggL_law_X2_not : GoodIn wsL_law wsX2_not := goodIn_r _ [212, 22, 93, 75, 76, 2, 77, 78, 79, 80, 114, 115, 116, 117, 16, 118, 91, 92, 119, 120, 121, 122, 123, 124, 125, 504, 505, 506, 507, 508, 509, 510, 511, 512, 513, 527, 528] (by decide +kernel) (by decide +kernel)
set_option maxRecDepth 20000 in
theorem gL_law_X2_not : GoodIn wsL_law (wsV RL 42 RX2 yX2_not wsX2_not) := goodIn_app (goodIn_of _ (by decide +kernel)) ggL_law_X2_not
set_option maxRecDepth 20000 in
theorem ggL_law_X3_not : GoodIn wsL_law wsX3_not := goodIn_r _ [216, 53, 130, 131, 5, 132, 133, 134, 135, 136, 202, 203, 204, 205, 57, 154, 155, 156, 157, 206, 207, 208, 150, 151, 152, 153, 514, 515, 516, 517, 518, 519, 520, 521, 522, 523, 524, 525, 526] (by decide +kernel) (by decide +kernel)
set_option maxRecDepth 20000 in
theorem gL_law_X3_not : GoodIn wsL_law (wsV RL 45 RX3 yX3_not wsX3_not) := goodIn_app (goodIn_of _ (by decide +kernel)) ggL_law_X3_not
set_option maxRecDepth 20000 in
theorem ggL_law_X2_later : GoodIn wsL_law wsX2_later := goodIn_r _ [220, 16, 22, 75, 76, 2, 77, 78, 79, 80, 221, 15, 222, 223, 33, 224, 225, 226, 227, 91, 92, 93, 114, 115, 116, 117, 118, 119, 120, 121, 122, 123, 124, 125, 504, 505, 506, 507, 508, 509, 510, 511, 512, 513, 527, 528] (by decide +kernel) (by decide +kernel)
set_option maxRecDepth 20000 in
theorem gL_law_X2_later : GoodIn wsL_law (wsV RL 46 RX2 yX2_later wsX2_later) := goodIn_app (goodIn_of _ (by decide +kernel)) ggL_law_X2_later
set_option maxRecDepth 20000 in
theorem ggL_law_X3_later : GoodIn wsL_law wsX3_later := goodIn_r _ [231, 232, 233, 53, 57, 130, 131, 5, 132, 133, 134, 135, 136, 234, 235, 236, 237, 154, 155, 156, 157, 150, 151, 152, 153, 514, 515, 516, 517, 518, 519, 520, 521, 522, 523, 524, 525, 526] (by decide +kernel) (by decide +kernel)
set_option maxRecDepth 20000 in
theorem gL_law_X3_later : GoodIn wsL_law (wsV RL 49 RX3 yX3_later wsX3_later) := goodIn_app (goodIn_of _ (by decide +kernel)) ggL_law_X3_later
set_option maxRecDepth 20000 in
theorem ggL_law_X2_flip : GoodIn wsL_law wsX2_flip := goodIn_r _ [241, 16, 22, 75, 76, 2, 77, 78, 79, 80, 118, 91, 92, 93, 119, 120, 121, 122, 123, 124, 125, 504, 505, 506, 507, 508, 509, 510, 511, 512, 513, 527, 528] (by decide +kernel) (by decide +kernel)
set_option maxRecDepth 20000 in
theorem gL_law_X2_flip : GoodIn wsL_law (wsV RL 52 RX2 yX2_flip wsX2_flip) := goodIn_app (goodIn_of _ (by decide +kernel)) ggL_law_X2_flip
set_option maxRecDepth 20000 in
theorem ggL_law_X3_flip : GoodIn wsL_law wsX3_flip := goodIn_r _ [245, 57, 53, 130, 131, 5, 132, 133, 134, 135, 136, 154, 155, 156, 157, 514, 515, 516, 517, 518, 519, 520, 521, 522, 523, 524, 525, 526] (by decide +kernel) (by decide +kernel)
set_option maxRecDepth 20000 in
theorem gL_law_X3_flip : GoodIn wsL_law (wsV RL 56 RX3 yX3_flip wsX3_flip) := goodIn_app (goodIn_of _ (by decide +kernel)) ggL_law_X3_flip
set_option maxRecDepth 20000 in
theorem ggL_law_X2_both : GoodIn wsL_law wsX2_both := goodIn_r _ [249, 22, 75, 76, 2, 77, 78, 79, 80, 250, 251, 252, 253, 93, 16, 118, 91, 92, 119, 120, 121, 122, 123, 124, 125, 504, 505, 506, 507, 508, 509, 510, 511, 512, 513, 527, 528] (by decide +kernel) (by decide +kernel)
set_option maxRecDepth 20000 in
theorem gL_law_X2_both : GoodIn wsL_law (wsV RL 57 RX2 yX2_both wsX2_both) := goodIn_app (goodIn_of _ (by decide +kernel)) ggL_law_X2_both
set_option maxRecDepth 20000 in
theorem ggL_law_X3_both : GoodIn wsL_law wsX3_both := goodIn_r _ [257, 141, 130, 131, 5, 132, 133, 134, 135, 136, 258, 259, 260, 261, 57, 53, 154, 155, 156, 157, 514, 515, 516, 517, 518, 519, 520, 521, 522, 523, 524, 525, 526] (by decide +kernel) (by decide +kernel)
set_option maxRecDepth 20000 in
theorem gL_law_X3_both : GoodIn wsL_law (wsV RL 60 RX3 yX3_both wsX3_both) := goodIn_app (goodIn_of _ (by decide +kernel)) ggL_law_X3_both
set_option maxRecDepth 20000 in
theorem ggL_law_X2_together : GoodIn wsL_law wsX2_together := goodIn_r _ [265, 266, 22, 16, 267, 268, 269, 270, 271, 272, 273, 75, 76, 2, 77, 78, 79, 80, 250, 251, 252, 253, 93, 118, 91, 92, 119, 120, 121, 122, 123, 124, 125, 504, 505, 506, 507, 508, 509, 510, 511, 512, 513, 527, 528] (by decide +kernel) (by decide +kernel)
set_option maxRecDepth 20000 in
theorem gL_law_X2_together : GoodIn wsL_law (wsV RL 61 RX2 yX2_together wsX2_together) := goodIn_app (goodIn_of _ (by decide +kernel)) ggL_law_X2_together
set_option maxRecDepth 20000 in
theorem ggL_law_X3_together : GoodIn wsL_law wsX3_together := goodIn_r _ [277, 278, 57, 130, 131, 5, 132, 133, 134, 135, 136, 258, 259, 260, 261, 53, 154, 155, 156, 157, 514, 515, 516, 517, 518, 519, 520, 521, 522, 523, 524, 525, 526] (by decide +kernel) (by decide +kernel)
set_option maxRecDepth 20000 in
theorem gL_law_X3_together : GoodIn wsL_law (wsV RL 64 RX3 yX3_together wsX3_together) := goodIn_app (goodIn_of _ (by decide +kernel)) ggL_law_X3_together
set_option maxRecDepth 20000 in
theorem ggL_law_X2_miss : GoodIn wsL_law wsX2_miss := goodIn_r _ [282, 27, 16, 23, 24, 78, 79, 2, 80, 81, 82, 83, 88, 15, 89, 90, 91, 92, 93, 94, 95, 96, 97, 98, 99, 100, 101, 34, 102, 103, 104, 105, 33, 106, 107, 108, 109, 110, 111, 112, 113, 221, 222, 223, 224, 225, 226, 227, 283, 284, 285, 286, 287, 288, 269, 289, 28, 29, 118, 194, 195, 196, 119, 120, 121, 122, 123, 124, 125, 290, 291, 292, 293, 504, 505, 506, 507, 508, 509, 510, 511, 512, 513, 527, 528] (by decide +kernel) (by decide +kernel)
set_option maxRecDepth 20000 in
theorem gL_law_X2_miss : GoodIn wsL_law (wsV RL 65 RX2 yX2_miss wsX2_miss) := goodIn_app (goodIn_of _ (by decide +kernel)) ggL_law_X2_miss
set_option maxRecDepth 20000 in
theorem ggL_law_X3_miss : GoodIn wsL_law wsX3_miss := goodIn_r _ [297, 141, 298, 299, 57, 54, 55, 300, 301, 134, 135, 5, 136, 142, 143, 144, 145, 146, 147, 148, 149, 234, 235, 236, 237, 154, 155, 156, 157, 202, 203, 204, 205, 206, 207, 208, 150, 151, 152, 153, 302, 303, 304, 305, 514, 515, 516, 517, 518, 519, 520, 521, 522, 523, 524, 525, 526] (by decide +kernel) (by decide +kernel)
set_option maxRecDepth 20000 in
theorem gL_law_X3_miss : GoodIn wsL_law (wsV RL 69 RX3 yX3_miss wsX3_miss) := goodIn_app (goodIn_of _ (by decide +kernel)) ggL_law_X3_miss
set_option maxRecDepth 20000 in
theorem ggL_law_X2_where : GoodIn wsL_law wsX2_where := goodIn_r _ [309, 27, 28, 29, 78, 79, 2, 80, 504, 505, 506, 507, 508, 509, 510, 511, 512, 513] (by decide +kernel) (by decide +kernel)
set_option maxRecDepth 20000 in
theorem gL_law_X2_where : GoodIn wsL_law (wsV RL 70 RX2 yX2_where wsX2_where) := goodIn_app (goodIn_of _ (by decide +kernel)) ggL_law_X2_where
set_option maxRecDepth 20000 in
theorem ggL_law_X3_where : GoodIn wsL_law wsX3_where := goodIn_r _ [313, 299, 300, 301, 514, 515, 516, 517, 518, 519, 520, 521, 522, 523, 524, 525, 526] (by decide +kernel) (by decide +kernel)
set_option maxRecDepth 20000 in
theorem gL_law_X3_where : GoodIn wsL_law (wsV RL 73 RX3 yX3_where wsX3_where) := goodIn_app (goodIn_of _ (by decide +kernel)) ggL_law_X3_where
set_option maxRecDepth 20000 in
theorem ggL_law_X2_machine : GoodIn wsL_law wsX2_machine := goodIn_r _ [317, 22, 75, 76, 2, 77, 78, 79, 80, 318, 319, 320, 321, 322, 323, 324, 16, 267, 268, 269, 270, 271, 272, 273, 26, 166, 167, 168, 325, 326, 327, 114, 115, 116, 117, 118, 91, 92, 93, 119, 120, 121, 122, 123, 124, 125, 504, 505, 506, 507, 508, 509, 510, 511, 512, 513, 527, 528] (by decide +kernel) (by decide +kernel)
set_option maxRecDepth 20000 in
theorem gL_law_X2_machine : GoodIn wsL_law (wsV RL 74 RX2 yX2_machine wsX2_machine) := goodIn_app (goodIn_of _ (by decide +kernel)) ggL_law_X2_machine
set_option maxRecDepth 20000 in
theorem ggL_law_X3_machine : GoodIn wsL_law wsX3_machine := goodIn_r _ [331, 57, 53, 58, 130, 131, 5, 132, 133, 134, 135, 136, 332, 333, 334, 335, 336, 154, 155, 156, 157, 150, 151, 152, 153, 514, 515, 516, 517, 518, 519, 520, 521, 522, 523, 524, 525, 526] (by decide +kernel) (by decide +kernel)
set_option maxRecDepth 20000 in
theorem gL_law_X3_machine : GoodIn wsL_law (wsV RL 77 RX3 yX3_machine wsX3_machine) := goodIn_app (goodIn_of _ (by decide +kernel)) ggL_law_X3_machine
set_option maxRecDepth 20000 in
theorem ggL_law_X2_state : GoodIn wsL_law wsX2_state := goodIn_r _ [340, 26, 504, 505, 506, 507, 508, 509, 510, 511, 512, 513] (by decide +kernel) (by decide +kernel)
set_option maxRecDepth 20000 in
theorem gL_law_X2_state : GoodIn wsL_law (wsV RL 78 RX2 yX2_state wsX2_state) := goodIn_app (goodIn_of _ (by decide +kernel)) ggL_law_X2_state
set_option maxRecDepth 20000 in
theorem ggL_law_X3_state : GoodIn wsL_law wsX3_state := goodIn_r _ [344, 58, 514, 515, 516, 517, 518, 519, 520, 521, 522, 523, 524, 525, 526] (by decide +kernel) (by decide +kernel)
set_option maxRecDepth 20000 in
theorem gL_law_X3_state : GoodIn wsL_law (wsV RL 82 RX3 yX3_state wsX3_state) := goodIn_app (goodIn_of _ (by decide +kernel)) ggL_law_X3_state
set_option maxRecDepth 20000 in
theorem ggL_law_X2_ever : GoodIn wsL_law wsX2_ever := goodIn_r _ [348, 349, 16, 318, 319, 2, 320, 78, 79, 80, 84, 85, 86, 87, 350, 351, 352, 325, 326, 327, 353, 354, 355, 356, 357, 269, 358, 359, 360, 361, 362, 363, 364, 504, 505, 506, 507, 508, 509, 510, 511, 512, 513, 527, 528] (by decide +kernel) (by decide +kernel)
set_option maxRecDepth 20000 in
theorem gL_law_X2_ever : GoodIn wsL_law (wsV RL 83 RX2 yX2_ever wsX2_ever) := goodIn_app (goodIn_of _ (by decide +kernel)) ggL_law_X2_ever
set_option maxRecDepth 20000 in
theorem ggL_law_X3_ever : GoodIn wsL_law wsX3_ever := goodIn_r _ [368, 57, 369, 332, 333, 5, 334, 335, 336, 134, 135, 136, 370, 371, 372, 373, 374, 375, 514, 515, 516, 517, 518, 519, 520, 521, 522, 523, 524, 525, 526] (by decide +kernel) (by decide +kernel)
set_option maxRecDepth 20000 in
theorem gL_law_X3_ever : GoodIn wsL_law (wsV RL 87 RX3 yX3_ever wsX3_ever) := goodIn_app (goodIn_of _ (by decide +kernel)) ggL_law_X3_ever
set_option maxRecDepth 20000 in
theorem ggL_law_X2_degree : GoodIn wsL_law wsX2_degree := goodIn_r _ [379, 20, 78, 79, 2, 80, 380, 19, 381, 382, 47, 48, 46, 504, 505, 506, 507, 508, 509, 510, 511, 512, 513, 529, 530, 531] (by decide +kernel) (by decide +kernel)
set_option maxRecDepth 20000 in
theorem gL_law_X2_degree : GoodIn wsL_law (wsV RL 88 RX2 yX2_degree wsX2_degree) := goodIn_app (goodIn_of _ (by decide +kernel)) ggL_law_X2_degree
set_option maxRecDepth 20000 in
theorem ggL_law_X3_degree : GoodIn wsL_law wsX3_degree := goodIn_r _ [386, 387, 388, 389, 59, 56, 134, 135, 5, 136, 514, 515, 516, 517, 518, 519, 520, 521, 522, 523, 524, 525, 526] (by decide +kernel) (by decide +kernel)
set_option maxRecDepth 20000 in
theorem gL_law_X3_degree : GoodIn wsL_law (wsV RL 91 RX3 yX3_degree wsX3_degree) := goodIn_app (goodIn_of _ (by decide +kernel)) ggL_law_X3_degree
set_option maxRecDepth 20000 in
theorem ggL_law_X2_term : GoodIn wsL_law wsX2_term := goodIn_r _ [393, 20, 78, 79, 2, 80, 504, 505, 506, 507, 508, 509, 510, 511, 512, 513, 529, 530, 531] (by decide +kernel) (by decide +kernel)
set_option maxRecDepth 20000 in
theorem gL_law_X2_term : GoodIn wsL_law (wsV RL 92 RX2 yX2_term wsX2_term) := goodIn_app (goodIn_of _ (by decide +kernel)) ggL_law_X2_term
set_option maxRecDepth 20000 in
theorem ggL_law_X3_term : GoodIn wsL_law wsX3_term := goodIn_r _ [397, 389, 398, 388, 56, 134, 135, 5, 136, 514, 515, 516, 517, 518, 519, 520, 521, 522, 523, 524, 525, 526] (by decide +kernel) (by decide +kernel)
set_option maxRecDepth 20000 in
theorem gL_law_X3_term : GoodIn wsL_law (wsV RL 95 RX3 yX3_term wsX3_term) := goodIn_app (goodIn_of _ (by decide +kernel)) ggL_law_X3_term
set_option maxRecDepth 20000 in
theorem ggL_law_X2_part : GoodIn wsL_law wsX2_part := goodIn_r _ [402, 20, 349, 403, 78, 79, 2, 80, 404, 19, 405, 406, 47, 46, 407, 408, 409, 410, 411, 412, 413, 414, 415, 416, 48, 353, 354, 355, 356, 357, 269, 358, 359, 360, 361, 362, 363, 364, 504, 505, 506, 507, 508, 509, 510, 511, 512, 513, 529, 530, 531] (by decide +kernel) (by decide +kernel)
set_option maxRecDepth 20000 in
theorem gL_law_X2_part : GoodIn wsL_law (wsV RL 96 RX2 yX2_part wsX2_part) := goodIn_app (goodIn_of _ (by decide +kernel)) ggL_law_X2_part
set_option maxRecDepth 20000 in
theorem ggL_law_X3_part : GoodIn wsL_law wsX3_part := goodIn_r _ [420, 369, 421, 422, 423, 424, 425, 426, 5, 427, 389, 428, 134, 135, 136, 429, 430, 431, 432, 56, 59, 433, 434, 435, 373, 374, 375, 514, 515, 516, 517, 518, 519, 520, 521, 522, 523, 524, 525, 526] (by decide +kernel) (by decide +kernel)
set_option maxRecDepth 20000 in
theorem gL_law_X3_part : GoodIn wsL_law (wsV RL 99 RX3 yX3_part wsX3_part) := goodIn_app (goodIn_of _ (by decide +kernel)) ggL_law_X3_part
set_option maxRecDepth 20000 in
theorem ggL_law_X2_least : GoodIn wsL_law wsX2_least := goodIn_r _ [439, 20, 440, 19, 441, 442, 443, 414, 415, 416, 48, 410, 411, 412, 413, 47, 407, 408, 409, 444, 404, 405, 406, 46, 504, 505, 506, 507, 508, 509, 510, 511, 512, 513, 529, 530, 531] (by decide +kernel) (by decide +kernel)
set_option maxRecDepth 20000 in
theorem gL_law_X2_least : GoodIn wsL_law (wsV RL 100 RX2 yX2_least wsX2_least) := goodIn_app (goodIn_of _ (by decide +kernel)) ggL_law_X2_least
set_option maxRecDepth 20000 in
theorem ggL_law_X3_least : GoodIn wsL_law wsX3_least := goodIn_r _ [448, 389, 449, 450, 451, 5, 452, 422, 423, 429, 430, 431, 432, 56, 59, 433, 434, 435, 373, 374, 375, 514, 515, 516, 517, 518, 519, 520, 521, 522, 523, 524, 525, 526] (by decide +kernel) (by decide +kernel)
set_option maxRecDepth 20000 in
theorem gL_law_X3_least : GoodIn wsL_law (wsV RL 103 RX3 yX3_least wsX3_least) := goodIn_app (goodIn_of _ (by decide +kernel)) ggL_law_X3_least
set_option maxRecDepth 20000 in
theorem ggL_law_X2_at : GoodIn wsL_law wsX2_at := goodIn_r _ [456, 457, 20, 16, 84, 85, 86, 2, 87, 78, 79, 80, 458, 19, 459, 460, 47, 46, 48, 461, 363, 269, 364, 462, 351, 352, 463, 464, 465, 466, 504, 505, 506, 507, 508, 509, 510, 511, 512, 513, 527, 528, 529, 530, 531] (by decide +kernel) (by decide +kernel)
set_option maxRecDepth 20000 in
theorem gL_law_X2_at : GoodIn wsL_law (wsV RL 104 RX2 yX2_at wsX2_at) := goodIn_app (goodIn_of _ (by decide +kernel)) ggL_law_X2_at
set_option maxRecDepth 20000 in
theorem ggL_law_X3_at : GoodIn wsL_law wsX3_at := goodIn_r _ [470, 57, 471, 389, 56, 59, 388, 134, 135, 5, 136, 370, 371, 372, 514, 515, 516, 517, 518, 519, 520, 521, 522, 523, 524, 525, 526] (by decide +kernel) (by decide +kernel)
set_option maxRecDepth 20000 in
theorem gL_law_X3_at : GoodIn wsL_law (wsV RL 107 RX3 yX3_at wsX3_at) := goodIn_app (goodIn_of _ (by decide +kernel)) ggL_law_X3_at
set_option maxRecDepth 20000 in
theorem ggL_law_X2_make : GoodIn wsL_law wsX2_make := goodIn_r _ [475, 20, 25, 16, 75, 76, 2, 77, 78, 79, 80, 81, 82, 83, 84, 85, 86, 87, 440, 19, 441, 442, 443, 414, 415, 416, 48, 410, 411, 412, 413, 47, 407, 408, 409, 444, 404, 405, 406, 46, 88, 15, 89, 90, 91, 92, 93, 94, 95, 96, 97, 98, 99, 100, 101, 34, 102, 103, 104, 105, 33, 106, 107, 108, 109, 110, 111, 112, 113, 476, 477, 478, 479, 225, 226, 227, 166, 167, 168, 114, 115, 116, 117, 22, 118, 119, 120, 121, 122, 123, 124, 125, 504, 505, 506, 507, 508, 509, 510, 511, 512, 513, 529, 530, 531, 527, 528] (by decide +kernel) (by decide +kernel)
set_option maxRecDepth 20000 in
theorem gL_law_X2_make : GoodIn wsL_law (wsV RL 108 RX2 yX2_make wsX2_make) := goodIn_app (goodIn_of _ (by decide +kernel)) ggL_law_X2_make
set_option maxRecDepth 20000 in
theorem ggL_law_X3_make : GoodIn wsL_law wsX3_make := goodIn_r _ [483, 57, 422, 423, 53, 130, 131, 5, 132, 133, 134, 135, 136, 137, 138, 139, 140, 141, 424, 425, 426, 427, 389, 428, 449, 450, 451, 452, 429, 430, 431, 432, 56, 59, 433, 434, 435, 373, 374, 375, 142, 143, 144, 145, 146, 147, 148, 149, 154, 155, 156, 157, 150, 151, 152, 153, 514, 515, 516, 517, 518, 519, 520, 521, 522, 523, 524, 525, 526] (by decide +kernel) (by decide +kernel)
set_option maxRecDepth 20000 in
theorem gL_law_X3_make : GoodIn wsL_law (wsV RL 111 RX3 yX3_make wsX3_make) := goodIn_app (goodIn_of _ (by decide +kernel)) ggL_law_X3_make
set_option maxRecDepth 20000 in
theorem ggL_law_X2_count : GoodIn wsL_law wsX2_count := goodIn_r _ [487, 16, 20, 27, 504, 505, 506, 507, 508, 509, 510, 511, 512, 513, 527, 528, 529, 530, 531] (by decide +kernel) (by decide +kernel)
set_option maxRecDepth 20000 in
theorem gL_law_X2_count : GoodIn wsL_law (wsV RL 112 RX2 yX2_count wsX2_count) := goodIn_app (goodIn_of _ (by decide +kernel)) ggL_law_X2_count
set_option maxRecDepth 20000 in
theorem ggL_law_X3_count : GoodIn wsL_law wsX3_count := goodIn_r _ [491, 57, 389, 59, 299, 514, 515, 516, 517, 518, 519, 520, 521, 522, 523, 524, 525, 526] (by decide +kernel) (by decide +kernel)
set_option maxRecDepth 20000 in
theorem gL_law_X3_count : GoodIn wsL_law (wsV RL 115 RX3 yX3_count wsX3_count) := goodIn_app (goodIn_of _ (by decide +kernel)) ggL_law_X3_count
set_option maxRecDepth 20000 in
theorem ggL_law_X2_digest : GoodIn wsL_law wsX2_digest := goodIn_r _ [495, 496, 16, 497, 22, 26, 20, 27, 119, 120, 121, 122, 123, 124, 125, 504, 505, 506, 507, 508, 509, 510, 511, 512, 513, 527, 528, 529, 530, 531] (by decide +kernel) (by decide +kernel)
set_option maxRecDepth 20000 in
theorem gL_law_X2_digest : GoodIn wsL_law (wsV RL 116 RX2 yX2_digest wsX2_digest) := goodIn_app (goodIn_of _ (by decide +kernel)) ggL_law_X2_digest
set_option maxRecDepth 20000 in
theorem ggL_law_X3_digest : GoodIn wsL_law wsX3_digest := goodIn_r _ [501, 502, 57, 503, 53, 58, 389, 59, 56, 299, 150, 151, 152, 5, 153, 154, 155, 156, 157, 514, 515, 516, 517, 518, 519, 520, 521, 522, 523, 524, 525, 526] (by decide +kernel) (by decide +kernel)
set_option maxRecDepth 20000 in
theorem gL_law_X3_digest : GoodIn wsL_law (wsV RL 120 RX3 yX3_digest wsX3_digest) := goodIn_app (goodIn_of _ (by decide +kernel)) ggL_law_X3_digest
theorem dL_law_0 : decode cL_law 0 = .ok (.new 7, 3) := by decide +kernel
theorem dL_law_3 : decode cL_law 3 = .ok (.dup, 1) := by decide +kernel
theorem dL_law_4 : decode cL_law 4 = .ok (.invokespecial 9, 3) := by decide +kernel
theorem dL_law_7 : decode cL_law 7 = .ok (.astore_n 1, 1) := by decide +kernel
theorem dL_law_8 : decode cL_law 8 = .ok (.new 10, 3) := by decide +kernel
theorem dL_law_11 : decode cL_law 11 = .ok (.dup, 1) := by decide +kernel
theorem dL_law_12 : decode cL_law 12 = .ok (.invokespecial 12, 3) := by decide +kernel
theorem dL_law_15 : decode cL_law 15 = .ok (.astore_n 2, 1) := by decide +kernel
theorem dL_law_16 : decode cL_law 16 = .ok (.iconst 0, 1) := by decide +kernel
theorem dL_law_17 : decode cL_law 17 = .ok (.istore_n 3, 1) := by decide +kernel
theorem dL_law_18 : decode cL_law 18 = .ok (.iload_n 3, 1) := by decide +kernel
theorem dL_law_19 : decode cL_law 19 = .ok (.aload_n 0, 1) := by decide +kernel
theorem dL_law_20 : decode cL_law 20 = .ok (.arraylength, 1) := by decide +kernel
theorem dL_law_21 : decode cL_law 21 = .ok (.bipush 6, 2) := by decide +kernel
theorem dL_law_23 : decode cL_law 23 = .ok (.isub, 1) := by decide +kernel
theorem dL_law_24 : decode cL_law 24 = .ok (.if_icmp .gt 1007, 3) := by decide +kernel
theorem dL_law_27 : decode cL_law 27 = .ok (.aload_n 0, 1) := by decide +kernel
theorem dL_law_28 : decode cL_law 28 = .ok (.iload_n 3, 1) := by decide +kernel
theorem dL_law_29 : decode cL_law 29 = .ok (.iaload, 1) := by decide +kernel
theorem dL_law_30 : decode cL_law 30 = .ok (.bipush 31, 2) := by decide +kernel
theorem dL_law_32 : decode cL_law 32 = .ok (.iand, 1) := by decide +kernel
theorem dL_law_33 : decode cL_law 33 = .ok (.tableswitch 992 0 23 #[111, 134, 177, 236, 269, 292, 355, 388, 431, 504, 547, 580, 633, 656, 699, 712, 756, 789, 822, 866, 879, 902, 955, 978], 111) := by decide +kernel
theorem dL_law_144 : decode cL_law 144 = .ok (.aload_n 1, 1) := by decide +kernel
theorem dL_law_145 : decode cL_law 145 = .ok (.aload_n 0, 1) := by decide +kernel
theorem dL_law_146 : decode cL_law 146 = .ok (.iload_n 3, 1) := by decide +kernel
theorem dL_law_147 : decode cL_law 147 = .ok (.iconst 1, 1) := by decide +kernel
theorem dL_law_148 : decode cL_law 148 = .ok (.iadd, 1) := by decide +kernel
theorem dL_law_149 : decode cL_law 149 = .ok (.iaload, 1) := by decide +kernel
theorem dL_law_150 : decode cL_law 150 = .ok (.invokevirtual 13, 3) := by decide +kernel
theorem dL_law_153 : decode cL_law 153 = .ok (.aload_n 2, 1) := by decide +kernel
theorem dL_law_154 : decode cL_law 154 = .ok (.aload_n 0, 1) := by decide +kernel
theorem dL_law_155 : decode cL_law 155 = .ok (.iload_n 3, 1) := by decide +kernel
theorem dL_law_156 : decode cL_law 156 = .ok (.iconst 1, 1) := by decide +kernel
theorem dL_law_157 : decode cL_law 157 = .ok (.iadd, 1) := by decide +kernel
theorem dL_law_158 : decode cL_law 158 = .ok (.iaload, 1) := by decide +kernel
theorem dL_law_159 : decode cL_law 159 = .ok (.invokevirtual 17, 3) := by decide +kernel
theorem dL_law_162 : decode cL_law 162 = .ok (.if_icmp .eq 863, 3) := by decide +kernel
theorem dL_law_165 : decode cL_law 165 = .ok (.iconst 0, 1) := by decide +kernel
theorem dL_law_166 : decode cL_law 166 = .ok (.ireturn, 1) := by decide +kernel
theorem dL_law_167 : decode cL_law 167 = .ok (.aload_n 1, 1) := by decide +kernel
theorem dL_law_168 : decode cL_law 168 = .ok (.aload_n 0, 1) := by decide +kernel
theorem dL_law_169 : decode cL_law 169 = .ok (.iload_n 3, 1) := by decide +kernel
theorem dL_law_170 : decode cL_law 170 = .ok (.iconst 1, 1) := by decide +kernel
theorem dL_law_171 : decode cL_law 171 = .ok (.iadd, 1) := by decide +kernel
theorem dL_law_172 : decode cL_law 172 = .ok (.iaload, 1) := by decide +kernel
theorem dL_law_173 : decode cL_law 173 = .ok (.aload_n 0, 1) := by decide +kernel
theorem dL_law_174 : decode cL_law 174 = .ok (.iload_n 3, 1) := by decide +kernel
theorem dL_law_175 : decode cL_law 175 = .ok (.iconst 2, 1) := by decide +kernel
theorem dL_law_176 : decode cL_law 176 = .ok (.iadd, 1) := by decide +kernel
theorem dL_law_177 : decode cL_law 177 = .ok (.iaload, 1) := by decide +kernel
theorem dL_law_178 : decode cL_law 178 = .ok (.aload_n 0, 1) := by decide +kernel
theorem dL_law_179 : decode cL_law 179 = .ok (.iload_n 3, 1) := by decide +kernel
theorem dL_law_180 : decode cL_law 180 = .ok (.iconst 3, 1) := by decide +kernel
theorem dL_law_181 : decode cL_law 181 = .ok (.iadd, 1) := by decide +kernel
theorem dL_law_182 : decode cL_law 182 = .ok (.iaload, 1) := by decide +kernel
theorem dL_law_183 : decode cL_law 183 = .ok (.invokevirtual 18, 3) := by decide +kernel
theorem dL_law_186 : decode cL_law 186 = .ok (.aload_n 2, 1) := by decide +kernel
theorem dL_law_187 : decode cL_law 187 = .ok (.aload_n 0, 1) := by decide +kernel
theorem dL_law_188 : decode cL_law 188 = .ok (.iload_n 3, 1) := by decide +kernel
theorem dL_law_189 : decode cL_law 189 = .ok (.iconst 1, 1) := by decide +kernel
theorem dL_law_190 : decode cL_law 190 = .ok (.iadd, 1) := by decide +kernel
theorem dL_law_191 : decode cL_law 191 = .ok (.iaload, 1) := by decide +kernel
theorem dL_law_192 : decode cL_law 192 = .ok (.aload_n 0, 1) := by decide +kernel
theorem dL_law_193 : decode cL_law 193 = .ok (.iload_n 3, 1) := by decide +kernel
theorem dL_law_194 : decode cL_law 194 = .ok (.iconst 2, 1) := by decide +kernel
theorem dL_law_195 : decode cL_law 195 = .ok (.iadd, 1) := by decide +kernel
theorem dL_law_196 : decode cL_law 196 = .ok (.iaload, 1) := by decide +kernel
theorem dL_law_197 : decode cL_law 197 = .ok (.aload_n 0, 1) := by decide +kernel
theorem dL_law_198 : decode cL_law 198 = .ok (.iload_n 3, 1) := by decide +kernel
theorem dL_law_199 : decode cL_law 199 = .ok (.iconst 3, 1) := by decide +kernel
theorem dL_law_200 : decode cL_law 200 = .ok (.iadd, 1) := by decide +kernel
theorem dL_law_201 : decode cL_law 201 = .ok (.iaload, 1) := by decide +kernel
theorem dL_law_202 : decode cL_law 202 = .ok (.invokevirtual 22, 3) := by decide +kernel
theorem dL_law_205 : decode cL_law 205 = .ok (.if_icmp .eq 820, 3) := by decide +kernel
theorem dL_law_208 : decode cL_law 208 = .ok (.iconst 0, 1) := by decide +kernel
theorem dL_law_209 : decode cL_law 209 = .ok (.ireturn, 1) := by decide +kernel
theorem dL_law_210 : decode cL_law 210 = .ok (.aload_n 1, 1) := by decide +kernel
theorem dL_law_211 : decode cL_law 211 = .ok (.aload_n 0, 1) := by decide +kernel
theorem dL_law_212 : decode cL_law 212 = .ok (.iload_n 3, 1) := by decide +kernel
theorem dL_law_213 : decode cL_law 213 = .ok (.iconst 1, 1) := by decide +kernel
theorem dL_law_214 : decode cL_law 214 = .ok (.iadd, 1) := by decide +kernel
theorem dL_law_215 : decode cL_law 215 = .ok (.iaload, 1) := by decide +kernel
theorem dL_law_216 : decode cL_law 216 = .ok (.aload_n 0, 1) := by decide +kernel
theorem dL_law_217 : decode cL_law 217 = .ok (.iload_n 3, 1) := by decide +kernel
theorem dL_law_218 : decode cL_law 218 = .ok (.iconst 2, 1) := by decide +kernel
theorem dL_law_219 : decode cL_law 219 = .ok (.iadd, 1) := by decide +kernel
theorem dL_law_220 : decode cL_law 220 = .ok (.iaload, 1) := by decide +kernel
theorem dL_law_221 : decode cL_law 221 = .ok (.aload_n 0, 1) := by decide +kernel
theorem dL_law_222 : decode cL_law 222 = .ok (.iload_n 3, 1) := by decide +kernel
theorem dL_law_223 : decode cL_law 223 = .ok (.iconst 3, 1) := by decide +kernel
theorem dL_law_224 : decode cL_law 224 = .ok (.iadd, 1) := by decide +kernel
theorem dL_law_225 : decode cL_law 225 = .ok (.iaload, 1) := by decide +kernel
theorem dL_law_226 : decode cL_law 226 = .ok (.ifCond .eq 7, 3) := by decide +kernel
theorem dL_law_229 : decode cL_law 229 = .ok (.iconst 1, 1) := by decide +kernel
theorem dL_law_230 : decode cL_law 230 = .ok (.goto 4, 3) := by decide +kernel
theorem dL_law_233 : decode cL_law 233 = .ok (.iconst 0, 1) := by decide +kernel
theorem dL_law_234 : decode cL_law 234 = .ok (.invokevirtual 23, 3) := by decide +kernel
theorem dL_law_237 : decode cL_law 237 = .ok (.aload_n 2, 1) := by decide +kernel
theorem dL_law_238 : decode cL_law 238 = .ok (.aload_n 0, 1) := by decide +kernel
theorem dL_law_239 : decode cL_law 239 = .ok (.iload_n 3, 1) := by decide +kernel
theorem dL_law_240 : decode cL_law 240 = .ok (.iconst 1, 1) := by decide +kernel
theorem dL_law_241 : decode cL_law 241 = .ok (.iadd, 1) := by decide +kernel
theorem dL_law_242 : decode cL_law 242 = .ok (.iaload, 1) := by decide +kernel
theorem dL_law_243 : decode cL_law 243 = .ok (.aload_n 0, 1) := by decide +kernel
theorem dL_law_244 : decode cL_law 244 = .ok (.iload_n 3, 1) := by decide +kernel
theorem dL_law_245 : decode cL_law 245 = .ok (.iconst 2, 1) := by decide +kernel
theorem dL_law_246 : decode cL_law 246 = .ok (.iadd, 1) := by decide +kernel
theorem dL_law_247 : decode cL_law 247 = .ok (.iaload, 1) := by decide +kernel
theorem dL_law_248 : decode cL_law 248 = .ok (.aload_n 0, 1) := by decide +kernel
theorem dL_law_249 : decode cL_law 249 = .ok (.iload_n 3, 1) := by decide +kernel
theorem dL_law_250 : decode cL_law 250 = .ok (.iconst 3, 1) := by decide +kernel
theorem dL_law_251 : decode cL_law 251 = .ok (.iadd, 1) := by decide +kernel
theorem dL_law_252 : decode cL_law 252 = .ok (.iaload, 1) := by decide +kernel
theorem dL_law_253 : decode cL_law 253 = .ok (.ifCond .eq 7, 3) := by decide +kernel
theorem dL_law_256 : decode cL_law 256 = .ok (.iconst 1, 1) := by decide +kernel
theorem dL_law_257 : decode cL_law 257 = .ok (.goto 4, 3) := by decide +kernel
theorem dL_law_260 : decode cL_law 260 = .ok (.iconst 0, 1) := by decide +kernel
theorem dL_law_261 : decode cL_law 261 = .ok (.invokevirtual 27, 3) := by decide +kernel
theorem dL_law_264 : decode cL_law 264 = .ok (.if_icmp .eq 761, 3) := by decide +kernel
theorem dL_law_267 : decode cL_law 267 = .ok (.iconst 0, 1) := by decide +kernel
theorem dL_law_268 : decode cL_law 268 = .ok (.ireturn, 1) := by decide +kernel
theorem dL_law_269 : decode cL_law 269 = .ok (.aload_n 1, 1) := by decide +kernel
theorem dL_law_270 : decode cL_law 270 = .ok (.aload_n 0, 1) := by decide +kernel
theorem dL_law_271 : decode cL_law 271 = .ok (.iload_n 3, 1) := by decide +kernel
theorem dL_law_272 : decode cL_law 272 = .ok (.iconst 1, 1) := by decide +kernel
theorem dL_law_273 : decode cL_law 273 = .ok (.iadd, 1) := by decide +kernel
theorem dL_law_274 : decode cL_law 274 = .ok (.iaload, 1) := by decide +kernel
theorem dL_law_275 : decode cL_law 275 = .ok (.aload_n 0, 1) := by decide +kernel
theorem dL_law_276 : decode cL_law 276 = .ok (.iload_n 3, 1) := by decide +kernel
theorem dL_law_277 : decode cL_law 277 = .ok (.iconst 2, 1) := by decide +kernel
theorem dL_law_278 : decode cL_law 278 = .ok (.iadd, 1) := by decide +kernel
theorem dL_law_279 : decode cL_law 279 = .ok (.iaload, 1) := by decide +kernel
theorem dL_law_280 : decode cL_law 280 = .ok (.invokevirtual 28, 3) := by decide +kernel
theorem dL_law_283 : decode cL_law 283 = .ok (.aload_n 2, 1) := by decide +kernel
theorem dL_law_284 : decode cL_law 284 = .ok (.aload_n 0, 1) := by decide +kernel
theorem dL_law_285 : decode cL_law 285 = .ok (.iload_n 3, 1) := by decide +kernel
theorem dL_law_286 : decode cL_law 286 = .ok (.iconst 1, 1) := by decide +kernel
theorem dL_law_287 : decode cL_law 287 = .ok (.iadd, 1) := by decide +kernel
theorem dL_law_288 : decode cL_law 288 = .ok (.iaload, 1) := by decide +kernel
theorem dL_law_289 : decode cL_law 289 = .ok (.aload_n 0, 1) := by decide +kernel
theorem dL_law_290 : decode cL_law 290 = .ok (.iload_n 3, 1) := by decide +kernel
theorem dL_law_291 : decode cL_law 291 = .ok (.iconst 2, 1) := by decide +kernel
theorem dL_law_292 : decode cL_law 292 = .ok (.iadd, 1) := by decide +kernel
theorem dL_law_293 : decode cL_law 293 = .ok (.iaload, 1) := by decide +kernel
theorem dL_law_294 : decode cL_law 294 = .ok (.invokevirtual 32, 3) := by decide +kernel
theorem dL_law_297 : decode cL_law 297 = .ok (.if_icmp .eq 728, 3) := by decide +kernel
theorem dL_law_300 : decode cL_law 300 = .ok (.iconst 0, 1) := by decide +kernel
theorem dL_law_301 : decode cL_law 301 = .ok (.ireturn, 1) := by decide +kernel
theorem dL_law_302 : decode cL_law 302 = .ok (.aload_n 1, 1) := by decide +kernel
theorem dL_law_303 : decode cL_law 303 = .ok (.aload_n 0, 1) := by decide +kernel
theorem dL_law_304 : decode cL_law 304 = .ok (.iload_n 3, 1) := by decide +kernel
theorem dL_law_305 : decode cL_law 305 = .ok (.iconst 1, 1) := by decide +kernel
theorem dL_law_306 : decode cL_law 306 = .ok (.iadd, 1) := by decide +kernel
theorem dL_law_307 : decode cL_law 307 = .ok (.iaload, 1) := by decide +kernel
theorem dL_law_308 : decode cL_law 308 = .ok (.invokevirtual 33, 3) := by decide +kernel
theorem dL_law_311 : decode cL_law 311 = .ok (.aload_n 2, 1) := by decide +kernel
theorem dL_law_312 : decode cL_law 312 = .ok (.aload_n 0, 1) := by decide +kernel
theorem dL_law_313 : decode cL_law 313 = .ok (.iload_n 3, 1) := by decide +kernel
theorem dL_law_314 : decode cL_law 314 = .ok (.iconst 1, 1) := by decide +kernel
theorem dL_law_315 : decode cL_law 315 = .ok (.iadd, 1) := by decide +kernel
theorem dL_law_316 : decode cL_law 316 = .ok (.iaload, 1) := by decide +kernel
theorem dL_law_317 : decode cL_law 317 = .ok (.invokevirtual 36, 3) := by decide +kernel
theorem dL_law_320 : decode cL_law 320 = .ok (.if_icmp .eq 705, 3) := by decide +kernel
theorem dL_law_323 : decode cL_law 323 = .ok (.iconst 0, 1) := by decide +kernel
theorem dL_law_324 : decode cL_law 324 = .ok (.ireturn, 1) := by decide +kernel
theorem dL_law_325 : decode cL_law 325 = .ok (.aload_n 1, 1) := by decide +kernel
theorem dL_law_326 : decode cL_law 326 = .ok (.aload_n 0, 1) := by decide +kernel
theorem dL_law_327 : decode cL_law 327 = .ok (.iload_n 3, 1) := by decide +kernel
theorem dL_law_328 : decode cL_law 328 = .ok (.iconst 1, 1) := by decide +kernel
theorem dL_law_329 : decode cL_law 329 = .ok (.iadd, 1) := by decide +kernel
theorem dL_law_330 : decode cL_law 330 = .ok (.iaload, 1) := by decide +kernel
theorem dL_law_331 : decode cL_law 331 = .ok (.aload_n 0, 1) := by decide +kernel
theorem dL_law_332 : decode cL_law 332 = .ok (.iload_n 3, 1) := by decide +kernel
theorem dL_law_333 : decode cL_law 333 = .ok (.iconst 2, 1) := by decide +kernel
theorem dL_law_334 : decode cL_law 334 = .ok (.iadd, 1) := by decide +kernel
theorem dL_law_335 : decode cL_law 335 = .ok (.iaload, 1) := by decide +kernel
theorem dL_law_336 : decode cL_law 336 = .ok (.aload_n 0, 1) := by decide +kernel
theorem dL_law_337 : decode cL_law 337 = .ok (.iload_n 3, 1) := by decide +kernel
theorem dL_law_338 : decode cL_law 338 = .ok (.iconst 3, 1) := by decide +kernel
theorem dL_law_339 : decode cL_law 339 = .ok (.iadd, 1) := by decide +kernel
theorem dL_law_340 : decode cL_law 340 = .ok (.iaload, 1) := by decide +kernel
theorem dL_law_341 : decode cL_law 341 = .ok (.aload_n 0, 1) := by decide +kernel
theorem dL_law_342 : decode cL_law 342 = .ok (.iload_n 3, 1) := by decide +kernel
theorem dL_law_343 : decode cL_law 343 = .ok (.iconst 4, 1) := by decide +kernel
theorem dL_law_344 : decode cL_law 344 = .ok (.iadd, 1) := by decide +kernel
theorem dL_law_345 : decode cL_law 345 = .ok (.iaload, 1) := by decide +kernel
theorem dL_law_346 : decode cL_law 346 = .ok (.aload_n 0, 1) := by decide +kernel
theorem dL_law_347 : decode cL_law 347 = .ok (.iload_n 3, 1) := by decide +kernel
theorem dL_law_348 : decode cL_law 348 = .ok (.iconst 5, 1) := by decide +kernel
theorem dL_law_349 : decode cL_law 349 = .ok (.iadd, 1) := by decide +kernel
theorem dL_law_350 : decode cL_law 350 = .ok (.iaload, 1) := by decide +kernel
theorem dL_law_351 : decode cL_law 351 = .ok (.invokevirtual 37, 3) := by decide +kernel
theorem dL_law_354 : decode cL_law 354 = .ok (.aload_n 2, 1) := by decide +kernel
theorem dL_law_355 : decode cL_law 355 = .ok (.aload_n 0, 1) := by decide +kernel
theorem dL_law_356 : decode cL_law 356 = .ok (.iload_n 3, 1) := by decide +kernel
theorem dL_law_357 : decode cL_law 357 = .ok (.iconst 1, 1) := by decide +kernel
theorem dL_law_358 : decode cL_law 358 = .ok (.iadd, 1) := by decide +kernel
theorem dL_law_359 : decode cL_law 359 = .ok (.iaload, 1) := by decide +kernel
theorem dL_law_360 : decode cL_law 360 = .ok (.aload_n 0, 1) := by decide +kernel
theorem dL_law_361 : decode cL_law 361 = .ok (.iload_n 3, 1) := by decide +kernel
theorem dL_law_362 : decode cL_law 362 = .ok (.iconst 2, 1) := by decide +kernel
theorem dL_law_363 : decode cL_law 363 = .ok (.iadd, 1) := by decide +kernel
theorem dL_law_364 : decode cL_law 364 = .ok (.iaload, 1) := by decide +kernel
theorem dL_law_365 : decode cL_law 365 = .ok (.aload_n 0, 1) := by decide +kernel
theorem dL_law_366 : decode cL_law 366 = .ok (.iload_n 3, 1) := by decide +kernel
theorem dL_law_367 : decode cL_law 367 = .ok (.iconst 3, 1) := by decide +kernel
theorem dL_law_368 : decode cL_law 368 = .ok (.iadd, 1) := by decide +kernel
theorem dL_law_369 : decode cL_law 369 = .ok (.iaload, 1) := by decide +kernel
theorem dL_law_370 : decode cL_law 370 = .ok (.aload_n 0, 1) := by decide +kernel
theorem dL_law_371 : decode cL_law 371 = .ok (.iload_n 3, 1) := by decide +kernel
theorem dL_law_372 : decode cL_law 372 = .ok (.iconst 4, 1) := by decide +kernel
theorem dL_law_373 : decode cL_law 373 = .ok (.iadd, 1) := by decide +kernel
theorem dL_law_374 : decode cL_law 374 = .ok (.iaload, 1) := by decide +kernel
theorem dL_law_375 : decode cL_law 375 = .ok (.aload_n 0, 1) := by decide +kernel
theorem dL_law_376 : decode cL_law 376 = .ok (.iload_n 3, 1) := by decide +kernel
theorem dL_law_377 : decode cL_law 377 = .ok (.iconst 5, 1) := by decide +kernel
theorem dL_law_378 : decode cL_law 378 = .ok (.iadd, 1) := by decide +kernel
theorem dL_law_379 : decode cL_law 379 = .ok (.iaload, 1) := by decide +kernel
theorem dL_law_380 : decode cL_law 380 = .ok (.invokevirtual 41, 3) := by decide +kernel
theorem dL_law_383 : decode cL_law 383 = .ok (.if_icmp .eq 642, 3) := by decide +kernel
theorem dL_law_386 : decode cL_law 386 = .ok (.iconst 0, 1) := by decide +kernel
theorem dL_law_387 : decode cL_law 387 = .ok (.ireturn, 1) := by decide +kernel
theorem dL_law_388 : decode cL_law 388 = .ok (.aload_n 1, 1) := by decide +kernel
theorem dL_law_389 : decode cL_law 389 = .ok (.aload_n 0, 1) := by decide +kernel
theorem dL_law_390 : decode cL_law 390 = .ok (.iload_n 3, 1) := by decide +kernel
theorem dL_law_391 : decode cL_law 391 = .ok (.iconst 1, 1) := by decide +kernel
theorem dL_law_392 : decode cL_law 392 = .ok (.iadd, 1) := by decide +kernel
theorem dL_law_393 : decode cL_law 393 = .ok (.iaload, 1) := by decide +kernel
theorem dL_law_394 : decode cL_law 394 = .ok (.aload_n 0, 1) := by decide +kernel
theorem dL_law_395 : decode cL_law 395 = .ok (.iload_n 3, 1) := by decide +kernel
theorem dL_law_396 : decode cL_law 396 = .ok (.iconst 2, 1) := by decide +kernel
theorem dL_law_397 : decode cL_law 397 = .ok (.iadd, 1) := by decide +kernel
theorem dL_law_398 : decode cL_law 398 = .ok (.iaload, 1) := by decide +kernel
theorem dL_law_399 : decode cL_law 399 = .ok (.invokevirtual 42, 3) := by decide +kernel
theorem dL_law_402 : decode cL_law 402 = .ok (.aload_n 2, 1) := by decide +kernel
theorem dL_law_403 : decode cL_law 403 = .ok (.aload_n 0, 1) := by decide +kernel
theorem dL_law_404 : decode cL_law 404 = .ok (.iload_n 3, 1) := by decide +kernel
theorem dL_law_405 : decode cL_law 405 = .ok (.iconst 1, 1) := by decide +kernel
theorem dL_law_406 : decode cL_law 406 = .ok (.iadd, 1) := by decide +kernel
theorem dL_law_407 : decode cL_law 407 = .ok (.iaload, 1) := by decide +kernel
theorem dL_law_408 : decode cL_law 408 = .ok (.aload_n 0, 1) := by decide +kernel
theorem dL_law_409 : decode cL_law 409 = .ok (.iload_n 3, 1) := by decide +kernel
theorem dL_law_410 : decode cL_law 410 = .ok (.iconst 2, 1) := by decide +kernel
theorem dL_law_411 : decode cL_law 411 = .ok (.iadd, 1) := by decide +kernel
theorem dL_law_412 : decode cL_law 412 = .ok (.iaload, 1) := by decide +kernel
theorem dL_law_413 : decode cL_law 413 = .ok (.invokevirtual 45, 3) := by decide +kernel
theorem dL_law_416 : decode cL_law 416 = .ok (.if_icmp .eq 609, 3) := by decide +kernel
theorem dL_law_419 : decode cL_law 419 = .ok (.iconst 0, 1) := by decide +kernel
theorem dL_law_420 : decode cL_law 420 = .ok (.ireturn, 1) := by decide +kernel
theorem dL_law_421 : decode cL_law 421 = .ok (.aload_n 1, 1) := by decide +kernel
theorem dL_law_422 : decode cL_law 422 = .ok (.aload_n 0, 1) := by decide +kernel
theorem dL_law_423 : decode cL_law 423 = .ok (.iload_n 3, 1) := by decide +kernel
theorem dL_law_424 : decode cL_law 424 = .ok (.iconst 1, 1) := by decide +kernel
theorem dL_law_425 : decode cL_law 425 = .ok (.iadd, 1) := by decide +kernel
theorem dL_law_426 : decode cL_law 426 = .ok (.iaload, 1) := by decide +kernel
theorem dL_law_427 : decode cL_law 427 = .ok (.aload_n 0, 1) := by decide +kernel
theorem dL_law_428 : decode cL_law 428 = .ok (.iload_n 3, 1) := by decide +kernel
theorem dL_law_429 : decode cL_law 429 = .ok (.iconst 2, 1) := by decide +kernel
theorem dL_law_430 : decode cL_law 430 = .ok (.iadd, 1) := by decide +kernel
theorem dL_law_431 : decode cL_law 431 = .ok (.iaload, 1) := by decide +kernel
theorem dL_law_432 : decode cL_law 432 = .ok (.aload_n 0, 1) := by decide +kernel
theorem dL_law_433 : decode cL_law 433 = .ok (.iload_n 3, 1) := by decide +kernel
theorem dL_law_434 : decode cL_law 434 = .ok (.iconst 3, 1) := by decide +kernel
theorem dL_law_435 : decode cL_law 435 = .ok (.iadd, 1) := by decide +kernel
theorem dL_law_436 : decode cL_law 436 = .ok (.iaload, 1) := by decide +kernel
theorem dL_law_437 : decode cL_law 437 = .ok (.invokevirtual 46, 3) := by decide +kernel
theorem dL_law_440 : decode cL_law 440 = .ok (.aload_n 2, 1) := by decide +kernel
theorem dL_law_441 : decode cL_law 441 = .ok (.aload_n 0, 1) := by decide +kernel
theorem dL_law_442 : decode cL_law 442 = .ok (.iload_n 3, 1) := by decide +kernel
theorem dL_law_443 : decode cL_law 443 = .ok (.iconst 1, 1) := by decide +kernel
theorem dL_law_444 : decode cL_law 444 = .ok (.iadd, 1) := by decide +kernel
theorem dL_law_445 : decode cL_law 445 = .ok (.iaload, 1) := by decide +kernel
theorem dL_law_446 : decode cL_law 446 = .ok (.aload_n 0, 1) := by decide +kernel
theorem dL_law_447 : decode cL_law 447 = .ok (.iload_n 3, 1) := by decide +kernel
theorem dL_law_448 : decode cL_law 448 = .ok (.iconst 2, 1) := by decide +kernel
theorem dL_law_449 : decode cL_law 449 = .ok (.iadd, 1) := by decide +kernel
theorem dL_law_450 : decode cL_law 450 = .ok (.iaload, 1) := by decide +kernel
theorem dL_law_451 : decode cL_law 451 = .ok (.aload_n 0, 1) := by decide +kernel
theorem dL_law_452 : decode cL_law 452 = .ok (.iload_n 3, 1) := by decide +kernel
theorem dL_law_453 : decode cL_law 453 = .ok (.iconst 3, 1) := by decide +kernel
theorem dL_law_454 : decode cL_law 454 = .ok (.iadd, 1) := by decide +kernel
theorem dL_law_455 : decode cL_law 455 = .ok (.iaload, 1) := by decide +kernel
theorem dL_law_456 : decode cL_law 456 = .ok (.invokevirtual 49, 3) := by decide +kernel
theorem dL_law_459 : decode cL_law 459 = .ok (.if_icmp .eq 566, 3) := by decide +kernel
theorem dL_law_462 : decode cL_law 462 = .ok (.iconst 0, 1) := by decide +kernel
theorem dL_law_463 : decode cL_law 463 = .ok (.ireturn, 1) := by decide +kernel
theorem dL_law_464 : decode cL_law 464 = .ok (.aload_n 1, 1) := by decide +kernel
theorem dL_law_465 : decode cL_law 465 = .ok (.aload_n 0, 1) := by decide +kernel
theorem dL_law_466 : decode cL_law 466 = .ok (.iload_n 3, 1) := by decide +kernel
theorem dL_law_467 : decode cL_law 467 = .ok (.iconst 1, 1) := by decide +kernel
theorem dL_law_468 : decode cL_law 468 = .ok (.iadd, 1) := by decide +kernel
theorem dL_law_469 : decode cL_law 469 = .ok (.iaload, 1) := by decide +kernel
theorem dL_law_470 : decode cL_law 470 = .ok (.aload_n 0, 1) := by decide +kernel
theorem dL_law_471 : decode cL_law 471 = .ok (.iload_n 3, 1) := by decide +kernel
theorem dL_law_472 : decode cL_law 472 = .ok (.iconst 2, 1) := by decide +kernel
theorem dL_law_473 : decode cL_law 473 = .ok (.iadd, 1) := by decide +kernel
theorem dL_law_474 : decode cL_law 474 = .ok (.iaload, 1) := by decide +kernel
theorem dL_law_475 : decode cL_law 475 = .ok (.i2l, 1) := by decide +kernel
theorem dL_law_476 : decode cL_law 476 = .ok (.bipush 32, 2) := by decide +kernel
theorem dL_law_478 : decode cL_law 478 = .ok (.lshl, 1) := by decide +kernel
theorem dL_law_479 : decode cL_law 479 = .ok (.aload_n 0, 1) := by decide +kernel
theorem dL_law_480 : decode cL_law 480 = .ok (.iload_n 3, 1) := by decide +kernel
theorem dL_law_481 : decode cL_law 481 = .ok (.iconst 3, 1) := by decide +kernel
theorem dL_law_482 : decode cL_law 482 = .ok (.iadd, 1) := by decide +kernel
theorem dL_law_483 : decode cL_law 483 = .ok (.iaload, 1) := by decide +kernel
theorem dL_law_484 : decode cL_law 484 = .ok (.i2l, 1) := by decide +kernel
theorem dL_law_485 : decode cL_law 485 = .ok (.ldc2_w 50, 3) := by decide +kernel
theorem dL_law_488 : decode cL_law 488 = .ok (.land, 1) := by decide +kernel
theorem dL_law_489 : decode cL_law 489 = .ok (.lor, 1) := by decide +kernel
theorem dL_law_490 : decode cL_law 490 = .ok (.aload_n 0, 1) := by decide +kernel
theorem dL_law_491 : decode cL_law 491 = .ok (.iload_n 3, 1) := by decide +kernel
theorem dL_law_492 : decode cL_law 492 = .ok (.iconst 4, 1) := by decide +kernel
theorem dL_law_493 : decode cL_law 493 = .ok (.iadd, 1) := by decide +kernel
theorem dL_law_494 : decode cL_law 494 = .ok (.iaload, 1) := by decide +kernel
theorem dL_law_495 : decode cL_law 495 = .ok (.invokevirtual 52, 3) := by decide +kernel
theorem dL_law_498 : decode cL_law 498 = .ok (.aload_n 2, 1) := by decide +kernel
theorem dL_law_499 : decode cL_law 499 = .ok (.aload_n 0, 1) := by decide +kernel
theorem dL_law_500 : decode cL_law 500 = .ok (.iload_n 3, 1) := by decide +kernel
theorem dL_law_501 : decode cL_law 501 = .ok (.iconst 1, 1) := by decide +kernel
theorem dL_law_502 : decode cL_law 502 = .ok (.iadd, 1) := by decide +kernel
theorem dL_law_503 : decode cL_law 503 = .ok (.iaload, 1) := by decide +kernel
end
section
theorem dL_law_504 : decode cL_law 504 = .ok (.aload_n 0, 1) := by decide +kernel
theorem dL_law_505 : decode cL_law 505 = .ok (.iload_n 3, 1) := by decide +kernel
theorem dL_law_506 : decode cL_law 506 = .ok (.iconst 2, 1) := by decide +kernel
theorem dL_law_507 : decode cL_law 507 = .ok (.iadd, 1) := by decide +kernel
theorem dL_law_508 : decode cL_law 508 = .ok (.iaload, 1) := by decide +kernel
theorem dL_law_509 : decode cL_law 509 = .ok (.i2l, 1) := by decide +kernel
theorem dL_law_510 : decode cL_law 510 = .ok (.bipush 32, 2) := by decide +kernel
theorem dL_law_512 : decode cL_law 512 = .ok (.lshl, 1) := by decide +kernel
theorem dL_law_513 : decode cL_law 513 = .ok (.aload_n 0, 1) := by decide +kernel
theorem dL_law_514 : decode cL_law 514 = .ok (.iload_n 3, 1) := by decide +kernel
theorem dL_law_515 : decode cL_law 515 = .ok (.iconst 3, 1) := by decide +kernel
theorem dL_law_516 : decode cL_law 516 = .ok (.iadd, 1) := by decide +kernel
theorem dL_law_517 : decode cL_law 517 = .ok (.iaload, 1) := by decide +kernel
theorem dL_law_518 : decode cL_law 518 = .ok (.i2l, 1) := by decide +kernel
theorem dL_law_519 : decode cL_law 519 = .ok (.ldc2_w 50, 3) := by decide +kernel
theorem dL_law_522 : decode cL_law 522 = .ok (.land, 1) := by decide +kernel
theorem dL_law_523 : decode cL_law 523 = .ok (.lor, 1) := by decide +kernel
theorem dL_law_524 : decode cL_law 524 = .ok (.aload_n 0, 1) := by decide +kernel
theorem dL_law_525 : decode cL_law 525 = .ok (.iload_n 3, 1) := by decide +kernel
theorem dL_law_526 : decode cL_law 526 = .ok (.iconst 4, 1) := by decide +kernel
theorem dL_law_527 : decode cL_law 527 = .ok (.iadd, 1) := by decide +kernel
theorem dL_law_528 : decode cL_law 528 = .ok (.iaload, 1) := by decide +kernel
theorem dL_law_529 : decode cL_law 529 = .ok (.invokevirtual 56, 3) := by decide +kernel
theorem dL_law_532 : decode cL_law 532 = .ok (.if_icmp .eq 493, 3) := by decide +kernel
theorem dL_law_535 : decode cL_law 535 = .ok (.iconst 0, 1) := by decide +kernel
theorem dL_law_536 : decode cL_law 536 = .ok (.ireturn, 1) := by decide +kernel
theorem dL_law_537 : decode cL_law 537 = .ok (.aload_n 1, 1) := by decide +kernel
theorem dL_law_538 : decode cL_law 538 = .ok (.aload_n 0, 1) := by decide +kernel
theorem dL_law_539 : decode cL_law 539 = .ok (.iload_n 3, 1) := by decide +kernel
theorem dL_law_540 : decode cL_law 540 = .ok (.iconst 1, 1) := by decide +kernel
theorem dL_law_541 : decode cL_law 541 = .ok (.iadd, 1) := by decide +kernel
theorem dL_law_542 : decode cL_law 542 = .ok (.iaload, 1) := by decide +kernel
theorem dL_law_543 : decode cL_law 543 = .ok (.aload_n 0, 1) := by decide +kernel
theorem dL_law_544 : decode cL_law 544 = .ok (.iload_n 3, 1) := by decide +kernel
theorem dL_law_545 : decode cL_law 545 = .ok (.iconst 2, 1) := by decide +kernel
theorem dL_law_546 : decode cL_law 546 = .ok (.iadd, 1) := by decide +kernel
theorem dL_law_547 : decode cL_law 547 = .ok (.iaload, 1) := by decide +kernel
theorem dL_law_548 : decode cL_law 548 = .ok (.aload_n 0, 1) := by decide +kernel
theorem dL_law_549 : decode cL_law 549 = .ok (.iload_n 3, 1) := by decide +kernel
theorem dL_law_550 : decode cL_law 550 = .ok (.iconst 3, 1) := by decide +kernel
theorem dL_law_551 : decode cL_law 551 = .ok (.iadd, 1) := by decide +kernel
theorem dL_law_552 : decode cL_law 552 = .ok (.iaload, 1) := by decide +kernel
theorem dL_law_553 : decode cL_law 553 = .ok (.invokevirtual 57, 3) := by decide +kernel
theorem dL_law_556 : decode cL_law 556 = .ok (.aload_n 2, 1) := by decide +kernel
theorem dL_law_557 : decode cL_law 557 = .ok (.aload_n 0, 1) := by decide +kernel
theorem dL_law_558 : decode cL_law 558 = .ok (.iload_n 3, 1) := by decide +kernel
theorem dL_law_559 : decode cL_law 559 = .ok (.iconst 1, 1) := by decide +kernel
theorem dL_law_560 : decode cL_law 560 = .ok (.iadd, 1) := by decide +kernel
theorem dL_law_561 : decode cL_law 561 = .ok (.iaload, 1) := by decide +kernel
theorem dL_law_562 : decode cL_law 562 = .ok (.aload_n 0, 1) := by decide +kernel
theorem dL_law_563 : decode cL_law 563 = .ok (.iload_n 3, 1) := by decide +kernel
theorem dL_law_564 : decode cL_law 564 = .ok (.iconst 2, 1) := by decide +kernel
theorem dL_law_565 : decode cL_law 565 = .ok (.iadd, 1) := by decide +kernel
theorem dL_law_566 : decode cL_law 566 = .ok (.iaload, 1) := by decide +kernel
theorem dL_law_567 : decode cL_law 567 = .ok (.aload_n 0, 1) := by decide +kernel
theorem dL_law_568 : decode cL_law 568 = .ok (.iload_n 3, 1) := by decide +kernel
theorem dL_law_569 : decode cL_law 569 = .ok (.iconst 3, 1) := by decide +kernel
theorem dL_law_570 : decode cL_law 570 = .ok (.iadd, 1) := by decide +kernel
theorem dL_law_571 : decode cL_law 571 = .ok (.iaload, 1) := by decide +kernel
theorem dL_law_572 : decode cL_law 572 = .ok (.invokevirtual 60, 3) := by decide +kernel
theorem dL_law_575 : decode cL_law 575 = .ok (.if_icmp .eq 450, 3) := by decide +kernel
theorem dL_law_578 : decode cL_law 578 = .ok (.iconst 0, 1) := by decide +kernel
theorem dL_law_579 : decode cL_law 579 = .ok (.ireturn, 1) := by decide +kernel
theorem dL_law_580 : decode cL_law 580 = .ok (.aload_n 1, 1) := by decide +kernel
theorem dL_law_581 : decode cL_law 581 = .ok (.aload_n 0, 1) := by decide +kernel
theorem dL_law_582 : decode cL_law 582 = .ok (.iload_n 3, 1) := by decide +kernel
theorem dL_law_583 : decode cL_law 583 = .ok (.iconst 1, 1) := by decide +kernel
theorem dL_law_584 : decode cL_law 584 = .ok (.iadd, 1) := by decide +kernel
theorem dL_law_585 : decode cL_law 585 = .ok (.iaload, 1) := by decide +kernel
theorem dL_law_586 : decode cL_law 586 = .ok (.aload_n 0, 1) := by decide +kernel
theorem dL_law_587 : decode cL_law 587 = .ok (.iload_n 3, 1) := by decide +kernel
theorem dL_law_588 : decode cL_law 588 = .ok (.iconst 2, 1) := by decide +kernel
theorem dL_law_589 : decode cL_law 589 = .ok (.iadd, 1) := by decide +kernel
theorem dL_law_590 : decode cL_law 590 = .ok (.iaload, 1) := by decide +kernel
theorem dL_law_591 : decode cL_law 591 = .ok (.invokevirtual 61, 3) := by decide +kernel
theorem dL_law_594 : decode cL_law 594 = .ok (.aload_n 2, 1) := by decide +kernel
theorem dL_law_595 : decode cL_law 595 = .ok (.aload_n 0, 1) := by decide +kernel
theorem dL_law_596 : decode cL_law 596 = .ok (.iload_n 3, 1) := by decide +kernel
theorem dL_law_597 : decode cL_law 597 = .ok (.iconst 1, 1) := by decide +kernel
theorem dL_law_598 : decode cL_law 598 = .ok (.iadd, 1) := by decide +kernel
theorem dL_law_599 : decode cL_law 599 = .ok (.iaload, 1) := by decide +kernel
theorem dL_law_600 : decode cL_law 600 = .ok (.aload_n 0, 1) := by decide +kernel
theorem dL_law_601 : decode cL_law 601 = .ok (.iload_n 3, 1) := by decide +kernel
theorem dL_law_602 : decode cL_law 602 = .ok (.iconst 2, 1) := by decide +kernel
theorem dL_law_603 : decode cL_law 603 = .ok (.iadd, 1) := by decide +kernel
theorem dL_law_604 : decode cL_law 604 = .ok (.iaload, 1) := by decide +kernel
theorem dL_law_605 : decode cL_law 605 = .ok (.invokevirtual 64, 3) := by decide +kernel
theorem dL_law_608 : decode cL_law 608 = .ok (.if_icmp .eq 417, 3) := by decide +kernel
theorem dL_law_611 : decode cL_law 611 = .ok (.iconst 0, 1) := by decide +kernel
theorem dL_law_612 : decode cL_law 612 = .ok (.ireturn, 1) := by decide +kernel
theorem dL_law_613 : decode cL_law 613 = .ok (.aload_n 1, 1) := by decide +kernel
theorem dL_law_614 : decode cL_law 614 = .ok (.aload_n 0, 1) := by decide +kernel
theorem dL_law_615 : decode cL_law 615 = .ok (.iload_n 3, 1) := by decide +kernel
theorem dL_law_616 : decode cL_law 616 = .ok (.iconst 1, 1) := by decide +kernel
theorem dL_law_617 : decode cL_law 617 = .ok (.iadd, 1) := by decide +kernel
theorem dL_law_618 : decode cL_law 618 = .ok (.iaload, 1) := by decide +kernel
theorem dL_law_619 : decode cL_law 619 = .ok (.aload_n 0, 1) := by decide +kernel
theorem dL_law_620 : decode cL_law 620 = .ok (.iload_n 3, 1) := by decide +kernel
theorem dL_law_621 : decode cL_law 621 = .ok (.iconst 2, 1) := by decide +kernel
theorem dL_law_622 : decode cL_law 622 = .ok (.iadd, 1) := by decide +kernel
theorem dL_law_623 : decode cL_law 623 = .ok (.iaload, 1) := by decide +kernel
theorem dL_law_624 : decode cL_law 624 = .ok (.aload_n 0, 1) := by decide +kernel
theorem dL_law_625 : decode cL_law 625 = .ok (.iload_n 3, 1) := by decide +kernel
theorem dL_law_626 : decode cL_law 626 = .ok (.iconst 3, 1) := by decide +kernel
theorem dL_law_627 : decode cL_law 627 = .ok (.iadd, 1) := by decide +kernel
theorem dL_law_628 : decode cL_law 628 = .ok (.iaload, 1) := by decide +kernel
theorem dL_law_629 : decode cL_law 629 = .ok (.aload_n 0, 1) := by decide +kernel
theorem dL_law_630 : decode cL_law 630 = .ok (.iload_n 3, 1) := by decide +kernel
theorem dL_law_631 : decode cL_law 631 = .ok (.iconst 4, 1) := by decide +kernel
theorem dL_law_632 : decode cL_law 632 = .ok (.iadd, 1) := by decide +kernel
theorem dL_law_633 : decode cL_law 633 = .ok (.iaload, 1) := by decide +kernel
theorem dL_law_634 : decode cL_law 634 = .ok (.invokevirtual 65, 3) := by decide +kernel
theorem dL_law_637 : decode cL_law 637 = .ok (.aload_n 2, 1) := by decide +kernel
theorem dL_law_638 : decode cL_law 638 = .ok (.aload_n 0, 1) := by decide +kernel
theorem dL_law_639 : decode cL_law 639 = .ok (.iload_n 3, 1) := by decide +kernel
theorem dL_law_640 : decode cL_law 640 = .ok (.iconst 1, 1) := by decide +kernel
theorem dL_law_641 : decode cL_law 641 = .ok (.iadd, 1) := by decide +kernel
theorem dL_law_642 : decode cL_law 642 = .ok (.iaload, 1) := by decide +kernel
theorem dL_law_643 : decode cL_law 643 = .ok (.aload_n 0, 1) := by decide +kernel
theorem dL_law_644 : decode cL_law 644 = .ok (.iload_n 3, 1) := by decide +kernel
theorem dL_law_645 : decode cL_law 645 = .ok (.iconst 2, 1) := by decide +kernel
theorem dL_law_646 : decode cL_law 646 = .ok (.iadd, 1) := by decide +kernel
theorem dL_law_647 : decode cL_law 647 = .ok (.iaload, 1) := by decide +kernel
theorem dL_law_648 : decode cL_law 648 = .ok (.aload_n 0, 1) := by decide +kernel
theorem dL_law_649 : decode cL_law 649 = .ok (.iload_n 3, 1) := by decide +kernel
theorem dL_law_650 : decode cL_law 650 = .ok (.iconst 3, 1) := by decide +kernel
theorem dL_law_651 : decode cL_law 651 = .ok (.iadd, 1) := by decide +kernel
theorem dL_law_652 : decode cL_law 652 = .ok (.iaload, 1) := by decide +kernel
theorem dL_law_653 : decode cL_law 653 = .ok (.aload_n 0, 1) := by decide +kernel
theorem dL_law_654 : decode cL_law 654 = .ok (.iload_n 3, 1) := by decide +kernel
theorem dL_law_655 : decode cL_law 655 = .ok (.iconst 4, 1) := by decide +kernel
theorem dL_law_656 : decode cL_law 656 = .ok (.iadd, 1) := by decide +kernel
theorem dL_law_657 : decode cL_law 657 = .ok (.iaload, 1) := by decide +kernel
theorem dL_law_658 : decode cL_law 658 = .ok (.invokevirtual 69, 3) := by decide +kernel
theorem dL_law_661 : decode cL_law 661 = .ok (.if_icmp .eq 364, 3) := by decide +kernel
theorem dL_law_664 : decode cL_law 664 = .ok (.iconst 0, 1) := by decide +kernel
theorem dL_law_665 : decode cL_law 665 = .ok (.ireturn, 1) := by decide +kernel
theorem dL_law_666 : decode cL_law 666 = .ok (.aload_n 1, 1) := by decide +kernel
theorem dL_law_667 : decode cL_law 667 = .ok (.aload_n 0, 1) := by decide +kernel
theorem dL_law_668 : decode cL_law 668 = .ok (.iload_n 3, 1) := by decide +kernel
theorem dL_law_669 : decode cL_law 669 = .ok (.iconst 1, 1) := by decide +kernel
theorem dL_law_670 : decode cL_law 670 = .ok (.iadd, 1) := by decide +kernel
theorem dL_law_671 : decode cL_law 671 = .ok (.iaload, 1) := by decide +kernel
theorem dL_law_672 : decode cL_law 672 = .ok (.invokevirtual 70, 3) := by decide +kernel
theorem dL_law_675 : decode cL_law 675 = .ok (.aload_n 2, 1) := by decide +kernel
theorem dL_law_676 : decode cL_law 676 = .ok (.aload_n 0, 1) := by decide +kernel
theorem dL_law_677 : decode cL_law 677 = .ok (.iload_n 3, 1) := by decide +kernel
theorem dL_law_678 : decode cL_law 678 = .ok (.iconst 1, 1) := by decide +kernel
theorem dL_law_679 : decode cL_law 679 = .ok (.iadd, 1) := by decide +kernel
theorem dL_law_680 : decode cL_law 680 = .ok (.iaload, 1) := by decide +kernel
theorem dL_law_681 : decode cL_law 681 = .ok (.invokevirtual 73, 3) := by decide +kernel
theorem dL_law_684 : decode cL_law 684 = .ok (.if_icmp .eq 341, 3) := by decide +kernel
theorem dL_law_687 : decode cL_law 687 = .ok (.iconst 0, 1) := by decide +kernel
theorem dL_law_688 : decode cL_law 688 = .ok (.ireturn, 1) := by decide +kernel
theorem dL_law_689 : decode cL_law 689 = .ok (.aload_n 1, 1) := by decide +kernel
theorem dL_law_690 : decode cL_law 690 = .ok (.aload_n 0, 1) := by decide +kernel
theorem dL_law_691 : decode cL_law 691 = .ok (.iload_n 3, 1) := by decide +kernel
theorem dL_law_692 : decode cL_law 692 = .ok (.iconst 1, 1) := by decide +kernel
theorem dL_law_693 : decode cL_law 693 = .ok (.iadd, 1) := by decide +kernel
theorem dL_law_694 : decode cL_law 694 = .ok (.iaload, 1) := by decide +kernel
theorem dL_law_695 : decode cL_law 695 = .ok (.aload_n 0, 1) := by decide +kernel
theorem dL_law_696 : decode cL_law 696 = .ok (.iload_n 3, 1) := by decide +kernel
theorem dL_law_697 : decode cL_law 697 = .ok (.iconst 2, 1) := by decide +kernel
theorem dL_law_698 : decode cL_law 698 = .ok (.iadd, 1) := by decide +kernel
theorem dL_law_699 : decode cL_law 699 = .ok (.iaload, 1) := by decide +kernel
theorem dL_law_700 : decode cL_law 700 = .ok (.aload_n 0, 1) := by decide +kernel
theorem dL_law_701 : decode cL_law 701 = .ok (.iload_n 3, 1) := by decide +kernel
theorem dL_law_702 : decode cL_law 702 = .ok (.iconst 3, 1) := by decide +kernel
theorem dL_law_703 : decode cL_law 703 = .ok (.iadd, 1) := by decide +kernel
theorem dL_law_704 : decode cL_law 704 = .ok (.iaload, 1) := by decide +kernel
theorem dL_law_705 : decode cL_law 705 = .ok (.invokevirtual 74, 3) := by decide +kernel
theorem dL_law_708 : decode cL_law 708 = .ok (.aload_n 2, 1) := by decide +kernel
theorem dL_law_709 : decode cL_law 709 = .ok (.aload_n 0, 1) := by decide +kernel
theorem dL_law_710 : decode cL_law 710 = .ok (.iload_n 3, 1) := by decide +kernel
theorem dL_law_711 : decode cL_law 711 = .ok (.iconst 1, 1) := by decide +kernel
theorem dL_law_712 : decode cL_law 712 = .ok (.iadd, 1) := by decide +kernel
theorem dL_law_713 : decode cL_law 713 = .ok (.iaload, 1) := by decide +kernel
theorem dL_law_714 : decode cL_law 714 = .ok (.aload_n 0, 1) := by decide +kernel
theorem dL_law_715 : decode cL_law 715 = .ok (.iload_n 3, 1) := by decide +kernel
theorem dL_law_716 : decode cL_law 716 = .ok (.iconst 2, 1) := by decide +kernel
theorem dL_law_717 : decode cL_law 717 = .ok (.iadd, 1) := by decide +kernel
theorem dL_law_718 : decode cL_law 718 = .ok (.iaload, 1) := by decide +kernel
theorem dL_law_719 : decode cL_law 719 = .ok (.aload_n 0, 1) := by decide +kernel
theorem dL_law_720 : decode cL_law 720 = .ok (.iload_n 3, 1) := by decide +kernel
theorem dL_law_721 : decode cL_law 721 = .ok (.iconst 3, 1) := by decide +kernel
theorem dL_law_722 : decode cL_law 722 = .ok (.iadd, 1) := by decide +kernel
theorem dL_law_723 : decode cL_law 723 = .ok (.iaload, 1) := by decide +kernel
theorem dL_law_724 : decode cL_law 724 = .ok (.invokevirtual 77, 3) := by decide +kernel
theorem dL_law_727 : decode cL_law 727 = .ok (.if_icmp .eq 298, 3) := by decide +kernel
theorem dL_law_730 : decode cL_law 730 = .ok (.iconst 0, 1) := by decide +kernel
theorem dL_law_731 : decode cL_law 731 = .ok (.ireturn, 1) := by decide +kernel
theorem dL_law_732 : decode cL_law 732 = .ok (.aload_n 1, 1) := by decide +kernel
theorem dL_law_733 : decode cL_law 733 = .ok (.invokevirtual 78, 3) := by decide +kernel
theorem dL_law_736 : decode cL_law 736 = .ok (.aload_n 2, 1) := by decide +kernel
theorem dL_law_737 : decode cL_law 737 = .ok (.invokevirtual 82, 3) := by decide +kernel
theorem dL_law_740 : decode cL_law 740 = .ok (.if_icmp .eq 285, 3) := by decide +kernel
theorem dL_law_743 : decode cL_law 743 = .ok (.iconst 0, 1) := by decide +kernel
theorem dL_law_744 : decode cL_law 744 = .ok (.ireturn, 1) := by decide +kernel
theorem dL_law_745 : decode cL_law 745 = .ok (.aload_n 1, 1) := by decide +kernel
theorem dL_law_746 : decode cL_law 746 = .ok (.aload_n 0, 1) := by decide +kernel
theorem dL_law_747 : decode cL_law 747 = .ok (.iload_n 3, 1) := by decide +kernel
theorem dL_law_748 : decode cL_law 748 = .ok (.iconst 1, 1) := by decide +kernel
theorem dL_law_749 : decode cL_law 749 = .ok (.iadd, 1) := by decide +kernel
theorem dL_law_750 : decode cL_law 750 = .ok (.iaload, 1) := by decide +kernel
theorem dL_law_751 : decode cL_law 751 = .ok (.aload_n 0, 1) := by decide +kernel
theorem dL_law_752 : decode cL_law 752 = .ok (.iload_n 3, 1) := by decide +kernel
theorem dL_law_753 : decode cL_law 753 = .ok (.iconst 2, 1) := by decide +kernel
theorem dL_law_754 : decode cL_law 754 = .ok (.iadd, 1) := by decide +kernel
theorem dL_law_755 : decode cL_law 755 = .ok (.iaload, 1) := by decide +kernel
theorem dL_law_756 : decode cL_law 756 = .ok (.aload_n 0, 1) := by decide +kernel
theorem dL_law_757 : decode cL_law 757 = .ok (.iload_n 3, 1) := by decide +kernel
theorem dL_law_758 : decode cL_law 758 = .ok (.iconst 3, 1) := by decide +kernel
theorem dL_law_759 : decode cL_law 759 = .ok (.iadd, 1) := by decide +kernel
theorem dL_law_760 : decode cL_law 760 = .ok (.iaload, 1) := by decide +kernel
theorem dL_law_761 : decode cL_law 761 = .ok (.invokevirtual 83, 3) := by decide +kernel
theorem dL_law_764 : decode cL_law 764 = .ok (.aload_n 2, 1) := by decide +kernel
theorem dL_law_765 : decode cL_law 765 = .ok (.aload_n 0, 1) := by decide +kernel
theorem dL_law_766 : decode cL_law 766 = .ok (.iload_n 3, 1) := by decide +kernel
theorem dL_law_767 : decode cL_law 767 = .ok (.iconst 1, 1) := by decide +kernel
theorem dL_law_768 : decode cL_law 768 = .ok (.iadd, 1) := by decide +kernel
theorem dL_law_769 : decode cL_law 769 = .ok (.iaload, 1) := by decide +kernel
theorem dL_law_770 : decode cL_law 770 = .ok (.aload_n 0, 1) := by decide +kernel
theorem dL_law_771 : decode cL_law 771 = .ok (.iload_n 3, 1) := by decide +kernel
theorem dL_law_772 : decode cL_law 772 = .ok (.iconst 2, 1) := by decide +kernel
theorem dL_law_773 : decode cL_law 773 = .ok (.iadd, 1) := by decide +kernel
theorem dL_law_774 : decode cL_law 774 = .ok (.iaload, 1) := by decide +kernel
theorem dL_law_775 : decode cL_law 775 = .ok (.aload_n 0, 1) := by decide +kernel
theorem dL_law_776 : decode cL_law 776 = .ok (.iload_n 3, 1) := by decide +kernel
theorem dL_law_777 : decode cL_law 777 = .ok (.iconst 3, 1) := by decide +kernel
theorem dL_law_778 : decode cL_law 778 = .ok (.iadd, 1) := by decide +kernel
theorem dL_law_779 : decode cL_law 779 = .ok (.iaload, 1) := by decide +kernel
theorem dL_law_780 : decode cL_law 780 = .ok (.invokevirtual 87, 3) := by decide +kernel
theorem dL_law_783 : decode cL_law 783 = .ok (.lcmp, 1) := by decide +kernel
theorem dL_law_784 : decode cL_law 784 = .ok (.ifCond .eq 241, 3) := by decide +kernel
theorem dL_law_787 : decode cL_law 787 = .ok (.iconst 0, 1) := by decide +kernel
theorem dL_law_788 : decode cL_law 788 = .ok (.ireturn, 1) := by decide +kernel
theorem dL_law_789 : decode cL_law 789 = .ok (.aload_n 1, 1) := by decide +kernel
theorem dL_law_790 : decode cL_law 790 = .ok (.aload_n 0, 1) := by decide +kernel
theorem dL_law_791 : decode cL_law 791 = .ok (.iload_n 3, 1) := by decide +kernel
theorem dL_law_792 : decode cL_law 792 = .ok (.iconst 1, 1) := by decide +kernel
theorem dL_law_793 : decode cL_law 793 = .ok (.iadd, 1) := by decide +kernel
theorem dL_law_794 : decode cL_law 794 = .ok (.iaload, 1) := by decide +kernel
theorem dL_law_795 : decode cL_law 795 = .ok (.aload_n 0, 1) := by decide +kernel
theorem dL_law_796 : decode cL_law 796 = .ok (.iload_n 3, 1) := by decide +kernel
theorem dL_law_797 : decode cL_law 797 = .ok (.iconst 2, 1) := by decide +kernel
theorem dL_law_798 : decode cL_law 798 = .ok (.iadd, 1) := by decide +kernel
theorem dL_law_799 : decode cL_law 799 = .ok (.iaload, 1) := by decide +kernel
theorem dL_law_800 : decode cL_law 800 = .ok (.invokevirtual 88, 3) := by decide +kernel
theorem dL_law_803 : decode cL_law 803 = .ok (.aload_n 2, 1) := by decide +kernel
theorem dL_law_804 : decode cL_law 804 = .ok (.aload_n 0, 1) := by decide +kernel
theorem dL_law_805 : decode cL_law 805 = .ok (.iload_n 3, 1) := by decide +kernel
theorem dL_law_806 : decode cL_law 806 = .ok (.iconst 1, 1) := by decide +kernel
theorem dL_law_807 : decode cL_law 807 = .ok (.iadd, 1) := by decide +kernel
theorem dL_law_808 : decode cL_law 808 = .ok (.iaload, 1) := by decide +kernel
theorem dL_law_809 : decode cL_law 809 = .ok (.aload_n 0, 1) := by decide +kernel
theorem dL_law_810 : decode cL_law 810 = .ok (.iload_n 3, 1) := by decide +kernel
theorem dL_law_811 : decode cL_law 811 = .ok (.iconst 2, 1) := by decide +kernel
theorem dL_law_812 : decode cL_law 812 = .ok (.iadd, 1) := by decide +kernel
theorem dL_law_813 : decode cL_law 813 = .ok (.iaload, 1) := by decide +kernel
theorem dL_law_814 : decode cL_law 814 = .ok (.invokevirtual 91, 3) := by decide +kernel
theorem dL_law_817 : decode cL_law 817 = .ok (.if_icmp .eq 208, 3) := by decide +kernel
theorem dL_law_820 : decode cL_law 820 = .ok (.iconst 0, 1) := by decide +kernel
theorem dL_law_821 : decode cL_law 821 = .ok (.ireturn, 1) := by decide +kernel
theorem dL_law_822 : decode cL_law 822 = .ok (.aload_n 1, 1) := by decide +kernel
theorem dL_law_823 : decode cL_law 823 = .ok (.aload_n 0, 1) := by decide +kernel
theorem dL_law_824 : decode cL_law 824 = .ok (.iload_n 3, 1) := by decide +kernel
theorem dL_law_825 : decode cL_law 825 = .ok (.iconst 1, 1) := by decide +kernel
theorem dL_law_826 : decode cL_law 826 = .ok (.iadd, 1) := by decide +kernel
theorem dL_law_827 : decode cL_law 827 = .ok (.iaload, 1) := by decide +kernel
theorem dL_law_828 : decode cL_law 828 = .ok (.aload_n 0, 1) := by decide +kernel
theorem dL_law_829 : decode cL_law 829 = .ok (.iload_n 3, 1) := by decide +kernel
theorem dL_law_830 : decode cL_law 830 = .ok (.iconst 2, 1) := by decide +kernel
theorem dL_law_831 : decode cL_law 831 = .ok (.iadd, 1) := by decide +kernel
theorem dL_law_832 : decode cL_law 832 = .ok (.iaload, 1) := by decide +kernel
theorem dL_law_833 : decode cL_law 833 = .ok (.invokevirtual 92, 3) := by decide +kernel
theorem dL_law_836 : decode cL_law 836 = .ok (.aload_n 2, 1) := by decide +kernel
theorem dL_law_837 : decode cL_law 837 = .ok (.aload_n 0, 1) := by decide +kernel
theorem dL_law_838 : decode cL_law 838 = .ok (.iload_n 3, 1) := by decide +kernel
theorem dL_law_839 : decode cL_law 839 = .ok (.iconst 1, 1) := by decide +kernel
theorem dL_law_840 : decode cL_law 840 = .ok (.iadd, 1) := by decide +kernel
theorem dL_law_841 : decode cL_law 841 = .ok (.iaload, 1) := by decide +kernel
theorem dL_law_842 : decode cL_law 842 = .ok (.aload_n 0, 1) := by decide +kernel
theorem dL_law_843 : decode cL_law 843 = .ok (.iload_n 3, 1) := by decide +kernel
theorem dL_law_844 : decode cL_law 844 = .ok (.iconst 2, 1) := by decide +kernel
theorem dL_law_845 : decode cL_law 845 = .ok (.iadd, 1) := by decide +kernel
theorem dL_law_846 : decode cL_law 846 = .ok (.iaload, 1) := by decide +kernel
theorem dL_law_847 : decode cL_law 847 = .ok (.invokevirtual 95, 3) := by decide +kernel
theorem dL_law_850 : decode cL_law 850 = .ok (.if_icmp .eq 175, 3) := by decide +kernel
theorem dL_law_853 : decode cL_law 853 = .ok (.iconst 0, 1) := by decide +kernel
theorem dL_law_854 : decode cL_law 854 = .ok (.ireturn, 1) := by decide +kernel
theorem dL_law_855 : decode cL_law 855 = .ok (.aload_n 1, 1) := by decide +kernel
theorem dL_law_856 : decode cL_law 856 = .ok (.aload_n 0, 1) := by decide +kernel
theorem dL_law_857 : decode cL_law 857 = .ok (.iload_n 3, 1) := by decide +kernel
theorem dL_law_858 : decode cL_law 858 = .ok (.iconst 1, 1) := by decide +kernel
theorem dL_law_859 : decode cL_law 859 = .ok (.iadd, 1) := by decide +kernel
theorem dL_law_860 : decode cL_law 860 = .ok (.iaload, 1) := by decide +kernel
theorem dL_law_861 : decode cL_law 861 = .ok (.aload_n 0, 1) := by decide +kernel
theorem dL_law_862 : decode cL_law 862 = .ok (.iload_n 3, 1) := by decide +kernel
theorem dL_law_863 : decode cL_law 863 = .ok (.iconst 2, 1) := by decide +kernel
theorem dL_law_864 : decode cL_law 864 = .ok (.iadd, 1) := by decide +kernel
theorem dL_law_865 : decode cL_law 865 = .ok (.iaload, 1) := by decide +kernel
theorem dL_law_866 : decode cL_law 866 = .ok (.aload_n 0, 1) := by decide +kernel
theorem dL_law_867 : decode cL_law 867 = .ok (.iload_n 3, 1) := by decide +kernel
theorem dL_law_868 : decode cL_law 868 = .ok (.iconst 3, 1) := by decide +kernel
theorem dL_law_869 : decode cL_law 869 = .ok (.iadd, 1) := by decide +kernel
theorem dL_law_870 : decode cL_law 870 = .ok (.iaload, 1) := by decide +kernel
theorem dL_law_871 : decode cL_law 871 = .ok (.invokevirtual 96, 3) := by decide +kernel
theorem dL_law_874 : decode cL_law 874 = .ok (.aload_n 2, 1) := by decide +kernel
theorem dL_law_875 : decode cL_law 875 = .ok (.aload_n 0, 1) := by decide +kernel
theorem dL_law_876 : decode cL_law 876 = .ok (.iload_n 3, 1) := by decide +kernel
theorem dL_law_877 : decode cL_law 877 = .ok (.iconst 1, 1) := by decide +kernel
theorem dL_law_878 : decode cL_law 878 = .ok (.iadd, 1) := by decide +kernel
theorem dL_law_879 : decode cL_law 879 = .ok (.iaload, 1) := by decide +kernel
theorem dL_law_880 : decode cL_law 880 = .ok (.aload_n 0, 1) := by decide +kernel
theorem dL_law_881 : decode cL_law 881 = .ok (.iload_n 3, 1) := by decide +kernel
theorem dL_law_882 : decode cL_law 882 = .ok (.iconst 2, 1) := by decide +kernel
theorem dL_law_883 : decode cL_law 883 = .ok (.iadd, 1) := by decide +kernel
theorem dL_law_884 : decode cL_law 884 = .ok (.iaload, 1) := by decide +kernel
theorem dL_law_885 : decode cL_law 885 = .ok (.aload_n 0, 1) := by decide +kernel
theorem dL_law_886 : decode cL_law 886 = .ok (.iload_n 3, 1) := by decide +kernel
theorem dL_law_887 : decode cL_law 887 = .ok (.iconst 3, 1) := by decide +kernel
theorem dL_law_888 : decode cL_law 888 = .ok (.iadd, 1) := by decide +kernel
theorem dL_law_889 : decode cL_law 889 = .ok (.iaload, 1) := by decide +kernel
theorem dL_law_890 : decode cL_law 890 = .ok (.invokevirtual 99, 3) := by decide +kernel
theorem dL_law_893 : decode cL_law 893 = .ok (.lcmp, 1) := by decide +kernel
theorem dL_law_894 : decode cL_law 894 = .ok (.ifCond .eq 131, 3) := by decide +kernel
theorem dL_law_897 : decode cL_law 897 = .ok (.iconst 0, 1) := by decide +kernel
theorem dL_law_898 : decode cL_law 898 = .ok (.ireturn, 1) := by decide +kernel
theorem dL_law_899 : decode cL_law 899 = .ok (.aload_n 1, 1) := by decide +kernel
theorem dL_law_900 : decode cL_law 900 = .ok (.invokevirtual 100, 3) := by decide +kernel
theorem dL_law_903 : decode cL_law 903 = .ok (.aload_n 2, 1) := by decide +kernel
theorem dL_law_904 : decode cL_law 904 = .ok (.invokevirtual 103, 3) := by decide +kernel
theorem dL_law_907 : decode cL_law 907 = .ok (.if_icmp .eq 118, 3) := by decide +kernel
theorem dL_law_910 : decode cL_law 910 = .ok (.iconst 0, 1) := by decide +kernel
theorem dL_law_911 : decode cL_law 911 = .ok (.ireturn, 1) := by decide +kernel
theorem dL_law_912 : decode cL_law 912 = .ok (.aload_n 1, 1) := by decide +kernel
theorem dL_law_913 : decode cL_law 913 = .ok (.aload_n 0, 1) := by decide +kernel
theorem dL_law_914 : decode cL_law 914 = .ok (.iload_n 3, 1) := by decide +kernel
theorem dL_law_915 : decode cL_law 915 = .ok (.iconst 1, 1) := by decide +kernel
theorem dL_law_916 : decode cL_law 916 = .ok (.iadd, 1) := by decide +kernel
theorem dL_law_917 : decode cL_law 917 = .ok (.iaload, 1) := by decide +kernel
theorem dL_law_918 : decode cL_law 918 = .ok (.invokevirtual 104, 3) := by decide +kernel
theorem dL_law_921 : decode cL_law 921 = .ok (.aload_n 2, 1) := by decide +kernel
theorem dL_law_922 : decode cL_law 922 = .ok (.aload_n 0, 1) := by decide +kernel
theorem dL_law_923 : decode cL_law 923 = .ok (.iload_n 3, 1) := by decide +kernel
theorem dL_law_924 : decode cL_law 924 = .ok (.iconst 1, 1) := by decide +kernel
theorem dL_law_925 : decode cL_law 925 = .ok (.iadd, 1) := by decide +kernel
theorem dL_law_926 : decode cL_law 926 = .ok (.iaload, 1) := by decide +kernel
theorem dL_law_927 : decode cL_law 927 = .ok (.invokevirtual 107, 3) := by decide +kernel
theorem dL_law_930 : decode cL_law 930 = .ok (.if_icmp .eq 95, 3) := by decide +kernel
theorem dL_law_933 : decode cL_law 933 = .ok (.iconst 0, 1) := by decide +kernel
theorem dL_law_934 : decode cL_law 934 = .ok (.ireturn, 1) := by decide +kernel
theorem dL_law_935 : decode cL_law 935 = .ok (.aload_n 1, 1) := by decide +kernel
theorem dL_law_936 : decode cL_law 936 = .ok (.aload_n 0, 1) := by decide +kernel
theorem dL_law_937 : decode cL_law 937 = .ok (.iload_n 3, 1) := by decide +kernel
theorem dL_law_938 : decode cL_law 938 = .ok (.iconst 1, 1) := by decide +kernel
theorem dL_law_939 : decode cL_law 939 = .ok (.iadd, 1) := by decide +kernel
theorem dL_law_940 : decode cL_law 940 = .ok (.iaload, 1) := by decide +kernel
theorem dL_law_941 : decode cL_law 941 = .ok (.aload_n 0, 1) := by decide +kernel
theorem dL_law_942 : decode cL_law 942 = .ok (.iload_n 3, 1) := by decide +kernel
theorem dL_law_943 : decode cL_law 943 = .ok (.iconst 2, 1) := by decide +kernel
theorem dL_law_944 : decode cL_law 944 = .ok (.iadd, 1) := by decide +kernel
theorem dL_law_945 : decode cL_law 945 = .ok (.iaload, 1) := by decide +kernel
theorem dL_law_946 : decode cL_law 946 = .ok (.aload_n 0, 1) := by decide +kernel
theorem dL_law_947 : decode cL_law 947 = .ok (.iload_n 3, 1) := by decide +kernel
theorem dL_law_948 : decode cL_law 948 = .ok (.iconst 3, 1) := by decide +kernel
theorem dL_law_949 : decode cL_law 949 = .ok (.iadd, 1) := by decide +kernel
theorem dL_law_950 : decode cL_law 950 = .ok (.iaload, 1) := by decide +kernel
theorem dL_law_951 : decode cL_law 951 = .ok (.aload_n 0, 1) := by decide +kernel
theorem dL_law_952 : decode cL_law 952 = .ok (.iload_n 3, 1) := by decide +kernel
theorem dL_law_953 : decode cL_law 953 = .ok (.iconst 4, 1) := by decide +kernel
theorem dL_law_954 : decode cL_law 954 = .ok (.iadd, 1) := by decide +kernel
theorem dL_law_955 : decode cL_law 955 = .ok (.iaload, 1) := by decide +kernel
theorem dL_law_956 : decode cL_law 956 = .ok (.invokevirtual 108, 3) := by decide +kernel
theorem dL_law_959 : decode cL_law 959 = .ok (.aload_n 2, 1) := by decide +kernel
theorem dL_law_960 : decode cL_law 960 = .ok (.aload_n 0, 1) := by decide +kernel
theorem dL_law_961 : decode cL_law 961 = .ok (.iload_n 3, 1) := by decide +kernel
theorem dL_law_962 : decode cL_law 962 = .ok (.iconst 1, 1) := by decide +kernel
theorem dL_law_963 : decode cL_law 963 = .ok (.iadd, 1) := by decide +kernel
theorem dL_law_964 : decode cL_law 964 = .ok (.iaload, 1) := by decide +kernel
theorem dL_law_965 : decode cL_law 965 = .ok (.aload_n 0, 1) := by decide +kernel
theorem dL_law_966 : decode cL_law 966 = .ok (.iload_n 3, 1) := by decide +kernel
theorem dL_law_967 : decode cL_law 967 = .ok (.iconst 2, 1) := by decide +kernel
theorem dL_law_968 : decode cL_law 968 = .ok (.iadd, 1) := by decide +kernel
theorem dL_law_969 : decode cL_law 969 = .ok (.iaload, 1) := by decide +kernel
theorem dL_law_970 : decode cL_law 970 = .ok (.aload_n 0, 1) := by decide +kernel
theorem dL_law_971 : decode cL_law 971 = .ok (.iload_n 3, 1) := by decide +kernel
theorem dL_law_972 : decode cL_law 972 = .ok (.iconst 3, 1) := by decide +kernel
theorem dL_law_973 : decode cL_law 973 = .ok (.iadd, 1) := by decide +kernel
theorem dL_law_974 : decode cL_law 974 = .ok (.iaload, 1) := by decide +kernel
theorem dL_law_975 : decode cL_law 975 = .ok (.aload_n 0, 1) := by decide +kernel
theorem dL_law_976 : decode cL_law 976 = .ok (.iload_n 3, 1) := by decide +kernel
theorem dL_law_977 : decode cL_law 977 = .ok (.iconst 4, 1) := by decide +kernel
theorem dL_law_978 : decode cL_law 978 = .ok (.iadd, 1) := by decide +kernel
theorem dL_law_979 : decode cL_law 979 = .ok (.iaload, 1) := by decide +kernel
theorem dL_law_980 : decode cL_law 980 = .ok (.invokevirtual 111, 3) := by decide +kernel
theorem dL_law_983 : decode cL_law 983 = .ok (.if_icmp .eq 42, 3) := by decide +kernel
theorem dL_law_986 : decode cL_law 986 = .ok (.iconst 0, 1) := by decide +kernel
theorem dL_law_987 : decode cL_law 987 = .ok (.ireturn, 1) := by decide +kernel
theorem dL_law_988 : decode cL_law 988 = .ok (.aload_n 1, 1) := by decide +kernel
theorem dL_law_989 : decode cL_law 989 = .ok (.aload_n 0, 1) := by decide +kernel
theorem dL_law_990 : decode cL_law 990 = .ok (.iload_n 3, 1) := by decide +kernel
theorem dL_law_991 : decode cL_law 991 = .ok (.iconst 1, 1) := by decide +kernel
theorem dL_law_992 : decode cL_law 992 = .ok (.iadd, 1) := by decide +kernel
theorem dL_law_993 : decode cL_law 993 = .ok (.iaload, 1) := by decide +kernel
theorem dL_law_994 : decode cL_law 994 = .ok (.invokevirtual 112, 3) := by decide +kernel
theorem dL_law_997 : decode cL_law 997 = .ok (.aload_n 2, 1) := by decide +kernel
theorem dL_law_998 : decode cL_law 998 = .ok (.aload_n 0, 1) := by decide +kernel
theorem dL_law_999 : decode cL_law 999 = .ok (.iload_n 3, 1) := by decide +kernel
theorem dL_law_1000 : decode cL_law 1000 = .ok (.iconst 1, 1) := by decide +kernel
theorem dL_law_1001 : decode cL_law 1001 = .ok (.iadd, 1) := by decide +kernel
theorem dL_law_1002 : decode cL_law 1002 = .ok (.iaload, 1) := by decide +kernel
theorem dL_law_1003 : decode cL_law 1003 = .ok (.invokevirtual 115, 3) := by decide +kernel
theorem dL_law_1006 : decode cL_law 1006 = .ok (.if_icmp .eq 19, 3) := by decide +kernel
theorem dL_law_1009 : decode cL_law 1009 = .ok (.iconst 0, 1) := by decide +kernel
theorem dL_law_1010 : decode cL_law 1010 = .ok (.ireturn, 1) := by decide +kernel
theorem dL_law_1011 : decode cL_law 1011 = .ok (.aload_n 1, 1) := by decide +kernel
theorem dL_law_1012 : decode cL_law 1012 = .ok (.invokevirtual 116, 3) := by decide +kernel
theorem dL_law_1015 : decode cL_law 1015 = .ok (.aload_n 2, 1) := by decide +kernel
theorem dL_law_1016 : decode cL_law 1016 = .ok (.invokevirtual 120, 3) := by decide +kernel
theorem dL_law_1019 : decode cL_law 1019 = .ok (.lcmp, 1) := by decide +kernel
theorem dL_law_1020 : decode cL_law 1020 = .ok (.ifCond .eq 5, 3) := by decide +kernel
theorem dL_law_1023 : decode cL_law 1023 = .ok (.iconst 0, 1) := by decide +kernel
theorem dL_law_1024 : decode cL_law 1024 = .ok (.ireturn, 1) := by decide +kernel
theorem dL_law_1025 : decode cL_law 1025 = .ok (.iinc 3 6, 3) := by decide +kernel
theorem dL_law_1028 : decode cL_law 1028 = .ok (.goto (-1010), 3) := by decide +kernel
theorem dL_law_1031 : decode cL_law 1031 = .ok (.iconst 1, 1) := by decide +kernel
theorem dL_law_1032 : decode cL_law 1032 = .ok (.ireturn, 1) := by decide +kernel
abbrev vwCl : List vw_C := [(RX0, TX0, 3), (RX1, TX1, 2), (RX2, TX2, 10), (RX3, TX3, 13)]
end
section
/-! the base: booleans, nest words, read-only calls, writers' calls, the two worlds -/
def bI (c : Prop) [Decidable c] : Int32 := if c then 1 else 0
theorem bI_t {c : Prop} [Decidable c] (h : c) : bI c = 1 := if_pos h
theorem bI_f {c : Prop} [Decidable c] (h : ¬ c) : bI c = 0 := if_neg h
theorem bI_eq {c : Prop} [Decidable c] : bI c = 0 ↔ ¬ c := by
  unfold bI; split
  · rename_i h; exact ⟨fun q => absurd q (by decide), fun q => absurd h q⟩
  · rename_i h; exact ⟨fun _ => h, fun _ => rfl⟩
theorem bI_ne {c : Prop} [Decidable c] : ¬ bI c = 0 ↔ c := by rw [bI_eq]; exact Decidable.not_not
theorem bI_eq1 {c : Prop} [Decidable c] : bI c = 1 ↔ c := by
  unfold bI; split
  · rename_i h; exact ⟨fun _ => h, fun _ => rfl⟩
  · rename_i h; exact ⟨fun q => absurd q (by decide), fun q => absurd q h⟩
theorem bI_congr {c d : Prop} [Decidable c] [Decidable d] (h : c ↔ d) : bI c = bI d := by
  unfold bI; by_cases q : c
  · rw [if_pos q, if_pos (h.mp q)]
  · rw [if_neg q, if_neg (fun z => q (h.mpr z))]
theorem bI_nar {c : Prop} [Decidable c] : narrow .boolean (.int (bI c)) = .int (bI c) := by
  unfold bI; split <;> rfl
/-- the nest mates' links -/
def nwL : List Cond := [.methodLinkNest "BitStreams" 9 ⟨"BitStreams$Rows", "<init>", "()V"⟩ "BitStreams", .fieldLinkNest "BitStreams" 49 "BitStreams$Rows" "length" "I" "BitStreams", .methodLinkNest "BitStreams" 18 ⟨"BitStreams$Form", "<init>", "()V"⟩ "BitStreams", .fieldLinkNest "BitStreams" 149 "BitStreams$Form" "numbers" "[I" "BitStreams", .fieldLinkNest "BitStreams" 146 "BitStreams$Form" "degree" "I" "BitStreams", .fieldLinkNest "BitStreams" 171 "BitStreams$Form" "scale" "I" "BitStreams", .methodLinkNest "BitStreams" 52 ⟨"BitStreams$Rows", "setLength", "(I)V"⟩ "BitStreams", .methodLinkNest "BitStreams" 66 ⟨"BitStreams$Rows", "ofSource", "(II)J"⟩ "BitStreams", .methodLinkNest "BitStreams$Rows" 27 ⟨"BitStreams", "lowBits", "(I)J"⟩ "BitStreams", .methodLinkNest "BitStreams" 97 ⟨"BitStreams$Rows", "shifted", "(JI)J"⟩ "BitStreams", .methodLinkNest "BitStreams" 142 ⟨"BitStreams$Form", "setDegree", "(II)V"⟩ "BitStreams", .methodLinkNest "BitStreams" 155 ⟨"BitStreams$Form", "partAbove", "(II)J"⟩ "BitStreams", .methodLinkNest "BitStreams" 158 ⟨"BitStreams$Form", "partBelow", "(I)J"⟩ "BitStreams", .methodLinkNest "BitStreams" 161 ⟨"BitStreams$Form", "mayBeMade", "(I)Z"⟩ "BitStreams", .methodLinkNest "BitStreams" 165 ⟨"BitStreams$Form", "thousandthsAt", "(II)I"⟩ "BitStreams", .methodLinkNest "BitStreams$Form" 36 ⟨"BitStreams", "power", "(JI)J"⟩ "BitStreams", .methodLinkNest "BitStreams" 185 ⟨"BitStreams$Rows", "round", "(I)I"⟩ "BitStreams", .methodLinkNest "BitStreams" 188 ⟨"BitStreams$Rows", "turned", "(I)I"⟩ "BitStreams"]
def nw (U : State) : Prop := ∀ w ∈ nwL, va_Nw w U
theorem nw_tab : ∀ w ∈ nwL, w.onTables = true := by decide +kernel
theorem nw.same {u U : State} (h : u.vm = U.vm) (k : nw u) : nw U := fun w hw => va_Nw.same (nw_tab w hw) h (k w hw)
def nw_isM : Cond → Bool
  | .methodLinkNest _ _ _ _ => true
  | .fieldLinkNest _ _ _ _ _ _ => true
  | _ => false
theorem nw_all : ∀ w ∈ nwL, nw_isM w = true := by decide +kernel
theorem nw_warm1 {s U : State} (hW : s.WarmedH U.vm) {w : Cond} (h : nw_isM w = true) (k : va_Nw w s) : va_Nw w U := by
  cases w <;> first | exact va_Nw.warmM hW k | exact va_Nw.warmF hW k | cases h
theorem nw.warm {s U : State} (hW : s.WarmedH U.vm) (k : nw s) : nw U := fun w hw => nw_warm1 hW (nw_all w hw) (k w hw)
theorem nw.at {U : State} (h : nw U) (i : Nat) {w : Cond} (hi : nwL[i]? = some w) : va_Nw w U := h w (List.mem_of_getElem? hi)
theorem nw.use {U : State} (h : nw U) (i : Nat) {w : Cond} (hi : nwL[i]? = some w) {A : Array Value} : w.before A U = true := va_Nw.use (nw_tab w (List.mem_of_getElem? hi)) (h.at i hi)
/-- what a read-only method's end says -/
def qL (r : Int64) : Array Value → State → Outcome → State → Prop := fun _ st o t => o = .returned (some (.long r)) ∧ t.heap = st.heap
theorem ri {v r : Int32} {a : Array Value} {s t : State} (h : v = r) (ht : t.heap = s.heap) : QcRead r a s (.returned (some (.int v))) t := ⟨by rw [h], ht⟩
theorem rl {v r : Int64} {a : Array Value} {s t : State} (h : v = r) (ht : t.heap = s.heap) : qL r a s (.returned (some (.long v))) t := ⟨by rw [h], ht⟩
theorem no_locs {F : Addr → Prop} : ∀ q ∈ ([] : List Loc), F q.base := fun _ h => by cases h
/-- what an object's method finds -/
def gB (D : va_G) (tys : List (ClassId × FieldType)) (ws : va_W) (U : State) : Prop := nw U ∧ va_K D vwCl tys U ∧ va_P D vwCl ws U.heap
def gW (sz : Nat) (D : va_G) (tys : List (ClassId × FieldType)) (ws : va_W) (U : State) : Prop := U.heap.size = sz ∧ gB D tys ws U ∧ va_D (fun _ => True) ws
theorem gB_call {D : va_G} {tys : List (ClassId × FieldType)} {ws : va_W} {U : State} {g : JFrame} {mk : MethodId} {a : Array Value} (h : gB D tys ws U) : gB D tys ws (U.calling g mk a) :=
  ⟨nw.same (u := U) rfl h.1, va_K.moved (u := U) (U := U.calling g mk a) (Vm.Alike.refl U.vm) h.2.1, h.2.2⟩
theorem gB_blind {D : va_G} {tys : List (ClassId × FieldType)} {ws : va_W} {As : List Value} : FrameBlind (va_Pc As (gB D tys ws)) := fun _ _ _ _ h => ⟨h.1, gB_call h.2⟩
theorem gW_blind {sz : Nat} {D : va_G} {tys : List (ClassId × FieldType)} {ws : va_W} {As : List Value} : FrameBlind (va_Pc As (gW sz D tys ws)) := fun _ _ _ _ h => ⟨h.1, h.2.1, gB_call h.2.2.1, h.2.2.2⟩
theorem preS0 {s : State} {H : Heap} {As : List Value} : PreS s H (va_Pc As (fun _ => True)) As := ⟨fun _ _ _ _ q => q, fun _ _ _ => ⟨rfl, trivial⟩⟩
theorem preV1 {s : State} {H : Heap} {D : va_G} {tys : List (ClassId × FieldType)} {ws : va_W} {b : Nat} {As : List Value} (hnw : nw s) (hK : va_K D vwCl tys s) (hP : va_P D vwCl ws H) (q0 ci : Nat) {q : vw_C} {fs : List Value} (hc : vwCl[ci]? = some q) (he : ws[q0]? = some (b, .inr (ci, fs))) : PreV s H q.1 b (va_Pc (.ref b :: As) (gB D tys ws)) As :=
  ⟨gB_blind, va_recv hK hP hc he, fun U hU hW => ⟨rfl, nw.warm hW hnw, va_K.moved hW.alike hK, by rw [hU]; exact hP⟩⟩
theorem preV2 {s : State} {H : Heap} {D : va_G} {A : Nat → Prop} {tys : List (ClassId × FieldType)} {ws : va_W} {b : Nat} {As : List Value} (hnw : nw s) (hK : va_K D vwCl tys s) (hP : va_P D vwCl ws H) (hD : va_D A ws) (q0 ci : Nat) {q : vw_C} {fs : List Value} (hc : vwCl[ci]? = some q) (he : ws[q0]? = some (b, .inr (ci, fs))) : PreV s H q.1 b (va_Pc (.ref b :: As) (gW H.size D tys ws)) As :=
  ⟨gW_blind, va_recv hK hP hc he, fun U hU hW => ⟨rfl, by rw [hU], ⟨nw.warm hW hnw, va_K.moved hW.alike hK, by rw [hU]; exact hP⟩, hD.weaken (fun _ _ _ _ => trivial)⟩⟩
theorem va_free_all {A0 : Nat → Prop} {ws : va_W} {H0 H : Heap} {locs : List Loc} (hD : va_D A0 ws) (hS : va_S A0 H0 H locs) (hA : ∀ q, H0.size ≤ q → A0 q) : ∀ q, va_A ws H.size q → A0 q := by
  intro q h
  rcases h with ⟨k, e, h⟩ | h
  · exact hD.2 k (q, e) h
  · exact hA q (Nat.le_trans hS.1 h)
theorem va_D_addr {A : Nat → Prop} {ws ws' : va_W} (hD : va_D A ws) (h : ws'.map Prod.fst = ws.map Prod.fst) : va_D A ws' := by
  have at' : ∀ (k : Nat) (q : Nat × va_E), ws'[k]? = some q → ∃ q2 : Nat × va_E, ws[k]? = some q2 ∧ q2.1 = q.1 := by
    intro k q hq
    have h1 : (ws'.map Prod.fst)[k]? = some q.1 := by rw [List.getElem?_map, hq]; rfl
    rw [h, List.getElem?_map] at h1
    cases hk : ws[k]? with
    | none => rw [hk] at h1; cases h1
    | some q2 => rw [hk] at h1; exact ⟨q2, rfl, Option.some.inj h1⟩
  refine ⟨fun i j p q hp hq e => ?_, fun k q hq => ?_⟩
  · obtain ⟨p2, h1, e1⟩ := at' i p hp
    obtain ⟨q2, h2, e2⟩ := at' j q hq
    exact hD.1 i j p2 q2 h1 h2 (by rw [e1, e2]; exact e)
  · obtain ⟨q2, h2, e2⟩ := at' k q hq
    rw [← e2]
    exact hD.2 k q2 h2
section ROW
variable {p : Program} {l : Launch} {e : Env} {R : Room} {s : State} {m : MethodId} {args : Array Value} {below : List Frame} {meth : Method} {c : Code} {H : Heap} {locs : List Loc} {cells slots : Nat} {Q : State → Prop}
variable {pc : Nat} {ls : Array Slot} {rest st0 : List Value} {a : Array Value} {A0 : Nat → Prop} {H0 : Heap} {mc ms : Nat}
theorem ro_i {r : Int32} (hr : va_Run p l e R s m args below meth c H locs cells slots 0 0 (F0 m pc ls st0) rest (QcRead r a) (fun _ => False)) (kk : W p l e R s m args below meth c H locs cells slots Q (F0 m (pc + 3) ls (.int r :: rest))) : W p l e R s m args below meth c H locs cells slots Q (F0 m pc ls st0) := by
  intro T hT X
  obtain ⟨v, st₀, t, T', L, h0, X', hL, e1, e2, ⟨hv, hh⟩, st⟩ := hr T hT X
  cases hv
  obtain ⟨t2, a1, b1⟩ := kk T' (by rw [e1, hh, h0]) (Stand.forget X' (fun q h => (hL q h).elim))
  exact ⟨t2, st t2 a1, b1⟩
theorem ro_l {r : Int64} (hr : va_Run p l e R s m args below meth c H locs cells slots 0 0 (F0 m pc ls st0) rest (qL r a) (fun _ => False)) (kk : W p l e R s m args below meth c H locs cells slots Q (F0 m (pc + 3) ls (.long r :: rest))) : W p l e R s m args below meth c H locs cells slots Q (F0 m pc ls st0) := by
  intro T hT X
  obtain ⟨v, st₀, t, T', L, h0, X', hL, e1, e2, ⟨hv, hh⟩, st⟩ := hr T hT X
  cases hv
  obtain ⟨t2, a1, b1⟩ := kk T' (by rw [e1, hh, h0]) (Stand.forget X' (fun q h => (hL q h).elim))
  exact ⟨t2, st t2 a1, b1⟩
theorem wr_i {S : Type} {post : Int32 → S → Prop} {wf : S → va_W} {D : va_G} {ws : va_W} (hr : va_Run p l e R s m args below meth c H locs cells slots mc ms (F0 m pc ls st0) rest (va_Qi post (fun u t => va_P D vwCl (wf u) t.heap) (va_A ws H.size) a) (va_A ws H.size)) (hD : va_D A0 ws) (hS : va_S A0 H0 H locs) (hA : ∀ q, H0.size ≤ q → A0 q) (hw : ∀ u, (wf u).map Prod.fst = ws.map Prod.fst)
    (kk : ∀ (r : Int32) (u : S) (H1 : Heap) (locs1 : List Loc), post r u → va_P D vwCl (wf u) H1 → va_D A0 (wf u) → va_S A0 H0 H1 locs1 → W p l e R s m args below meth c H1 locs1 (cells + mc) (slots + ms) Q (F0 m (pc + 3) ls (.int r :: rest))) : W p l e R s m args below meth c H locs cells slots Q (F0 m pc ls st0) :=
  va_calli hr hS (fun q _ h => va_free_all hD hS hA q h) (va_free_all hD hS hA) (fun r u t H1 locs1 ht _ hp hB _ _ hS1 => kk r u H1 locs1 hp (by rw [← ht]; exact hB) (va_D_addr hD (hw u)) hS1)
theorem wr_l {S : Type} {post : Int64 → S → Prop} {wf : S → va_W} {D : va_G} {ws : va_W} (hr : va_Run p l e R s m args below meth c H locs cells slots mc ms (F0 m pc ls st0) rest (va_Ql post (fun u t => va_P D vwCl (wf u) t.heap) (va_A ws H.size) a) (va_A ws H.size)) (hD : va_D A0 ws) (hS : va_S A0 H0 H locs) (hA : ∀ q, H0.size ≤ q → A0 q) (hw : ∀ u, (wf u).map Prod.fst = ws.map Prod.fst)
    (kk : ∀ (r : Int64) (u : S) (H1 : Heap) (locs1 : List Loc), post r u → va_P D vwCl (wf u) H1 → va_D A0 (wf u) → va_S A0 H0 H1 locs1 → W p l e R s m args below meth c H1 locs1 (cells + mc) (slots + ms) Q (F0 m (pc + 3) ls (.long r :: rest))) : W p l e R s m args below meth c H locs cells slots Q (F0 m pc ls st0) :=
  va_calll hr hS (fun q _ h => va_free_all hD hS hA q h) (va_free_all hD hS hA) (fun r u t H1 locs1 ht _ hp hB _ _ hS1 => kk r u H1 locs1 hp (by rw [← ht]; exact hB) (va_D_addr hD (hw u)) hS1)
theorem wr_v {S : Type} {post : S → Prop} {wf : S → va_W} {D : va_G} {ws : va_W} (hr : va_Run p l e R s m args below meth c H locs cells slots mc ms (F0 m pc ls st0) rest (va_Qv post (fun u t => va_P D vwCl (wf u) t.heap) (va_A ws H.size) a) (va_A ws H.size)) (hD : va_D A0 ws) (hS : va_S A0 H0 H locs) (hA : ∀ q, H0.size ≤ q → A0 q) (hw : ∀ u, (wf u).map Prod.fst = ws.map Prod.fst)
    (kk : ∀ (u : S) (H1 : Heap) (locs1 : List Loc), post u → va_P D vwCl (wf u) H1 → va_D A0 (wf u) → va_S A0 H0 H1 locs1 → W p l e R s m args below meth c H1 locs1 (cells + mc) (slots + ms) Q (F0 m (pc + 3) ls rest)) : W p l e R s m args below meth c H locs cells slots Q (F0 m pc ls st0) :=
  va_callv hr hS (fun q _ h => va_free_all hD hS hA q h) (va_free_all hD hS hA) (fun u t H1 locs1 ht _ hp hB _ _ hS1 => kk u H1 locs1 hp (by rw [← ht]; exact hB) (va_D_addr hD (hw u)) hS1)
/-- the number on the stack's top, by another name -/
theorem st_i {x v : Int32} (h : x = v) (k : W p l e R s m args below meth c H locs cells slots Q (F0 m pc ls (.int v :: rest))) : W p l e R s m args below meth c H locs cells slots Q (F0 m pc ls (.int x :: rest)) := by rw [h]; exact k
theorem st_l {x v : Int64} (h : x = v) (k : W p l e R s m args below meth c H locs cells slots Q (F0 m pc ls (.long v :: rest))) : W p l e R s m args below meth c H locs cells slots Q (F0 m pc ls (.long x :: rest)) := by rw [h]; exact k
theorem st_i2 {y : Value} {x v : Int32} (h : x = v) (k : W p l e R s m args below meth c H locs cells slots Q (F0 m pc ls (y :: .int v :: rest))) : W p l e R s m args below meth c H locs cells slots Q (F0 m pc ls (y :: .int x :: rest)) := by rw [h]; exact k
end ROW
/-- the class's world: the object 0, its Rows 1, its Form 2, streams 3, firstRows 4, secondRows 5, parts 6, the Form's numbers 7 -/
abbrev xw (ad : Nat → Nat) (cI cJ : ClassId) (ln fg dg sc ms mi mv mw : Int32) (st fr sr pa : Nat → Int64) (nu : Nat → Int32) : va_W :=
  [(ad 0, .inr (2, [.ref (ad 1), .ref (ad 2), .ref (ad 3), .ref (ad 4), .ref (ad 5), .ref (ad 6), .int ms, .int mi, .int mv, .int mw])), (ad 1, .inr (1, [.int ln, .int fg])), (ad 2, .inr (0, [.ref (ad 7), .int dg, .int sc])), (ad 3, .inl (cJ, 12, .inr (.inl st))), (ad 4, .inl (cJ, 65, .inr (.inl fr))), (ad 5, .inl (cJ, 65, .inr (.inl sr))), (ad 6, .inl (cJ, 11, .inr (.inl pa))), (ad 7, .inl (cI, 5, .inl nu))]
/-- the reference's world: the object 0, rows 1, firsts 2, others 3, terms 4 -/
abbrev yw (ad : Nat → Nat) (cI cJ : ClassId) (ln dg sc ms mi mv mw : Int32) (pu pl : Int64) (st fr sr : Nat → Int64) (nu : Nat → Int32) : va_W :=
  [(ad 0, .inr (3, [.int ln, .ref (ad 1), .int mi, .int mv, .int mw, .ref (ad 2), .ref (ad 3), .int ms, .int dg, .int sc, .ref (ad 4), .long pu, .long pl])), (ad 1, .inl (cJ, 12, .inr (.inl st))), (ad 2, .inl (cJ, 65, .inr (.inl fr))), (ad 3, .inl (cJ, 65, .inr (.inl sr))), (ad 4, .inl (cI, 5, .inl nu))]
abbrev tyw (cI cJ : ClassId) : List (ClassId × FieldType) := [(cI, .int), (cJ, .long)]
/-- a JDK method's contract: its class has slashes in its name, but no row of the natives is its own -/
theorem met_ofW {l : Launch} {y : MethodName} {ws ws' : List Cond} {rm : Room} {Pc : Array Value → State → Prop} {Qc : Array Value → State → Outcome → State → Prop} {mc ms : Nat} {free : Addr → Prop} {cc : ByteArray} {maxL : Nat} {ret : Option FieldType}
    (hy : plainFor y = true) (hw : ws = Cond.code y cc maxL ret :: ws')
    (body : ∀ p e s m args below meth c s₁, BodyLoose p l y (headSpec ws rm) cc maxL ret e s m args below meth c s₁ → c.maxLocals = maxL → Pc args s →
      W p l e (headSpec ws rm).room s m args below meth c s.heap [] 0 0 (MQ below Qc args s mc ms free) (entryFrame m args maxL)) : Met l y ws rm Pc Qc mc ms free := by
  refine MetFree.of_bodySF (code := cc) (maxLocals := maxL) (ret := ret) hy ?_ ?_
  · intro args s m h hn
    obtain ⟨meth, c, h1, h2, h3, h4, h5, h6, -, -⟩ := Cond.code_spec hn (atoms_spec (ws := ws) h _ (by rw [hw]; exact List.mem_cons_self))
    exact ⟨meth, c, h1, h2, h3, h4, h5, h6⟩
  · intro p e s m args below meth c s₁ B hml hP _
    have hh0 : s₁.heap = s.heap := by rw [B.state]; rfl
    obtain ⟨t, a1, o, b1, b2, b3⟩ := body p e s m args below meth c s₁ B hml hP s₁ hh0 (Stand.of_body B)
    exact ⟨t, o, a1, b1, b2, ⟨b3.1, b3.2⟩⟩
theorem wpost {D : va_G} {cl : List vw_C} {ws : va_W} {H : Heap} {t : State} (ht : t.heap = H) (hP : va_P D cl ws H) : va_P D cl ws t.heap := by rw [ht]; exact hP
end
section
/-! plain facts on numbers and arrays, to paste: each family by itself; over the kit's rows on nI and upd -/
/-! ===== order of ints, in all its forms, and through longs ===== -/
theorem fa_lt (a b : Int32) : a < b ↔ a.toInt < b.toInt := Int32.lt_iff_toInt_lt
theorem fa_le (a b : Int32) : a ≤ b ↔ a.toInt ≤ b.toInt := Int32.le_iff_toInt_le
theorem fa_eq (a b : Int32) : a = b ↔ a.toInt = b.toInt := Int32.toInt_inj.symm
theorem fa_lt64 (a b : Int64) : a < b ↔ a.toInt < b.toInt := Int64.lt_iff_toInt_lt
theorem fa_le64 (a b : Int64) : a ≤ b ↔ a.toInt ≤ b.toInt := Int64.le_iff_toInt_le
theorem fa_eq64 (a b : Int64) : a = b ↔ a.toInt = b.toInt := Int64.toInt_inj.symm
/-- a comparison of two ints taken as longs -/
theorem fa_wide_lt (a b : Int32) : a.toInt64 < b.toInt64 ↔ a < b := by rw [fa_lt64, fa_lt, Int32.toInt_toInt64, Int32.toInt_toInt64]
theorem fa_wide_le (a b : Int32) : a.toInt64 ≤ b.toInt64 ↔ a ≤ b := by rw [fa_le64, fa_le, Int32.toInt_toInt64, Int32.toInt_toInt64]
theorem fa_wide_eq (a b : Int32) : a.toInt64 = b.toInt64 ↔ a = b := by rw [fa_eq64, fa_eq, Int32.toInt_toInt64, Int32.toInt_toInt64]
/-- one strict comparison gives all the others -/
theorem fa_of_lt {a b : Int32} (h : a < b) : a ≤ b ∧ ¬ b ≤ a ∧ ¬ b < a ∧ a ≠ b ∧ b ≠ a := by
  rw [fa_lt] at h
  refine ⟨?_, ?_, ?_, ?_, ?_⟩
  · rw [fa_le]; omega
  · rw [fa_le]; omega
  · rw [fa_lt]; omega
  · intro e; rw [fa_eq] at e; omega
  · intro e; rw [fa_eq] at e; omega
theorem fa_of_nlt {a b : Int32} (h : ¬ a < b) : b ≤ a := by
  rw [fa_lt] at h
  rw [fa_le]
  omega
theorem fa_of_nle {a b : Int32} (h : ¬ a ≤ b) : b < a := by
  rw [fa_le] at h
  rw [fa_lt]
  omega
theorem fa_le_ne {a b : Int32} (h : a ≤ b) (h2 : a ≠ b) : a < b := by
  rw [fa_le] at h
  rw [fa_lt]
  have h3 : a.toInt ≠ b.toInt := fun e => h2 ((fa_eq a b).mpr e)
  omega
theorem fa_three (a b : Int32) : a < b ∨ a = b ∨ b < a := by
  rw [fa_lt, fa_lt, fa_eq]
  omega
theorem fa_trans {a b c : Int32} (h : a < b) (h2 : b ≤ c) : a < c := by
  rw [fa_lt] at *
  rw [fa_le] at h2
  omega
/-! ===== small literals as numbers ===== -/
theorem fa_lit (n : Nat) : (OfNat.ofNat n : Int32) = nI n := rfl
theorem fa_litL (n : Nat) : (OfNat.ofNat n : Int64) = lN n := rfl
/-! ===== bits of a number: 'or', masks, one bit ===== -/
theorem fa_and (a b : Nat) : nI a &&& nI b = nI (a &&& b) := by
  apply Int32.toBitVec_inj.1
  show BitVec.ofNat 32 a &&& BitVec.ofNat 32 b = BitVec.ofNat 32 (a &&& b)
  apply BitVec.eq_of_getLsbD_eq
  intro i hi
  simp [hi]
theorem fa_or (a b : Nat) : nI a ||| nI b = nI (a ||| b) := by
  apply Int32.toBitVec_inj.1
  show BitVec.ofNat 32 a ||| BitVec.ofNat 32 b = BitVec.ofNat 32 (a ||| b)
  apply BitVec.eq_of_getLsbD_eq
  intro i hi
  simp [hi]
/-- a remainder by a power of two, as a mask -/
theorem fa_mask (n k : Nat) : nI n &&& nI (2 ^ k - 1) = nI (n % 2 ^ k) := by rw [fa_and, Nat.and_two_pow_sub_one_eq_mod]
/-- 'or' of a high part and a low one that don't meet is their sum -/
theorem fa_or_sum {a k : Nat} (b : Nat) (h : a < 2 ^ k) : nI (2 ^ k * b) ||| nI a = nI (2 ^ k * b + a) := by rw [fa_or, Nat.two_pow_add_eq_or_of_lt h]
/-- one bit, by 'and' with a power of two -/
theorem fa_bit {n j : Nat} (hj : j < 31) : nI n &&& nI (2 ^ j) = 0 ↔ n.testBit j = false := by
  have h2 : (2 : Nat) ^ j < 2 ^ 31 := Nat.pow_lt_pow_right (by decide) hj
  have hle : n &&& 2 ^ j ≤ 2 ^ j := Nat.and_le_right
  have e : n &&& 2 ^ j = 0 ↔ n.testBit j = false := by
    constructor
    · intro h
      have h1 : (n &&& 2 ^ j).testBit j = false := by rw [h]; simp
      rw [Nat.testBit_and] at h1
      first | simpa using h1 | simpa [Nat.testBit_two_pow_self] using h1 | simpa [Nat.testBit_two_pow] using h1
    · intro h
      apply Nat.eq_of_testBit_eq
      intro i
      rw [Nat.testBit_and]
      by_cases hi : j = i
      · subst hi; simp [h]
      · first | (simp [Nat.testBit_two_pow, hi]; done) | (simp [Nat.testBit_two_pow_of_ne hi]; done)
  rw [fa_and]
  constructor
  · intro h
    apply e.mp
    rcases Nat.eq_zero_or_pos (n &&& 2 ^ j) with z | z
    · exact z
    · exact absurd h (nI_ne0 z (Nat.lt_of_le_of_lt hle h2))
  · intro h
    rw [e.mpr h]; exact nI_0
/-- a remainder by a power of two of a number that isn't negative, as Java divides -/
theorem fa_rem {a k : Nat} (ha : a < 2 ^ 31) (hk : k < 31) : nI a - nI a / nI (2 ^ k) * nI (2 ^ k) = nI (a % 2 ^ k) := pk_rem ha (Nat.two_pow_pos k) (Nat.pow_lt_pow_right (by decide) hk)
/-! ===== cuts to a byte, a short ===== -/
theorem fa_byte_xor (x y : Int32) : (x ^^^ y).toInt8 = x.toInt8 ^^^ y.toInt8 := by
  apply Int8.toBitVec_inj.1
  apply BitVec.eq_of_getLsbD_eq
  intro i hi
  first | (simp [hi]; done) | (simp [hi, BitVec.getLsbD_setWidth, BitVec.getLsbD_signExtend]; done)
theorem fa_short_xor (x y : Int32) : (x ^^^ y).toInt16 = x.toInt16 ^^^ y.toInt16 := by
  apply Int16.toBitVec_inj.1
  apply BitVec.eq_of_getLsbD_eq
  intro i hi
  first | (simp [hi]; done) | (simp [hi, BitVec.getLsbD_setWidth, BitVec.getLsbD_signExtend]; done)
/-- the cut to a byte sees the low byte alone -/
theorem fa_byte_low (x : Int32) : (x &&& 255).toInt8 = x.toInt8 := by
  apply Int8.toBitVec_inj.1
  apply BitVec.eq_of_getLsbD_eq
  intro i hi
  have h2 : (255 : Int32).toBitVec.getLsbD i = true := by
    have : ∀ j : Fin 8, (255 : Int32).toBitVec.getLsbD j.val = true := by decide +kernel
    exact this ⟨i, hi⟩
  have h4 : (x &&& 255).toBitVec.getLsbD i = x.toBitVec.getLsbD i := by
    show (x.toBitVec &&& (255 : Int32).toBitVec).getLsbD i = _
    rw [BitVec.getLsbD_and, h2, Bool.and_true]
  have h3 : i < 32 := by omega
  first
    | (show (((x &&& 255).toBitVec).signExtend 8).getLsbD i = (x.toBitVec.signExtend 8).getLsbD i; rw [BitVec.getLsbD_signExtend, BitVec.getLsbD_signExtend, if_pos h3, if_pos h3, h4])
    | (show (((x &&& 255).toBitVec).setWidth 8).getLsbD i = (x.toBitVec.setWidth 8).getLsbD i; rw [BitVec.getLsbD_setWidth, BitVec.getLsbD_setWidth, h4])
    | (simp [hi, h3, h4]; done)
theorem fa_short_low (x : Int32) : (x &&& 65535).toInt16 = x.toInt16 := by
  apply Int16.toBitVec_inj.1
  apply BitVec.eq_of_getLsbD_eq
  intro i hi
  have h2 : (65535 : Int32).toBitVec.getLsbD i = true := by
    have : ∀ j : Fin 16, (65535 : Int32).toBitVec.getLsbD j.val = true := by decide +kernel
    exact this ⟨i, hi⟩
  have h4 : (x &&& 65535).toBitVec.getLsbD i = x.toBitVec.getLsbD i := by
    show (x.toBitVec &&& (65535 : Int32).toBitVec).getLsbD i = _
    rw [BitVec.getLsbD_and, h2, Bool.and_true]
  have h3 : i < 32 := by omega
  first
    | (show (((x &&& 65535).toBitVec).signExtend 16).getLsbD i = (x.toBitVec.signExtend 16).getLsbD i; rw [BitVec.getLsbD_signExtend, BitVec.getLsbD_signExtend, if_pos h3, if_pos h3, h4])
    | (show (((x &&& 65535).toBitVec).setWidth 16).getLsbD i = (x.toBitVec.setWidth 16).getLsbD i; rw [BitVec.getLsbD_setWidth, BitVec.getLsbD_setWidth, h4])
    | (simp [hi, h3, h4]; done)
/-- a small number is its own byte, its own short -/
theorem fa_byte_small {n : Nat} (h : n < 128) : (nI n).toInt8.toInt32 = nI n := by
  have : ∀ j : Fin 128, (nI j.val).toInt8.toInt32 = nI j.val := by decide +kernel
  exact this ⟨n, h⟩
/-! ===== absolute difference ===== -/
theorem fa_absdiff {a b : Nat} (ha : a < 2 ^ 31) (hb : b < 2 ^ 31) : (if nI a < nI b then nI b - nI a else nI a - nI b) = nI (if a < b then b - a else a - b) := by
  by_cases h : a < b
  · rw [if_pos (nI_lt h hb), if_pos h]
    exact pk_sub (Nat.le_of_lt h)
  · rw [if_neg (nI_nlt (Nat.le_of_not_lt h) ha), if_neg h]
    exact pk_sub (Nat.le_of_not_lt h)
/-! ===== an array behind i stores, a conditional store, a row copied ===== -/
/-- f where k < i, what stood there else -/
def fa_fill {α : Type} (f g : Nat → α) (i : Nat) : Nat → α := fun k => if k < i then f k else g k
theorem fa_fill_0 {α : Type} (f g : Nat → α) : fa_fill f g 0 = g := funext fun k => if_neg (Nat.not_lt_zero k)
theorem fa_fill_in {α : Type} {f g : Nat → α} {i k : Nat} (h : k < i) : fa_fill f g i k = f k := if_pos h
theorem fa_fill_out {α : Type} {f g : Nat → α} {i k : Nat} (h : i ≤ k) : fa_fill f g i k = g k := if_neg (Nat.not_lt.mpr h)
theorem fa_fill_succ (f g : Nat → Int32) (i : Nat) : upd (fa_fill f g i) i (f i) = fa_fill f g (i + 1) := by
  funext k
  by_cases e : k = i
  · subst e
    rw [pk_us]
    exact (if_pos (Nat.lt_succ_self k)).symm
  · rw [pk_un e]
    by_cases h : k < i
    · rw [fa_fill_in h, fa_fill_in (Nat.lt_succ_of_lt h)]
    · rw [fa_fill_out (Nat.le_of_not_lt h), fa_fill_out (by omega)]
/-- a store that changes nothing -/
theorem fa_upd_same {f : Nat → Int32} {i : Nat} {x : Int32} (h : f i = x) : upd f i x = f := by
  funext k
  by_cases e : k = i
  · subst e
    rw [pk_us, h]
  · rw [pk_un e]
/-- a store under a condition, told as one -/
theorem fa_upd_if (c : Prop) [Decidable c] (f : Nat → Int32) (i : Nat) (x : Int32) : (if c then upd f i x else f) = upd f i (if c then x else f i) := by
  by_cases h : c
  · rw [if_pos h, if_pos h]
  · rw [if_neg h, if_neg h, fa_upd_same rfl]
/-- two stores at one place, at two -/
theorem fa_upd_twice (f : Nat → Int32) (i : Nat) (x y : Int32) : upd (upd f i x) i y = upd f i y := by
  funext k
  by_cases e : k = i
  · subst e
    rw [pk_us, pk_us]
  · rw [pk_un e, pk_un e, pk_un e]
theorem fa_upd_swap (f : Nat → Int32) {i j : Nat} (h : i ≠ j) (x y : Int32) : upd (upd f i x) j y = upd (upd f j y) i x := by
  funext k
  by_cases e : k = i
  · subst e
    rw [pk_un h, pk_us, pk_us]
  · by_cases e2 : k = j
    · subst e2
      rw [pk_us, pk_un e, pk_us]
    · rw [pk_un e2, pk_un e, pk_un e, pk_un e2]
/-! ===== the first index with a property; a count ===== -/
/-- the first k < n with p k, n if there is none -/
def fa_first (p : Nat → Bool) : Nat → Nat
  | 0 => 0
  | n + 1 => if fa_first p n < n then fa_first p n else if p n then n else n + 1
theorem fa_first_le (p : Nat → Bool) : ∀ n, fa_first p n ≤ n
  | 0 => Nat.le_refl 0
  | n + 1 => by
    have ih := fa_first_le p n
    unfold fa_first
    split
    · omega
    · split
      · omega
      · omega
theorem fa_first_no (p : Nat → Bool) : ∀ n k, k < fa_first p n → p k = false
  | 0, k, h => absurd h (Nat.not_lt_zero k)
  | n + 1, k, h => by
    have ih := fa_first_no p n
    have hl := fa_first_le p n
    unfold fa_first at h
    split at h
    · exact ih k h
    · rename_i h1
      split at h
      · exact ih k (by omega)
      · rename_i h2
        by_cases e : k = n
        · subst e
          exact Bool.eq_false_iff.mpr h2
        · exact ih k (by omega)
theorem fa_first_yes (p : Nat → Bool) : ∀ n, fa_first p n < n → p (fa_first p n) = true
  | 0, h => absurd h (Nat.not_lt_zero _)
  | n + 1, h => by
    have ih := fa_first_yes p n
    have hl := fa_first_le p n
    unfold fa_first at h ⊢
    split at h
    · rename_i h1
      rw [if_pos h1]
      exact ih h1
    · rename_i h1
      rw [if_neg h1]
      split at h
      · rename_i h2
        rw [if_pos h2]
        exact h2
      · omega
/-- how many k < n have p k -/
def fa_cnt (p : Nat → Bool) : Nat → Nat
  | 0 => 0
  | n + 1 => fa_cnt p n + if p n then 1 else 0
theorem fa_cnt_le (p : Nat → Bool) : ∀ n, fa_cnt p n ≤ n
  | 0 => Nat.le_refl 0
  | n + 1 => by
    have ih := fa_cnt_le p n
    unfold fa_cnt
    split
    · omega
    · omega
theorem fa_cnt_yes {p : Nat → Bool} {n : Nat} (h : p n = true) : fa_cnt p (n + 1) = fa_cnt p n + 1 := by rw [fa_cnt, if_pos h]
theorem fa_cnt_no {p : Nat → Bool} {n : Nat} (h : p n = false) : fa_cnt p (n + 1) = fa_cnt p n := by rw [fa_cnt, if_neg (by rw [h]; decide)]; rfl
theorem fa_cnt_cong {p q : Nat → Bool} : ∀ {n : Nat}, (∀ k, k < n → p k = q k) → fa_cnt p n = fa_cnt q n
  | 0, _ => rfl
  | n + 1, h => by rw [fa_cnt, fa_cnt, fa_cnt_cong (fun k hk => h k (Nat.lt_succ_of_lt hk)), h n (Nat.lt_succ_self n)]
/-! ===== an answer carried into a post; a branch on a boolean answer ===== -/
theorem fa_post {α : Type} {P : α → Prop} {x y : α} (h : x = y) (hp : P y) : P x := h ▸ hp
theorem fa_post2 {α β : Type} {P : α → β → Prop} {x y : α} {u v : β} (h : x = y) (h2 : u = v) (hp : P y v) : P x u := h ▸ h2 ▸ hp
theorem fa_bool {r : Int32} {b : Bool} (h : r = if b then 1 else 0) : (r = 0 ↔ b = false) ∧ (¬ r = 0 ↔ b = true) := by
  subst h
  cases b
  · exact ⟨⟨fun _ => rfl, fun _ => rfl⟩, ⟨fun h => absurd rfl h, fun h => absurd h (by decide)⟩⟩
  · exact ⟨⟨fun h => absurd h (by decide), fun h => absurd h (by decide)⟩, ⟨fun _ => rfl, fun _ => by decide⟩⟩
/-- a boolean's narrowing changes nothing -/
theorem fa_bool_and {r : Int32} (h : r = 0 ∨ r = 1) : r &&& 1 = r := by
  rcases h with rfl | rfl
  · decide
  · decide
theorem fa_bool_prop {c : Prop} [Decidable c] {r : Int32} (h : r = if c then 1 else 0) : (r = 0 ↔ ¬ c) ∧ (¬ r = 0 ↔ c) := by
  subst h
  by_cases hc : c
  · rw [if_pos hc]
    exact ⟨⟨fun h => absurd h (by decide), fun h => absurd hc h⟩, ⟨fun _ => hc, fun _ => by decide⟩⟩
  · rw [if_neg hc]
    exact ⟨⟨fun _ => hc, fun _ => rfl⟩, ⟨fun h => absurd rfl h, fun h => absurd h hc⟩⟩
end
section
/-! plain facts to paste, each family by itself; over the kit's nI, lN and upd -/
/-! ===== drawers: more things than places ===== -/
theorem fb_holes : ∀ (m n : Nat) (f : Nat → Nat), (∀ i, i < n → f i < m) → (∀ i j, i < j → j < n → f i ≠ f j) → n ≤ m := by
  intro m
  induction m with
  | zero =>
    intro n f h1 _
    rcases Nat.eq_zero_or_pos n with h | h
    · omega
    · exact absurd (h1 0 h) (Nat.not_lt_zero _)
  | succ m ih =>
    intro n f h1 h2
    by_cases hx : ∃ i, i < n ∧ f i = m
    · obtain ⟨a, ha, hfa⟩ := hx
      have hg := ih (n - 1) (fun i => if i < a then f i else f (i + 1)) (by
        intro i hi
        by_cases q : i < a
        · simp only [if_pos q]
          have b1 := h1 i (by omega)
          have b2 := h2 i a q ha
          omega
        · simp only [if_neg q]
          have b1 := h1 (i + 1) (by omega)
          have b2 := h2 a (i + 1) (by omega) (by omega)
          omega) (by
        intro i j hij hj
        by_cases q : i < a
        · by_cases r : j < a
          · simp only [if_pos q, if_pos r]
            exact h2 i j hij (by omega)
          · simp only [if_pos q, if_neg r]
            exact h2 i (j + 1) (by omega) (by omega)
        · have r : ¬ j < a := by omega
          simp only [if_neg q, if_neg r]
          exact h2 (i + 1) (j + 1) (by omega) (by omega))
      omega
    · have hg := ih n f (fun i hi => by
        have b1 := h1 i hi
        have b2 : f i ≠ m := fun e => hx ⟨i, hi, e⟩
        omega) h2
      omega
/-- two of them in one place -/
theorem fb_twice {m n : Nat} {f : Nat → Nat} (h : ∀ i, i < n → f i < m) (hm : m < n) : ∃ i j, i < j ∧ j < n ∧ f i = f j := by
  refine Classical.byContradiction fun hx => ?_
  have := fb_holes m n f h (fun i j hij hj e => hx ⟨i, j, hij, hj, e⟩)
  omega
/-- as many as places, none twice: each place is taken -/
theorem fb_onto {n : Nat} {f : Nat → Nat} (h : ∀ i, i < n → f i < n) (h2 : ∀ i j, i < j → j < n → f i ≠ f j) {y : Nat} (hy : y < n) : ∃ i, i < n ∧ f i = y := by
  refine Classical.byContradiction fun hx => ?_
  have hne : ∀ i, i < n → f i ≠ y := fun i hi e => hx ⟨i, hi, e⟩
  have := fb_holes (n - 1) n (fun i => if f i < y then f i else f i - 1) (by
    intro i hi
    have b1 := h i hi
    have b2 := hne i hi
    by_cases q : f i < y
    · simp only [if_pos q]; omega
    · simp only [if_neg q]; omega) (by
    intro i j hij hj
    have b1 := hne i (by omega)
    have b2 := hne j hj
    have b3 := h2 i j hij hj
    by_cases q : f i < y
    · by_cases r : f j < y
      · simp only [if_pos q, if_pos r]; exact b3
      · simp only [if_pos q, if_neg r]; omega
    · by_cases r : f j < y
      · simp only [if_neg q, if_pos r]; omega
      · simp only [if_neg q, if_neg r]; omega)
  omega
/-! ===== how many places have a property ===== -/
def fb_ct (p : Nat → Bool) : Nat → Nat
  | 0 => 0
  | n + 1 => fb_ct p n + (if p n then 1 else 0)
theorem fb_ct_succ (p : Nat → Bool) (n : Nat) : fb_ct p (n + 1) = fb_ct p n + (if p n then 1 else 0) := rfl
theorem fb_ct_le (p : Nat → Bool) : ∀ n, fb_ct p n ≤ n
  | 0 => Nat.le_refl _
  | n + 1 => by
    have h := fb_ct_le p n
    rw [fb_ct_succ]
    split <;> omega
theorem fb_ct_step (p : Nat → Bool) (m : Nat) : ∀ n, fb_ct p m ≤ fb_ct p (m + n)
  | 0 => Nat.le_refl _
  | n + 1 => by
    have h := fb_ct_step p m n
    show fb_ct p m ≤ fb_ct p (m + n + 1)
    rw [fb_ct_succ]
    omega
theorem fb_ct_mono (p : Nat → Bool) {m n : Nat} (h : m ≤ n) : fb_ct p m ≤ fb_ct p n := by
  have := fb_ct_step p m (n - m)
  rwa [Nat.add_sub_cancel' h] at this
theorem fb_ct_cong {p q : Nat → Bool} : ∀ {n : Nat}, (∀ k, k < n → p k = q k) → fb_ct p n = fb_ct q n
  | 0, _ => rfl
  | n + 1, h => by
    rw [fb_ct_succ, fb_ct_succ, fb_ct_cong (fun k hk => h k (by omega)), h n (by omega)]
/-- one place changed -/
theorem fb_ct_out (p : Nat → Bool) (b : Bool) {i n : Nat} (h : n ≤ i) : fb_ct (fun k => if k = i then b else p k) n = fb_ct p n :=
  fb_ct_cong fun k hk => if_neg (by omega)
theorem fb_ct_upd (p : Nat → Bool) (b : Bool) {i : Nat} : ∀ {n : Nat}, i < n → fb_ct (fun k => if k = i then b else p k) n + (if p i then 1 else 0) = fb_ct p n + (if b then 1 else 0)
  | 0, h => absurd h (Nat.not_lt_zero i)
  | n + 1, h => by
    rw [fb_ct_succ, fb_ct_succ]
    rcases Nat.lt_or_ge i n with q | q
    · have := fb_ct_upd p b q
      have e : (if n = i then b else p n) = p n := if_neg (by omega)
      rw [e]
      omega
    · have e : i = n := by omega
      subst e
      rw [fb_ct_out p b (Nat.le_refl _)]
      simp only [if_true]
      omega
theorem fb_ct_sub {p q : Nat → Bool} : ∀ {n : Nat}, (∀ k, k < n → p k = true → q k = true) → fb_ct p n ≤ fb_ct q n
  | 0, _ => Nat.le_refl _
  | n + 1, h => by
    have h1 := fb_ct_sub (n := n) (p := p) (q := q) (fun k hk => h k (by omega))
    have h2 := h n (by omega)
    rw [fb_ct_succ, fb_ct_succ]
    cases hp : p n <;> cases hq : q n <;> simp_all <;> omega
theorem fb_ct_or {p q : Nat → Bool} : ∀ {n : Nat}, (∀ k, k < n → ¬ (p k = true ∧ q k = true)) → fb_ct (fun k => p k || q k) n = fb_ct p n + fb_ct q n
  | 0, _ => rfl
  | n + 1, h => by
    have h1 := fb_ct_or (n := n) (p := p) (q := q) (fun k hk => h k (by omega))
    have h2 := h n (by omega)
    rw [fb_ct_succ, fb_ct_succ, fb_ct_succ, h1]
    cases hp : p n <;> cases hq : q n <;> simp_all <;> omega
theorem fb_ct_not (p : Nat → Bool) : ∀ n, fb_ct p n + fb_ct (fun k => !p k) n = n
  | 0 => rfl
  | n + 1 => by
    have h := fb_ct_not p n
    rw [fb_ct_succ, fb_ct_succ]
    cases p n <;> simp <;> omega
theorem fb_ct_split (p : Nat → Bool) (m : Nat) : ∀ n, fb_ct p (m + n) = fb_ct p m + fb_ct (fun k => p (m + k)) n
  | 0 => rfl
  | n + 1 => by
    have h := fb_ct_split p m n
    show fb_ct p (m + n + 1) = _
    rw [fb_ct_succ, fb_ct_succ, h, Nat.add_assoc]
theorem fb_ct_zero {p : Nat → Bool} : ∀ {n : Nat}, fb_ct p n = 0 ↔ ∀ k, k < n → p k = false
  | 0 => ⟨fun _ k hk => absurd hk (Nat.not_lt_zero k), fun _ => rfl⟩
  | n + 1 => by
    have h := fb_ct_zero (p := p) (n := n)
    rw [fb_ct_succ]
    constructor
    · intro e k hk
      have e1 : fb_ct p n = 0 := by omega
      rcases Nat.lt_or_ge k n with q | q
      · exact h.mp e1 k q
      · have ek : k = n := by omega
        subst ek
        cases hp : p k
        · rfl
        · simp [hp] at e
    · intro a
      rw [h.mpr (fun k hk => a k (by omega)), a n (by omega)]
      rfl
theorem fb_ct_pos {p : Nat → Bool} {n : Nat} : 0 < fb_ct p n ↔ ∃ k, k < n ∧ p k = true := by
  constructor
  · intro h
    refine Classical.byContradiction fun hx => ?_
    have := fb_ct_zero.mpr (fun k hk => by
      cases hp : p k
      · rfl
      · exact absurd ⟨k, hk, hp⟩ hx : ∀ k, k < n → p k = false)
    omega
  · rintro ⟨k, hk, hp⟩
    rcases Nat.eq_zero_or_pos (fb_ct p n) with e | e
    · have := fb_ct_zero.mp e k hk
      rw [this] at hp
      cases hp
    · exact e
theorem fb_ct_all {p : Nat → Bool} {n : Nat} : fb_ct p n = n ↔ ∀ k, k < n → p k = true := by
  have h := fb_ct_not p n
  constructor
  · intro e k hk
    have z : fb_ct (fun k => !p k) n = 0 := by omega
    have := fb_ct_zero.mp z k hk
    cases hp : p k
    · simp [hp] at this
    · rfl
  · intro a
    have z : fb_ct (fun k => !p k) n = 0 := fb_ct_zero.mpr (fun k hk => by simp [a k hk])
    omega
/-- the k-th place with the property -/
theorem fb_ct_kth {p : Nat → Bool} {k : Nat} : ∀ {n : Nat}, k < fb_ct p n → ∃ i, i < n ∧ p i = true ∧ fb_ct p i = k
  | 0, h => absurd h (Nat.not_lt_zero k)
  | n + 1, h => by
    rcases Nat.lt_or_ge k (fb_ct p n) with q | q
    · obtain ⟨i, h1, h2⟩ := fb_ct_kth q
      exact ⟨i, by omega, h2⟩
    · rw [fb_ct_succ] at h
      cases hp : p n
      · simp [hp] at h; omega
      · simp [hp] at h
        exact ⟨n, by omega, hp, by omega⟩
theorem fb_ct_kth_one {p : Nat → Bool} {i j : Nat} (hi : p i = true) (hj : p j = true) (e : fb_ct p i = fb_ct p j) : i = j := by
  have key : ∀ a b : Nat, a < b → p a = true → fb_ct p a < fb_ct p b := by
    intro a b hab ha
    have h := fb_ct_mono p (show a + 1 ≤ b from hab)
    rw [fb_ct_succ, ha] at h
    simp at h
    omega
  rcases Nat.lt_trichotomy i j with q | q | q
  · have := key i j q hi; omega
  · exact q
  · have := key j i q hj; omega
/-! ===== sums over a range: one place changed, parts, bounds ===== -/
def fb_sm (f : Nat → Nat) : Nat → Nat
  | 0 => 0
  | n + 1 => fb_sm f n + f n
theorem fb_sm_succ (f : Nat → Nat) (n : Nat) : fb_sm f (n + 1) = fb_sm f n + f n := rfl
theorem fb_sm_cong {f g : Nat → Nat} : ∀ {n : Nat}, (∀ k, k < n → f k = g k) → fb_sm f n = fb_sm g n
  | 0, _ => rfl
  | n + 1, h => by rw [fb_sm_succ, fb_sm_succ, fb_sm_cong (fun k hk => h k (by omega)), h n (by omega)]
theorem fb_sm_out (f : Nat → Nat) (v : Nat) {i n : Nat} (h : n ≤ i) : fb_sm (fun k => if k = i then v else f k) n = fb_sm f n :=
  fb_sm_cong fun k hk => if_neg (by omega)
theorem fb_sm_upd (f : Nat → Nat) (v : Nat) {i : Nat} : ∀ {n : Nat}, i < n → fb_sm (fun k => if k = i then v else f k) n + f i = fb_sm f n + v
  | 0, h => absurd h (Nat.not_lt_zero i)
  | n + 1, h => by
    rw [fb_sm_succ, fb_sm_succ]
    rcases Nat.lt_or_ge i n with q | q
    · have := fb_sm_upd f v q
      have e : (if n = i then v else f n) = f n := if_neg (by omega)
      rw [e]
      omega
    · have e : i = n := by omega
      subst e
      rw [fb_sm_out f v (Nat.le_refl _)]
      simp only [if_true]
      omega
theorem fb_sm_add (f g : Nat → Nat) : ∀ n, fb_sm (fun k => f k + g k) n = fb_sm f n + fb_sm g n
  | 0 => rfl
  | n + 1 => by
    have h := fb_sm_add f g n
    rw [fb_sm_succ, fb_sm_succ, fb_sm_succ, h]
    omega
theorem fb_sm_le {f g : Nat → Nat} : ∀ {n : Nat}, (∀ k, k < n → f k ≤ g k) → fb_sm f n ≤ fb_sm g n
  | 0, _ => Nat.le_refl _
  | n + 1, h => by
    have h1 := fb_sm_le (n := n) (f := f) (g := g) (fun k hk => h k (by omega))
    have h2 := h n (by omega)
    rw [fb_sm_succ, fb_sm_succ]
    omega
theorem fb_sm_const (c : Nat) : ∀ n, fb_sm (fun _ => c) n = n * c
  | 0 => by rw [Nat.zero_mul]; rfl
  | n + 1 => by rw [fb_sm_succ, fb_sm_const c n, Nat.succ_mul]
theorem fb_sm_bound {f : Nat → Nat} {c n : Nat} (h : ∀ k, k < n → f k ≤ c) : fb_sm f n ≤ n * c := by
  rw [← fb_sm_const c n]
  exact fb_sm_le h
theorem fb_sm_mono (f : Nat → Nat) (m : Nat) : ∀ n, fb_sm f m ≤ fb_sm f (m + n)
  | 0 => Nat.le_refl _
  | n + 1 => by
    have h := fb_sm_mono f m n
    show fb_sm f m ≤ fb_sm f (m + n + 1)
    rw [fb_sm_succ]
    omega
theorem fb_sm_part (f : Nat → Nat) {i n : Nat} (h : i < n) : fb_sm f i + f i ≤ fb_sm f n := by
  have := fb_sm_mono f (i + 1) (n - (i + 1))
  rw [fb_sm_succ, show i + 1 + (n - (i + 1)) = n by omega] at this
  exact this
theorem fb_sm_split (f : Nat → Nat) (m : Nat) : ∀ n, fb_sm f (m + n) = fb_sm f m + fb_sm (fun k => f (m + k)) n
  | 0 => rfl
  | n + 1 => by
    have h := fb_sm_split f m n
    show fb_sm f (m + n + 1) = _
    rw [fb_sm_succ, fb_sm_succ, h, Nat.add_assoc]
theorem fb_sm_zero {f : Nat → Nat} {n : Nat} (h : fb_sm f n = 0) : ∀ k, k < n → f k = 0 := fun k hk => by
  have := fb_sm_part f hk
  omega
/-- the same over whole numbers -/
def fb_si (f : Nat → Int) : Nat → Int
  | 0 => 0
  | n + 1 => fb_si f n + f n
theorem fb_si_succ (f : Nat → Int) (n : Nat) : fb_si f (n + 1) = fb_si f n + f n := rfl
theorem fb_si_cong {f g : Nat → Int} : ∀ {n : Nat}, (∀ k, k < n → f k = g k) → fb_si f n = fb_si g n
  | 0, _ => rfl
  | n + 1, h => by rw [fb_si_succ, fb_si_succ, fb_si_cong (fun k hk => h k (by omega)), h n (by omega)]
theorem fb_si_out (f : Nat → Int) (v : Int) {i n : Nat} (h : n ≤ i) : fb_si (fun k => if k = i then v else f k) n = fb_si f n :=
  fb_si_cong fun k hk => if_neg (by omega)
theorem fb_si_upd (f : Nat → Int) (v : Int) {i : Nat} : ∀ {n : Nat}, i < n → fb_si (fun k => if k = i then v else f k) n = fb_si f n - f i + v
  | 0, h => absurd h (Nat.not_lt_zero i)
  | n + 1, h => by
    rw [fb_si_succ, fb_si_succ]
    rcases Nat.lt_or_ge i n with q | q
    · have := fb_si_upd f v q
      have e : (if n = i then v else f n) = f n := if_neg (by omega)
      rw [e]
      omega
    · have e : i = n := by omega
      subst e
      rw [fb_si_out f v (Nat.le_refl _)]
      simp only [if_true]
      omega
theorem fb_si_add (f g : Nat → Int) : ∀ n, fb_si (fun k => f k + g k) n = fb_si f n + fb_si g n
  | 0 => rfl
  | n + 1 => by
    have h := fb_si_add f g n
    rw [fb_si_succ, fb_si_succ, fb_si_succ, h]
    omega
theorem fb_si_sub (f g : Nat → Int) : ∀ n, fb_si (fun k => f k - g k) n = fb_si f n - fb_si g n
  | 0 => rfl
  | n + 1 => by
    have h := fb_si_sub f g n
    rw [fb_si_succ, fb_si_succ, fb_si_succ, h]
    omega
theorem fb_si_mul (c : Int) (f : Nat → Int) : ∀ n, fb_si (fun k => c * f k) n = c * fb_si f n
  | 0 => (Int.mul_zero c).symm
  | n + 1 => by
    have h := fb_si_mul c f n
    rw [fb_si_succ, fb_si_succ, h, Int.mul_add]
theorem fb_si_split (f : Nat → Int) (m : Nat) : ∀ n, fb_si f (m + n) = fb_si f m + fb_si (fun k => f (m + k)) n
  | 0 => (Int.add_zero _).symm
  | n + 1 => by
    have h := fb_si_split f m n
    show fb_si f (m + n + 1) = _
    rw [fb_si_succ, fb_si_succ, h, Int.add_assoc]
theorem fb_si_nat (f : Nat → Nat) : ∀ n, fb_si (fun k => (f k : Int)) n = (fb_sm f n : Int)
  | 0 => rfl
  | n + 1 => by
    have h := fb_si_nat f n
    rw [fb_si_succ, fb_sm_succ, h]
    omega
theorem fb_si_bound {f : Nat → Int} {c : Int} (hc : 0 ≤ c) : ∀ {n : Nat}, (∀ k, k < n → -c ≤ f k ∧ f k ≤ c) → -(n * c) ≤ fb_si f n ∧ fb_si f n ≤ n * c
  | 0, _ => by simp [fb_si]
  | n + 1, h => by
    have h1 := fb_si_bound (n := n) (f := f) hc (fun k hk => h k (by omega))
    have h2 := h n (by omega)
    have e : ((n + 1 : Nat) : Int) * c = n * c + c := by rw [Int.natCast_add, Int.add_mul]; simp
    rw [fb_si_succ, e]
    omega
/-! ===== bits of a long that isn't negative ===== -/
theorem fb_andL (a b : Nat) : lN a &&& lN b = lN (a &&& b) := by
  apply Int64.toBitVec_inj.1
  show BitVec.ofNat 64 a &&& BitVec.ofNat 64 b = BitVec.ofNat 64 (a &&& b)
  apply BitVec.eq_of_getLsbD_eq
  intro i hi
  simp [hi]
theorem fb_orL (a b : Nat) : lN a ||| lN b = lN (a ||| b) := by
  apply Int64.toBitVec_inj.1
  show BitVec.ofNat 64 a ||| BitVec.ofNat 64 b = BitVec.ofNat 64 (a ||| b)
  apply BitVec.eq_of_getLsbD_eq
  intro i hi
  simp [hi]
theorem fb_xorL (a b : Nat) : lN a ^^^ lN b = lN (a ^^^ b) := by
  apply Int64.toBitVec_inj.1
  show BitVec.ofNat 64 a ^^^ BitVec.ofNat 64 b = BitVec.ofNat 64 (a ^^^ b)
  apply BitVec.eq_of_getLsbD_eq
  intro i hi
  simp [hi]
theorem fb_xorI (a b : Nat) : nI a ^^^ nI b = nI (a ^^^ b) := by
  apply Int32.toBitVec_inj.1
  show BitVec.ofNat 32 a ^^^ BitVec.ofNat 32 b = BitVec.ofNat 32 (a ^^^ b)
  apply BitVec.eq_of_getLsbD_eq
  intro i hi
  simp [hi]
theorem fb_maskL (n k : Nat) : lN n &&& lN (2 ^ k - 1) = lN (n % 2 ^ k) := by rw [fb_andL, Nat.and_two_pow_sub_one_eq_mod]
theorem fb_or_sumL {a k : Nat} (b : Nat) (h : a < 2 ^ k) : lN (2 ^ k * b) ||| lN a = lN (2 ^ k * b + a) := by rw [fb_orL, Nat.two_pow_add_eq_or_of_lt h]
theorem fb_lN_inj {a b : Nat} (ha : a < 2 ^ 63) (hb : b < 2 ^ 63) : lN a = lN b ↔ a = b := by
  constructor
  · intro h
    have h1 : (BitVec.ofNat 64 a).toNat = (BitVec.ofNat 64 b).toNat := congrArg (fun x : Int64 => x.toBitVec.toNat) h
    rw [BitVec.toNat_ofNat, BitVec.toNat_ofNat, Nat.mod_eq_of_lt (by omega), Nat.mod_eq_of_lt (by omega)] at h1
    exact h1
  · rintro rfl; rfl
theorem fb_bit_nat (n j : Nat) : n &&& 2 ^ j = 0 ↔ n.testBit j = false := by
  constructor
  · intro h
    have h1 : (n &&& 2 ^ j).testBit j = false := by rw [h]; simp
    rw [Nat.testBit_and] at h1
    simpa using h1
  · intro h
    apply Nat.eq_of_testBit_eq
    intro i
    rw [Nat.testBit_and]
    by_cases hi : j = i
    · subst hi; simp [h]
    · first | (simp [Nat.testBit_two_pow, hi]; done) | (simp [Nat.testBit_two_pow_of_ne hi]; done)
/-- one bit of a long -/
theorem fb_bitL {n j : Nat} (hj : j < 63) : lN n &&& lN (2 ^ j) = 0 ↔ n.testBit j = false := by
  have h2 : (2 : Nat) ^ j < 2 ^ 63 := Nat.pow_lt_pow_right (by decide) hj
  have hle : n &&& 2 ^ j ≤ 2 ^ j := Nat.and_le_right
  rw [fb_andL, ← fb_bit_nat, show (0 : Int64) = lN 0 from rfl]
  exact fb_lN_inj (by omega) (by decide)
/-- a bit set, a bit taken off -/
theorem fb_bit_set (n j i : Nat) : (n ||| 2 ^ j).testBit i = (n.testBit i || decide (i = j)) := by
  rw [Nat.testBit_or]
  by_cases h : j = i
  · subst h; simp
  · have h2 : ¬ i = j := fun e => h e.symm
    first | (simp [Nat.testBit_two_pow, h, h2]; done) | (simp [Nat.testBit_two_pow_of_ne h, h2]; done)
theorem fb_bit_flip (n j i : Nat) : (n ^^^ 2 ^ j).testBit i = (n.testBit i ^^ decide (i = j)) := by
  rw [Nat.testBit_xor]
  by_cases h : j = i
  · subst h; simp
  · have h2 : ¬ i = j := fun e => h e.symm
    first | (simp [Nat.testBit_two_pow, h, h2]; done) | (simp [Nat.testBit_two_pow_of_ne h, h2]; done)
/-! ===== a stretch of an array written over by a function ===== -/
def fb_put {α : Type} (f g : Nat → α) (a n : Nat) : Nat → α := fun k => if a ≤ k ∧ k < a + n then g (k - a) else f k
theorem fb_put_0 {α : Type} (f g : Nat → α) (a : Nat) : fb_put f g a 0 = f := funext fun k => if_neg (by omega)
theorem fb_put_in {α : Type} {f g : Nat → α} {a n k : Nat} (h1 : a ≤ k) (h2 : k < a + n) : fb_put f g a n k = g (k - a) := if_pos ⟨h1, h2⟩
theorem fb_put_out {α : Type} {f g : Nat → α} {a n k : Nat} (h : k < a ∨ a + n ≤ k) : fb_put f g a n k = f k := if_neg (by omega)
theorem fb_put_succ (f g : Nat → Int32) (a n : Nat) : upd (fb_put f g a n) (a + n) (g n) = fb_put f g a (n + 1) := by
  funext k
  by_cases h : k = a + n
  · subst h
    simp [upd, fb_put]
  · by_cases h1 : a ≤ k ∧ k < a + n
    · have h2 : a ≤ k ∧ k < a + (n + 1) := by omega
      simp only [upd, fb_put, if_neg h, if_pos h1, if_pos h2]
    · have h2 : ¬ (a ≤ k ∧ k < a + (n + 1)) := by omega
      simp only [upd, fb_put, if_neg h, if_neg h1, if_neg h2]
/-- .. from the far end down -/
theorem fb_put_down (f g : Nat → Int32) {a n m : Nat} (h : m < n) : upd (fb_put f (fun k => g (k + (m + 1))) (a + (m + 1)) (n - (m + 1))) (a + m) (g m) = fb_put f (fun k => g (k + m)) (a + m) (n - m) := by
  funext k
  by_cases h0 : k = a + m
  · subst h0
    simp only [upd, if_true]
    rw [fb_put_in (by omega) (by omega)]
    exact congrArg g (by omega)
  · simp only [upd, if_neg h0]
    by_cases h1 : a + (m + 1) ≤ k ∧ k < a + (m + 1) + (n - (m + 1))
    · rw [fb_put_in h1.1 h1.2, fb_put_in (by omega) (by omega)]
      exact congrArg g (by omega)
    · rw [fb_put_out (by omega), fb_put_out (by omega)]
theorem fb_put_cong {α : Type} {f f2 g g2 : Nat → α} {a n : Nat} (hf : ∀ k, (k < a ∨ a + n ≤ k) → f k = f2 k) (hg : ∀ k, k < n → g k = g2 k) : fb_put f g a n = fb_put f2 g2 a n := by
  funext k
  by_cases h : a ≤ k ∧ k < a + n
  · rw [fb_put_in h.1 h.2, fb_put_in h.1 h.2, hg _ (by omega)]
  · rw [fb_put_out (by omega), fb_put_out (by omega), hf _ (by omega)]
/-! ===== the least, the first, the best so far; that there is one alone ===== -/
theorem fb_first {p : Nat → Prop} [DecidablePred p] : ∀ {n : Nat}, (∃ i, i < n ∧ p i) → ∃ i, i < n ∧ p i ∧ ∀ j, j < i → ¬ p j
  | 0, h => by obtain ⟨i, hi, -⟩ := h; exact absurd hi (Nat.not_lt_zero i)
  | n + 1, h => by
    by_cases q : ∃ i, i < n ∧ p i
    · obtain ⟨i, h1, h2⟩ := fb_first q
      exact ⟨i, by omega, h2⟩
    · obtain ⟨i, h1, h2⟩ := h
      have e : i = n := by
        rcases Nat.lt_or_ge i n with r | r
        · exact absurd ⟨i, r, h2⟩ q
        · omega
      subst e
      exact ⟨i, by omega, h2, fun j hj hp => q ⟨j, hj, hp⟩⟩
theorem fb_first_one {p : Nat → Prop} {i j : Nat} (hi : p i) (hi2 : ∀ k, k < i → ¬ p k) (hj : p j) (hj2 : ∀ k, k < j → ¬ p k) : i = j := by
  rcases Nat.lt_trichotomy i j with q | q | q
  · exact absurd hi (hj2 i q)
  · exact q
  · exact absurd hj (hi2 j q)
theorem fb_last {p : Nat → Prop} [DecidablePred p] : ∀ {n : Nat}, (∃ i, i < n ∧ p i) → ∃ i, i < n ∧ p i ∧ ∀ j, i < j → j < n → ¬ p j
  | 0, h => by obtain ⟨i, hi, -⟩ := h; exact absurd hi (Nat.not_lt_zero i)
  | n + 1, h => by
    by_cases q : p n
    · exact ⟨n, by omega, q, fun j h1 h2 => by omega⟩
    · obtain ⟨i, h1, h2⟩ := h
      have hi : i < n := by
        rcases Nat.lt_or_ge i n with r | r
        · exact r
        · have e : i = n := by omega
          subst e
          exact absurd h2 q
      obtain ⟨i2, a1, a2, a3⟩ := fb_last (n := n) ⟨i, hi, h2⟩
      refine ⟨i2, by omega, a2, fun j b1 b2 => ?_⟩
      rcases Nat.lt_or_ge j n with r | r
      · exact a3 j b1 r
      · have e : j = n := by omega
        subst e
        exact q
/-- the first greatest -/
theorem fb_best (f : Nat → Int) : ∀ {n : Nat}, 0 < n → ∃ i, i < n ∧ (∀ j, j < n → f j ≤ f i) ∧ ∀ j, j < i → f j < f i
  | 0, h => absurd h (Nat.lt_irrefl 0)
  | 1, _ => ⟨0, by omega, fun j hj => by have e : j = 0 := by omega
                                         subst e; exact Int.le_refl _, fun j hj => absurd hj (Nat.not_lt_zero j)⟩
  | n + 2, _ => by
    obtain ⟨i, h1, h2, h3⟩ := fb_best f (n := n + 1) (by omega)
    by_cases q : f i < f (n + 1)
    · refine ⟨n + 1, by omega, fun j hj => ?_, fun j hj => ?_⟩
      · rcases Nat.lt_or_ge j (n + 1) with r | r
        · have := h2 j r; omega
        · have e : j = n + 1 := by omega
          subst e; exact Int.le_refl _
      · have := h2 j hj; omega
    · refine ⟨i, by omega, fun j hj => ?_, h3⟩
      rcases Nat.lt_or_ge j (n + 1) with r | r
      · exact h2 j r
      · have e : j = n + 1 := by omega
        subst e; omega
theorem fb_best_one {f : Nat → Int} {n i j : Nat} (hi : i < n) (hi2 : ∀ k, k < n → f k ≤ f i) (hi3 : ∀ k, k < i → f k < f i) (hj : j < n) (hj2 : ∀ k, k < n → f k ≤ f j) (hj3 : ∀ k, k < j → f k < f j) : i = j := by
  rcases Nat.lt_trichotomy i j with q | q | q
  · have a := hj3 i q
    have b := hi2 j hj
    omega
  · exact q
  · have a := hi3 j q
    have b := hj2 i hi
    omega
/-- the first least -/
theorem fb_low (f : Nat → Int) {n : Nat} (h : 0 < n) : ∃ i, i < n ∧ (∀ j, j < n → f i ≤ f j) ∧ ∀ j, j < i → f i < f j := by
  obtain ⟨i, h1, h2, h3⟩ := fb_best (fun k => -f k) h
  exact ⟨i, h1, fun j hj => by have := h2 j hj; omega, fun j hj => by have := h3 j hj; omega⟩
/-! ===== signed ints as whole numbers, within bounds ===== -/
theorem fb_rng (x : Int32) : -2147483648 ≤ x.toInt ∧ x.toInt < 2147483648 := by
  have h1 := Int32.le_toInt x
  have h2 := Int32.toInt_lt x
  omega
theorem fb_bmod {z : Int} (h1 : -2147483648 ≤ z) (h2 : z < 2147483648) : z.bmod (2 ^ 32) = z := by
  rw [Int.bmod_eq_of_le (by omega) (by omega)]
theorem fb_addI {x y : Int32} (h1 : -2147483648 ≤ x.toInt + y.toInt) (h2 : x.toInt + y.toInt < 2147483648) : (x + y).toInt = x.toInt + y.toInt := by
  rw [Int32.toInt_add, fb_bmod h1 h2]
theorem fb_subI {x y : Int32} (h1 : -2147483648 ≤ x.toInt - y.toInt) (h2 : x.toInt - y.toInt < 2147483648) : (x - y).toInt = x.toInt - y.toInt := by
  rw [Int32.toInt_sub, fb_bmod h1 h2]
theorem fb_mulI {x y : Int32} (h1 : -2147483648 ≤ x.toInt * y.toInt) (h2 : x.toInt * y.toInt < 2147483648) : (x * y).toInt = x.toInt * y.toInt := by
  rw [Int32.toInt_mul, fb_bmod h1 h2]
theorem fb_negI {x : Int32} (h : x.toInt ≠ -2147483648) : (-x).toInt = -x.toInt := by
  have := fb_rng x
  rw [Int32.toInt_neg, fb_bmod (by omega) (by omega)]
theorem fb_ofI {z : Int} (h1 : -2147483648 ≤ z) (h2 : z < 2147483648) : (Int32.ofInt z).toInt = z := by
  rw [Int32.toInt_ofInt, fb_bmod h1 h2]
theorem fb_asI (x : Int32) : Int32.ofInt x.toInt = x := Int32.ofInt_toInt x
theorem fb_rngL (x : Int64) : -9223372036854775808 ≤ x.toInt ∧ x.toInt < 9223372036854775808 := by
  have h1 := Int64.le_toInt x
  have h2 := Int64.toInt_lt x
  omega
theorem fb_bmodL {z : Int} (h1 : -9223372036854775808 ≤ z) (h2 : z < 9223372036854775808) : z.bmod (2 ^ 64) = z := by
  rw [Int.bmod_eq_of_le (by omega) (by omega)]
theorem fb_addL {x y : Int64} (h1 : -9223372036854775808 ≤ x.toInt + y.toInt) (h2 : x.toInt + y.toInt < 9223372036854775808) : (x + y).toInt = x.toInt + y.toInt := by
  rw [Int64.toInt_add, fb_bmodL h1 h2]
theorem fb_subL {x y : Int64} (h1 : -9223372036854775808 ≤ x.toInt - y.toInt) (h2 : x.toInt - y.toInt < 9223372036854775808) : (x - y).toInt = x.toInt - y.toInt := by
  rw [Int64.toInt_sub, fb_bmodL h1 h2]
theorem fb_mulL {x y : Int64} (h1 : -9223372036854775808 ≤ x.toInt * y.toInt) (h2 : x.toInt * y.toInt < 9223372036854775808) : (x * y).toInt = x.toInt * y.toInt := by
  rw [Int64.toInt_mul, fb_bmodL h1 h2]
/-! ===== cuts of what is narrow already ===== -/
theorem fb_byte {x : Int32} (h1 : -128 ≤ x.toInt) (h2 : x.toInt < 128) : x.toInt8.toInt32 = x := by
  apply Int32.toInt_inj.1
  rw [Int8.toInt_toInt32, Int32.toInt_toInt8, Int.bmod_eq_of_le (by omega) (by omega)]
theorem fb_short {x : Int32} (h1 : -32768 ≤ x.toInt) (h2 : x.toInt < 32768) : x.toInt16.toInt32 = x := by
  apply Int32.toInt_inj.1
  rw [Int16.toInt_toInt32, Int32.toInt_toInt16, Int.bmod_eq_of_le (by omega) (by omega)]
theorem fb_byte_rng (x : Int32) : -128 ≤ x.toInt8.toInt32.toInt ∧ x.toInt8.toInt32.toInt < 128 := by
  rw [Int8.toInt_toInt32]
  have h1 := Int8.le_toInt x.toInt8
  have h2 := Int8.toInt_lt x.toInt8
  omega
theorem fb_short_rng (x : Int32) : -32768 ≤ x.toInt16.toInt32.toInt ∧ x.toInt16.toInt32.toInt < 32768 := by
  rw [Int16.toInt_toInt32]
  have h1 := Int16.le_toInt x.toInt16
  have h2 := Int16.toInt_lt x.toInt16
  omega
theorem fb_byte_twice (x : Int32) : x.toInt8.toInt32.toInt8.toInt32 = x.toInt8.toInt32 := fb_byte (fb_byte_rng x).1 (fb_byte_rng x).2
theorem fb_short_twice (x : Int32) : x.toInt16.toInt32.toInt16.toInt32 = x.toInt16.toInt32 := fb_short (fb_short_rng x).1 (fb_short_rng x).2
theorem fb_char {n : Nat} (h : n < 65536) : (nI n).toUInt32.toUInt16.toUInt32.toInt32 = nI n := by
  apply Int32.toBitVec_inj.1
  apply BitVec.eq_of_toNat_eq
  have e1 : (nI n).toBitVec.toNat = n := by
    show (BitVec.ofNat 32 n).toNat = n
    rw [BitVec.toNat_ofNat, Nat.mod_eq_of_lt (by omega)]
  have e2 : ((nI n).toUInt32.toUInt16.toUInt32).toNat = n := by
    rw [UInt16.toNat_toUInt32, UInt32.toNat_toUInt16]
    show (nI n).toBitVec.toNat % 2 ^ 16 = n
    rw [e1, Nat.mod_eq_of_lt (by omega)]
  rw [e1]
  exact e2
end
section
/-! rows on bits, shifts and unsigned numbers, to paste: each family out of a closed proof of our own, whole with what it rests on; each by itself clean at Lean in its own claim (generation 39, form 5). Take a family whole -/
/-! ===== Int32 by its bits: bt x i ===== -/
def bt (x : Int32) (i : Nat) : Bool := x.toBitVec.getLsbD i
theorem b_ext {x y : Int32} (h : ∀ i, i < 32 → bt x i = bt y i) : x = y := Int32.toBitVec_inj.mp (BitVec.eq_of_getLsbD_eq (fun i hi => h i hi))
theorem b_or (x y : Int32) (i : Nat) : bt (x ||| y) i = (bt x i || bt y i) := by unfold bt; rw [Int32.toBitVec_or, BitVec.getLsbD_or]
theorem b_and (x y : Int32) (i : Nat) : bt (x &&& y) i = (bt x i && bt y i) := by unfold bt; rw [Int32.toBitVec_and, BitVec.getLsbD_and]
theorem b_xor (x y : Int32) (i : Nat) : bt (x ^^^ y) i = (bt x i ^^ bt y i) := by unfold bt; rw [Int32.toBitVec_xor, BitVec.getLsbD_xor]
theorem b_big {x : Int32} {i : Nat} (h : 32 ≤ i) : bt x i = false := BitVec.getLsbD_of_ge _ _ h
theorem b_255 (i : Nat) : bt 255 i = decide (i < 8) := by
  rcases Nat.lt_or_ge i 32 with h | h
  · exact (by decide +kernel : ∀ i, i < 32 → bt 255 i = decide (i < 8)) i h
  · rw [b_big h, decide_eq_false (by omega)]
theorem b_65535 (i : Nat) : bt 65535 i = decide (i < 16) := by
  rcases Nat.lt_or_ge i 32 with h | h
  · exact (by decide +kernel : ∀ i, i < 32 → bt 65535 i = decide (i < 16)) i h
  · rw [b_big h, decide_eq_false (by omega)]
theorem b_m1 : ∀ i, i < 32 → bt (-1) i = true := by decide +kernel
theorem b_0 (i : Nat) : bt 0 i = false := BitVec.getLsbD_zero
theorem s_l : ∀ n, n < 32 → ((nI n &&& 31).toBitVec.smod 32).toNat = n := by decide +kernel
theorem s_u : ∀ n, n < 32 → (((nI n).toUInt32 &&& Int32.toUInt32 31).toBitVec % 32).toNat = n := by decide +kernel
theorem b_shl (n : Nat) (hn : n < 32) (x : Int32) {i : Nat} (hi : i < 32) : bt (x <<< (nI n &&& 31)) i = (decide (n ≤ i) && bt x (i - n)) := by
  unfold bt
  rw [Int32.toBitVec_shiftLeft]
  show (x.toBitVec <<< ((nI n &&& 31).toBitVec.smod 32).toNat).getLsbD i = _
  rw [s_l n hn, BitVec.getLsbD_shiftLeft]
  rcases Nat.lt_or_ge i n with h | h
  · simp [h, Nat.not_le.mpr h]
  · simp [hi, h, Nat.not_lt.mpr h]
theorem b_ushr (n : Nat) (hn : n < 32) (x : Int32) (i : Nat) : bt ((x.toUInt32 >>> ((nI n).toUInt32 &&& Int32.toUInt32 31)).toInt32) i = bt x (n + i) := by
  show (x.toUInt32 >>> ((nI n).toUInt32 &&& Int32.toUInt32 31)).toBitVec.getLsbD i = x.toUInt32.toBitVec.getLsbD (n + i)
  rw [UInt32.toBitVec_shiftRight]
  show (x.toUInt32.toBitVec >>> (((nI n).toUInt32 &&& Int32.toUInt32 31).toBitVec % 32).toNat).getLsbD i = _
  rw [s_u n hn, BitVec.getLsbD_ushiftRight]
theorem b_sshr (n : Nat) (hn : n < 32) (x : Int32) {i : Nat} (hi : i < 32) : bt (x >>> (nI n &&& 31)) i = if n + i < 32 then bt x (n + i) else bt x 31 := by
  unfold bt
  rw [Int32.toBitVec_shiftRight]
  show (x.toBitVec.sshiftRight ((nI n &&& 31).toBitVec.smod 32).toNat).getLsbD i = _
  rw [s_l n hn, BitVec.getLsbD_sshiftRight, BitVec.msb_eq_getLsbD_last]
  simp [hi]
theorem b_shl8 (x : Int32) {i : Nat} (hi : i < 32) : bt (x <<< ((8 : Int32) &&& 31)) i = (decide (8 ≤ i) && bt x (i - 8)) := b_shl 8 (by omega) x hi
theorem b_shl16 (x : Int32) {i : Nat} (hi : i < 32) : bt (x <<< ((16 : Int32) &&& 31)) i = (decide (16 ≤ i) && bt x (i - 16)) := b_shl 16 (by omega) x hi
theorem b_shl24 (x : Int32) {i : Nat} (hi : i < 32) : bt (x <<< ((24 : Int32) &&& 31)) i = (decide (24 ≤ i) && bt x (i - 24)) := b_shl 24 (by omega) x hi
theorem b_sshr8 (x : Int32) {i : Nat} (hi : i < 32) : bt (x >>> ((8 : Int32) &&& 31)) i = if 8 + i < 32 then bt x (8 + i) else bt x 31 := b_sshr 8 (by omega) x hi
/-! ===== nI under and, xor, >>>, one bit, 65535 ===== -/
theorem nx_and (a b : Nat) : nI a &&& nI b = nI (a &&& b) := by
  apply Int32.toBitVec_inj.1
  show BitVec.ofNat 32 a &&& BitVec.ofNat 32 b = BitVec.ofNat 32 (a &&& b)
  apply BitVec.eq_of_getLsbD_eq
  intro i hi
  simp [hi]
theorem nx_xor (a b : Nat) : nI a ^^^ nI b = nI (a ^^^ b) := by
  apply Int32.toBitVec_inj.1
  show BitVec.ofNat 32 a ^^^ BitVec.ofNat 32 b = BitVec.ofNat 32 (a ^^^ b)
  apply BitVec.eq_of_getLsbD_eq
  intro i hi
  simp [hi]
theorem nx_cnt : ∀ j : Fin 32, (UInt32.ofNat j.val &&& Int32.toUInt32 31).toNat % 32 = j.val := by decide +kernel
theorem nx_ush {k j : Nat} (hk : k < 65536) (hj : j < 32) : ((nI k).toUInt32 >>> ((nI j).toUInt32 &&& Int32.toUInt32 31)).toInt32 = nI (k >>> j) := by
  have hs : k >>> j ≤ k := by
    rw [Nat.shiftRight_eq_div_pow]
    exact Nat.div_le_self _ _
  have e2 : UInt32.ofNat k >>> (UInt32.ofNat j &&& Int32.toUInt32 31) = UInt32.ofNat (k >>> j) := by
    apply UInt32.toNat_inj.1
    have h1 : (UInt32.ofNat k).toNat = k := Nat.mod_eq_of_lt (by omega)
    have h2 : (UInt32.ofNat (k >>> j)).toNat = k >>> j := Nat.mod_eq_of_lt (by omega)
    rw [UInt32.toNat_shiftRight, nx_cnt ⟨j, hj⟩, h1, h2]
  show (UInt32.ofNat k >>> (UInt32.ofNat j &&& Int32.toUInt32 31)).toInt32 = _
  rw [e2]
  rfl
theorem nx_bit {k j : Nat} (hk : k < 65536) (hj : j < 16) : (((nI k).toUInt32 >>> ((nI j).toUInt32 &&& Int32.toUInt32 31)).toInt32 &&& 1) = 0 ↔ k.testBit j = false := by
  rw [nx_ush hk (by omega)]
  show nI (k >>> j) &&& nI 1 = 0 ↔ _
  rw [nx_and, Nat.and_one_is_mod, ← nI_0, nI_eq (by omega) (by omega), Nat.testBit_eq_decide_div_mod_eq, Nat.shiftRight_eq_div_pow, decide_eq_false_iff_not]
  generalize k / 2 ^ j = z
  omega
theorem nx_mod (k : Nat) : nI k &&& 65535 = nI (k % 65536) := by
  show nI k &&& nI 65535 = _
  rw [nx_and, show (65535 : Nat) = 2 ^ 16 - 1 from rfl, Nat.and_two_pow_sub_one_eq_mod]
theorem nx_m16 {k : Nat} (h : k < 65536) : nI k &&& 65535 = nI k := by rw [nx_mod, Nat.mod_eq_of_lt h]
theorem nx_mask (x : Int32) : ∃ k, k < 65536 ∧ x &&& 65535 = nI k := by
  have e : x = nI x.toBitVec.toNat := by
    apply Int32.toBitVec_inj.1
    show x.toBitVec = BitVec.ofNat 32 x.toBitVec.toNat
    simp
  refine ⟨x.toBitVec.toNat % 65536, Nat.mod_lt _ (by omega), ?_⟩
  rw [← nx_mod, ← e]
/-! ===== Int32 as a set of bits: test, set ===== -/
def nf_M (m : Int32) : Nat := 4294967296 - m.toBitVec.toNat
theorem nf_sh : ∀ l, l < 32 → ((1 : Int32) <<< (nI l &&& 31)).toBitVec = BitVec.twoPow 32 l := by decide +kernel
theorem nf_sl : ∀ l, l < 32 → (((nI l).toUInt32 &&& Int32.toUInt32 31).toBitVec % 32).toNat = l := by decide +kernel
theorem nf_tp : ∀ l, l < 32 → BitVec.twoPow 32 l ≠ 0#32 := by decide +kernel
theorem nf_bit (m : Int32) (l : Nat) (hl : l < 32) : ((m.toUInt32 >>> ((nI l).toUInt32 &&& Int32.toUInt32 31)).toInt32 &&& 1) = 0 ↔ (m &&& ((1 : Int32) <<< (nI l &&& 31))) = 0 := by
  have e : ((m.toUInt32 >>> ((nI l).toUInt32 &&& Int32.toUInt32 31)).toInt32).toBitVec = m.toBitVec >>> l := by
    show m.toBitVec >>> (((nI l).toUInt32 &&& Int32.toUInt32 31).toBitVec % 32) = m.toBitVec >>> l
    rw [BitVec.ushiftRight_eq', nf_sl l hl]
  rw [← Int32.toBitVec_inj, ← Int32.toBitVec_inj, Int32.toBitVec_and, Int32.toBitVec_and, nf_sh l hl, e, BitVec.and_twoPow]
  show (m.toBitVec >>> l &&& 1#32) = 0#32 ↔ _ = 0#32
  rw [BitVec.and_one_eq_setWidth_ofBool_getLsbD, BitVec.getLsbD_ushiftRight, Nat.add_zero]
  cases hb : m.toBitVec.getLsbD l
  · exact ⟨fun _ => by simp, fun _ => by decide⟩
  · exact ⟨fun z => absurd z (by decide), fun z => absurd ((if_pos rfl).symm.trans z) (nf_tp l hl)⟩
theorem nf_gr (m k : Int32) (h : m &&& k = 0) (hk : k ≠ 0) : nf_M (m ||| k) < nf_M m := by
  have hm := m.toBitVec.isLt
  have hm' := (m ||| k).toBitVec.isLt
  have h1 : m.toBitVec.toNat ≤ (m ||| k).toBitVec.toNat := by
    rw [Int32.toBitVec_or, BitVec.toNat_or]
    exact Nat.left_le_or
  have h2 : m.toBitVec.toNat ≠ (m ||| k).toBitVec.toNat := by
    intro e
    have e2 : m = m ||| k := Int32.toBitVec_inj.mp (BitVec.eq_of_toNat_eq e)
    apply hk
    apply Int32.toBitVec_inj.mp
    show k.toBitVec = 0#32
    apply BitVec.eq_of_getLsbD_eq
    intro i hi
    have a : m.toBitVec.getLsbD i = (m.toBitVec.getLsbD i || k.toBitVec.getLsbD i) := by rw [← BitVec.getLsbD_or, ← Int32.toBitVec_or, ← e2]
    have b : (m.toBitVec.getLsbD i && k.toBitVec.getLsbD i) = false := by
      rw [← BitVec.getLsbD_and, ← Int32.toBitVec_and, h]
      exact BitVec.getLsbD_zero
    rw [BitVec.getLsbD_zero]
    revert a b
    cases m.toBitVec.getLsbD i <;> cases k.toBitVec.getLsbD i <;> simp
  unfold nf_M
  omega
/-! ===== a byte read unsigned ===== -/
theorem bp_b (x : Int32) : x.toInt8.toInt32 &&& 255 = x &&& 255 := by
  apply Int32.toBitVec_inj.mp
  rw [Int32.toBitVec_and, Int32.toBitVec_and, Int8.toBitVec_toInt32, Int32.toBitVec_toInt8]
  apply BitVec.eq_of_getLsbD_eq
  intro i hi
  rw [BitVec.getLsbD_and, BitVec.getLsbD_and]
  have hm : ∀ i < 32, 8 ≤ i → (255 : Int32).toBitVec.getLsbD i = false := by decide
  rcases Nat.lt_or_ge i 8 with z | z
  · rw [BitVec.getLsbD_signExtend, BitVec.getLsbD_signExtend, if_pos z, if_pos hi]
    simp only [z, hi, decide_true, Bool.true_and]
  · rw [hm i hi z]; simp
/-! ===== the char cast and 65535 ===== -/
/-! ===== Int64 as a set of bits: test, set, clear ===== -/
theorem ts_nf {x : Bool} (h : ¬ x = false) : x = true := by cases x <;> first | rfl | exact absurd rfl h
theorem ts_nt {x : Bool} (h : ¬ x = true) : x = false := by cases x <;> first | rfl | exact absurd rfl h
theorem ts_bit {w : Int64} {s : UInt64} {j : Nat} (hj : j < 64) (hs : s.toNat = j) : ((w.toUInt64 >>> s).toInt64 &&& 1) = 0 ↔ w.toBitVec.getLsbD j = false := by
  have e : (w.toUInt64 >>> s).toInt64.toBitVec = w.toBitVec >>> j := by
    apply BitVec.eq_of_toNat_eq
    show (w.toUInt64 >>> s).toNat = _
    rw [UInt64.toNat_shiftRight, hs, Nat.mod_eq_of_lt hj, BitVec.toNat_ushiftRight]
    rfl
  rw [← Int64.toBitVec_inj, Int64.toBitVec_and, e]
  show w.toBitVec >>> j &&& 1#64 = 0#64 ↔ _
  constructor
  · intro h
    have t := congrArg (fun x => x.getLsbD 0) h
    simpa using t
  · intro h
    apply BitVec.eq_of_getLsbD_eq
    intro i hi
    cases i with
    | zero => simp [h]
    | succ i => simp
theorem ts_or {w m : Int64} {j : Nat} (hj : j < 64) (hm : m.toBitVec = BitVec.twoPow 64 j) : (w ||| m) = w ↔ w.toBitVec.getLsbD j = true := by
  rw [← Int64.toBitVec_inj, Int64.toBitVec_or, hm]
  constructor
  · intro h
    have t := congrArg (fun x => x.getLsbD j) h
    simp only [BitVec.getLsbD_or, BitVec.getLsbD_twoPow] at t
    simpa [hj] using t.symm
  · intro h
    apply BitVec.eq_of_getLsbD_eq
    intro i hi
    rw [BitVec.getLsbD_or, BitVec.getLsbD_twoPow]
    by_cases e : j = i
    · subst e; rw [h, Bool.true_or]
    · simp [e]
theorem ts_and {w m : Int64} {j : Nat} (hj : j < 64) (hm : m.toBitVec = BitVec.twoPow 64 j) : (w &&& (m ^^^ (-1))) = w ↔ w.toBitVec.getLsbD j = false := by
  have ha : (-1 : Int64).toBitVec = BitVec.allOnes 64 := by decide
  rw [← Int64.toBitVec_inj, Int64.toBitVec_and, Int64.toBitVec_xor, hm, ha]
  constructor
  · intro h
    have t := congrArg (fun x => x.getLsbD j) h
    simp only [BitVec.getLsbD_and, BitVec.getLsbD_xor, BitVec.getLsbD_twoPow, BitVec.getLsbD_allOnes] at t
    simpa [hj] using t.symm
  · intro h
    apply BitVec.eq_of_getLsbD_eq
    intro i hi
    rw [BitVec.getLsbD_and, BitVec.getLsbD_xor, BitVec.getLsbD_twoPow, BitVec.getLsbD_allOnes]
    by_cases e : j = i
    · subst e; rw [h, Bool.false_and]
    · simp [e, hi]
/-! ===== lN n to 2^64: shifts, and, or, masks, one bit ===== -/
theorem wb_tb (n : Nat) : (lN n).toBitVec = BitVec.ofNat 64 n := rfl
theorem wb_inj {a b : Int64} (h : a.toBitVec = b.toBitVec) : a = b := Int64.toBitVec_inj.mp h
theorem wb_tn {n : Nat} (h : n < 2 ^ 64) : (lN n).toBitVec.toNat = n := by rw [wb_tb, BitVec.toNat_ofNat, Nat.mod_eq_of_lt h]
theorem wb_of (x : Int64) : ∃ n, n < 2 ^ 64 ∧ x = lN n := ⟨x.toBitVec.toNat, x.toBitVec.isLt, wb_inj (by rw [wb_tb]; simp)⟩
theorem wb_of32 (x : Int32) : ∃ n, n < 2 ^ 32 ∧ x = nI n := ⟨x.toBitVec.toNat, x.toBitVec.isLt, Int32.toBitVec_inj.mp (by show _ = BitVec.ofNat 32 _; simp)⟩
theorem wb_c : ∀ k, k < 64 → ((nI k).toInt64 &&& 63) = lN k := by decide +kernel
theorem wb_cu : ∀ k, k < 64 → ((nI k).toInt64.toUInt64 &&& Int64.toUInt64 63) = UInt64.ofNat k := by decide +kernel
theorem wb_sm : ∀ k, k < 64 → (BitVec.ofNat 64 k).smod 64 = BitVec.ofNat 64 k := by decide +kernel
theorem wb_pw {a b : Nat} (h : a ≤ b) : 2 ^ b = 2 ^ a * 2 ^ (b - a) := by rw [← Nat.pow_add]; congr 1; omega
theorem wb_lt2 {a b : Nat} (h : a < b) : 2 ^ a < 2 ^ b := Nat.pow_lt_pow_right (by decide) h
theorem wb_mod (n : Nat) : lN n = lN (n % 2 ^ 64) := wb_inj (by rw [wb_tb, wb_tb]; apply BitVec.eq_of_toNat_eq; rw [BitVec.toNat_ofNat, BitVec.toNat_ofNat, Nat.mod_mod])
theorem wb_shr {n k : Nat} (hn : n < 2 ^ 64) (hk : k < 64) : ((lN n).toUInt64 >>> ((nI k).toInt64.toUInt64 &&& Int64.toUInt64 63)).toInt64 = lN (n / 2 ^ k) := by
  rw [wb_cu k hk]
  apply wb_inj
  apply BitVec.eq_of_toNat_eq
  show ((lN n).toUInt64 >>> UInt64.ofNat k).toNat = (BitVec.ofNat 64 _).toNat
  have h1 : (UInt64.ofNat k).toNat = k := by
    show (BitVec.ofNat 64 k).toNat = k
    rw [BitVec.toNat_ofNat, Nat.mod_eq_of_lt (by omega)]
  have h2 : (lN n).toUInt64.toNat = n := wb_tn hn
  rw [UInt64.toNat_shiftRight, h1, h2, Nat.mod_eq_of_lt hk, Nat.shiftRight_eq_div_pow, BitVec.toNat_ofNat, Nat.mod_eq_of_lt (Nat.lt_of_le_of_lt (Nat.div_le_self _ _) hn)]
theorem wb_shl (n : Nat) {k : Nat} (hk : k < 64) : lN n <<< ((nI k).toInt64 &&& 63) = lN (n * 2 ^ k) := by
  rw [wb_c k hk]
  apply wb_inj
  rw [Int64.toBitVec_shiftLeft, wb_tb, wb_tb, wb_tb, wb_sm k hk]
  apply BitVec.eq_of_toNat_eq
  rw [BitVec.shiftLeft_eq', BitVec.toNat_shiftLeft, BitVec.toNat_ofNat, BitVec.toNat_ofNat, BitVec.toNat_ofNat, Nat.mod_eq_of_lt (show k < 2 ^ 64 by omega), Nat.shiftLeft_eq, Nat.mul_mod, Nat.mod_mod, ← Nat.mul_mod]
theorem wb_and {a b : Nat} (ha : a < 2 ^ 64) (hb : b < 2 ^ 64) : lN a &&& lN b = lN (a &&& b) := by
  apply wb_inj
  rw [Int64.toBitVec_and, wb_tb, wb_tb, wb_tb]
  apply BitVec.eq_of_toNat_eq
  rw [BitVec.toNat_and, BitVec.toNat_ofNat, BitVec.toNat_ofNat, BitVec.toNat_ofNat, Nat.mod_eq_of_lt ha, Nat.mod_eq_of_lt hb, Nat.mod_eq_of_lt (Nat.and_lt_two_pow _ hb)]
theorem wb_or {a b : Nat} (ha : a < 2 ^ 64) (hb : b < 2 ^ 64) : lN a ||| lN b = lN (a ||| b) := by
  apply wb_inj
  rw [Int64.toBitVec_or, wb_tb, wb_tb, wb_tb]
  apply BitVec.eq_of_toNat_eq
  rw [BitVec.toNat_or, BitVec.toNat_ofNat, BitVec.toNat_ofNat, BitVec.toNat_ofNat, Nat.mod_eq_of_lt ha, Nat.mod_eq_of_lt hb, Nat.mod_eq_of_lt (Nat.or_lt_two_pow ha hb)]
theorem wb_mask {n k : Nat} (hn : n < 2 ^ 64) (hk : k < 64) : lN n &&& lN (2 ^ k - 1) = lN (n % 2 ^ k) := by
  rw [wb_and hn (by have := wb_lt2 hk; omega), Nat.and_two_pow_sub_one_eq_mod]
theorem wb_a1 {n : Nat} (hn : n < 2 ^ 64) : lN n &&& 1 = lN (n % 2) := wb_mask (k := 1) hn (by decide)
theorem wb_bit {n k : Nat} (hn : n < 2 ^ 64) (hk : k < 64) : ((lN n).toUInt64 >>> ((nI k).toInt64.toUInt64 &&& Int64.toUInt64 63)).toInt64 &&& 1 = lN (n / 2 ^ k % 2) := by
  rw [wb_shr hn hk, wb_a1 (Nat.lt_of_le_of_lt (Nat.div_le_self _ _) hn)]
theorem wb_xor {q k : Nat} (hk : k < 63) (h : 2 ^ k ≤ q) (h2 : q < 2 ^ (k + 1)) : lN q ^^^ lN (2 ^ k) = lN (q - 2 ^ k) := by
  obtain ⟨r, rfl⟩ : ∃ r, q = 2 ^ k + r := ⟨q - 2 ^ k, by omega⟩
  have hr : r < 2 ^ k := by rw [Nat.pow_succ] at h2; omega
  have hx : (2 ^ k + r) ^^^ 2 ^ k = r := by
    apply Nat.eq_of_testBit_eq
    intro i
    rw [Nat.testBit_xor, Nat.testBit_two_pow]
    rcases Nat.lt_trichotomy i k with h | h | h
    · rw [Nat.testBit_two_pow_add_gt h]
      simp [show ¬ k = i by omega]
    · subst h
      rw [Nat.testBit_two_pow_add_eq]
      simp
    · have a1 : 2 ^ (k + 1) ≤ 2 ^ i := Nat.pow_le_pow_right (by decide) h
      rw [Nat.testBit_lt_two_pow (show 2 ^ k + r < 2 ^ i by omega), Nat.testBit_lt_two_pow (show r < 2 ^ i by omega)]
      simp [show ¬ k = i by omega]
  have b1 := wb_lt2 (show k + 1 < 64 by omega)
  have b2 := wb_lt2 (show k < 64 by omega)
  apply wb_inj
  rw [Int64.toBitVec_xor, wb_tb, wb_tb, wb_tb]
  apply BitVec.eq_of_toNat_eq
  rw [BitVec.toNat_xor, BitVec.toNat_ofNat, BitVec.toNat_ofNat, BitVec.toNat_ofNat, Nat.mod_eq_of_lt (by omega : 2 ^ k + r < 2 ^ 64), Nat.mod_eq_of_lt b2, hx, Nat.add_sub_cancel_left, Nat.mod_eq_of_lt (by omega)]
/-! ===== lN: masks, 'or' of parts that don't overlap is a sum ===== -/
theorem u_tn {n : Nat} (h : n < 2 ^ 64) : (UInt64.ofNat n).toNat = n := Nat.mod_eq_of_lt h
theorem g_and {a b c : Nat} (ha : a < 2 ^ 64) (hb : b < 2 ^ 64) (hc : a &&& b = c) : lN a &&& lN b = lN c := by
  subst hc
  have h : UInt64.ofNat a &&& UInt64.ofNat b = UInt64.ofNat (a &&& b) := UInt64.toNat_inj.mp (by rw [UInt64.toNat_and, u_tn ha, u_tn hb, u_tn (Nat.and_lt_two_pow a hb)])
  have h2 := congrArg UInt64.toInt64 h
  exact h2
theorem g_and1 {a : Nat} (ha : a < 2 ^ 64) : lN a &&& 1 = lN (a % 2) := g_and (b := 1) ha (by decide) (Nat.and_two_pow_sub_one_eq_mod a 1)
theorem g_mask {a s p : Nat} (hp : 2 ^ s = p) (hs : s < 64) (ha : a < 2 ^ 64) : lN a &&& lN (p - 1) = lN (a % p) := by
  subst hp
  have := Nat.pow_lt_pow_right (show 1 < 2 by decide) hs
  exact g_and ha (by omega) (Nat.and_two_pow_sub_one_eq_mod a s)
theorem g_or {k p a b : Nat} (hp : 2 ^ k = p) (ha : a < p) (h : b * p + a < 2 ^ 64) : lN (b * p) ||| lN a = lN (b * p + a) := by
  subst hp
  have h1 : b * 2 ^ k ||| a = b * 2 ^ k + a := by rw [← Nat.shiftLeft_eq, Nat.shiftLeft_add_eq_or_of_lt ha]
  have h3 : UInt64.ofNat (b * 2 ^ k) ||| UInt64.ofNat a = UInt64.ofNat (b * 2 ^ k + a) := UInt64.toNat_inj.mp (by rw [UInt64.toNat_or, u_tn (by omega), u_tn (by omega), u_tn h, h1])
  have h2 := congrArg UInt64.toInt64 h3
  exact h2
theorem g_or' {k p a b : Nat} (hp : 2 ^ k = p) (ha : a < p) (h : a + b * p < 2 ^ 64) : lN a ||| lN (b * p) = lN (a + b * p) := by
  rw [Int64.or_comm, g_or hp ha (by omega), Nat.add_comm]
theorem g_ushr {a k p : Nat} {y : UInt64} (hy : y = UInt64.ofNat k) (hk : k < 64) (hp : 2 ^ k = p) (ha : a < 2 ^ 64) : ((lN a).toUInt64 >>> y).toInt64 = lN (a / p) := by
  subst hy hp
  have h : UInt64.ofNat a >>> UInt64.ofNat k = UInt64.ofNat (a / 2 ^ k) := UInt64.toNat_inj.mp (by rw [UInt64.toNat_shiftRight, u_tn ha, u_tn (by omega), u_tn (Nat.lt_of_le_of_lt (Nat.div_le_self _ _) ha), Nat.mod_eq_of_lt hk, Nat.shiftRight_eq_div_pow])
  have h2 := congrArg UInt64.toInt64 h
  exact h2
theorem g_shl {a k p : Nat} {y : Int64} (hy : y.toBitVec.smod 64 = BitVec.ofNat 64 k) (hk : k < 64) (hp : 2 ^ k = p) (ha : a < 2 ^ 64) : lN a <<< y = lN (a * p) := by
  subst hp
  apply Int64.toBitVec_inj.mp
  rw [Int64.toBitVec_shiftLeft, hy]
  apply BitVec.eq_of_toNat_eq
  have hb : (lN a).toBitVec.toNat = a := Nat.mod_eq_of_lt ha
  have hk' : (BitVec.ofNat 64 k).toNat = k := Nat.mod_eq_of_lt (by omega)
  have h : ((lN a).toBitVec <<< BitVec.ofNat 64 k).toNat = (a * 2 ^ k) % 2 ^ 64 := by simp only [BitVec.shiftLeft_eq', BitVec.toNat_shiftLeft, hb, hk', Nat.shiftLeft_eq]
  exact h
/-! ===== lN to 2^62 under >> and >>> ===== -/
theorem pf_lI {a : Nat} (h : a < 2 ^ 63) : (lN a).toInt = (a : Int) := lg_ofNat_toInt h
theorem pf_shr {a d : Nat} {D : Int64} (hD : (D.toBitVec.smod 64).toNat = d) (h : a < 2 ^ 62) : lN a >>> D = lN (a / 2 ^ d) := by
  have hd : a / 2 ^ d ≤ a := Nat.div_le_self _ _
  apply Int64.toInt_inj.mp
  have e : (lN a >>> D).toInt = (lN a).toInt >>> d := by
    rw [← hD]
    exact BitVec.toInt_sshiftRight ..
  rw [e, Int.shiftRight_eq_div_pow, pf_lI (by omega), pf_lI (by omega)]
  rfl
theorem pf_ushr {a d : Nat} {D : UInt64} (hD : D.toNat % 64 = d) (h : a < 2 ^ 62) : ((lN a).toUInt64 >>> D).toInt64 = lN (a / 2 ^ d) := by
  have hd : a / 2 ^ d ≤ a := Nat.div_le_self _ _
  have e : (lN a).toUInt64 >>> D = UInt64.ofNat (a / 2 ^ d) := UInt64.toNat_inj.mp (by
    rw [UInt64.toNat_shiftRight, hD, Nat.shiftRight_eq_div_pow, UInt64.toNat_ofNat']
    show (UInt64.ofNat a).toNat / 2 ^ d = _
    rw [UInt64.toNat_ofNat', Nat.mod_eq_of_lt (by omega), Nat.mod_eq_of_lt (by omega)])
  rw [e]
  rfl
theorem pf_andw (x : Int64) : ∃ m, m < 2 ^ 32 ∧ x &&& 4294967295 = lN m := ⟨x.toBitVec.toNat % 2 ^ 32, Nat.mod_lt _ (by decide), Int64.toBitVec_inj.mp (BitVec.eq_of_toNat_eq (by
  show (x.toBitVec &&& 4294967295#64).toNat = (BitVec.ofNat 64 (x.toBitVec.toNat % 2 ^ 32)).toNat
  rw [BitVec.toNat_and, show (4294967295#64).toNat = 2 ^ 32 - 1 from by decide, Nat.and_two_pow_sub_one_eq_mod, BitVec.toNat_ofNat]
  omega))⟩
/-! ===== Int64 as an unsigned number: uN x ===== -/
def uN (x : Int64) : Nat := x.toUInt64.toNat
theorem uN_lt (x : Int64) : uN x < 18446744073709551616 := x.toUInt64.toNat_lt
theorem uN_inj {x y : Int64} (h : uN x = uN y) : x = y := congrArg UInt64.toInt64 (UInt64.toNat_inj.mp h)
theorem uN_add (x y : Int64) : uN (x + y) = (uN x + uN y) % 18446744073709551616 := by
  show (x.toUInt64 + y.toUInt64).toNat = _
  exact UInt64.toNat_add _ _
theorem uN_mul (x y : Int64) : uN (x * y) = (uN x * uN y) % 18446744073709551616 := by
  show (x.toUInt64 * y.toUInt64).toNat = _
  exact UInt64.toNat_mul _ _
theorem uN_shl (x : Int64) : uN (x <<< ((1 : Int32).toInt64 &&& 63)) = (2 * uN x) % 18446744073709551616 := by
  have h : (((1 : Int32).toInt64 &&& 63).toBitVec.smod 64).toNat = 1 := by decide
  show (x.toBitVec <<< (((1 : Int32).toInt64 &&& 63).toBitVec.smod 64).toNat).toNat = _
  rw [h, BitVec.toNat_shiftLeft, Nat.shiftLeft_eq, Nat.mul_comm]
  rfl
theorem uN_shr (x : Int64) (s : UInt64) : uN (x.toUInt64 >>> s).toInt64 = uN x / 2 ^ (s.toNat % 64) := by
  show (x.toUInt64 >>> s).toNat = _
  rw [UInt64.toNat_shiftRight, Nat.shiftRight_eq_div_pow]
  rfl
theorem uN_s32 (x : Int64) : uN (x.toUInt64 >>> ((32 : Int32).toInt64.toUInt64 &&& Int64.toUInt64 63)).toInt64 = uN x / 4294967296 := by
  have h : ((32 : Int32).toInt64.toUInt64 &&& Int64.toUInt64 63).toNat % 64 = 32 := by decide
  rw [uN_shr, h]
theorem uN_s63 (x : Int64) : uN (x.toUInt64 >>> ((63 : Int32).toInt64.toUInt64 &&& Int64.toUInt64 63)).toInt64 = uN x / 9223372036854775808 := by
  have h : ((63 : Int32).toInt64.toUInt64 &&& Int64.toUInt64 63).toNat % 64 = 63 := by decide
  rw [uN_shr, h]
theorem uN_lo (x : Int64) : uN (x &&& 4294967295) = uN x % 4294967296 := by
  show (x.toUInt64 &&& Int64.toUInt64 4294967295).toNat = _
  rw [UInt64.toNat_and]
  exact Nat.and_two_pow_sub_one_eq_mod _ 32
theorem uN_bit (x : Int64) : (x &&& 1) = 0 ↔ uN x % 2 = 0 := by
  have h : uN (x &&& 1) = uN x % 2 := by
    show (x.toUInt64 &&& Int64.toUInt64 1).toNat = _
    rw [UInt64.toNat_and]
    exact Nat.and_two_pow_sub_one_eq_mod _ 1
  rw [← h]
  exact ⟨fun z => by rw [z]; rfl, fun z => uN_inj (z.trans rfl)⟩
theorem uN_or {x y : Int64} (hy : uN y < 2) : uN ((x <<< ((1 : Int32).toInt64 &&& 63)) ||| y) = (2 * uN x) % 18446744073709551616 + uN y := by
  have h1 : uN ((x <<< ((1 : Int32).toInt64 &&& 63)) ||| y) = uN (x <<< ((1 : Int32).toInt64 &&& 63)) ||| uN y := UInt64.toNat_or _ _
  have h2 : (2 * uN x) % 18446744073709551616 = 2 ^ 1 * (uN x % 9223372036854775808) := by omega
  rw [h1, uN_shl, h2]
  exact (Nat.two_pow_add_eq_or_of_lt (i := 1) hy _).symm
theorem nat_xor {a : Nat} (h : a < 18446744073709551616) : a ^^^ 2 ^ 63 = (a + 9223372036854775808) % 18446744073709551616 := by
  have h1 : (a ^^^ 2 ^ 63) % 2 ^ 63 = a % 2 ^ 63 := by rw [Nat.xor_mod_two_pow, Nat.mod_self, Nat.xor_zero]
  have h2 : (a ^^^ 2 ^ 63) / 2 ^ 63 = (a / 2 ^ 63) ^^^ 1 := by rw [Nat.xor_div_two_pow, Nat.div_self (Nat.two_pow_pos 63)]
  have h3 : a / 2 ^ 63 = 0 ∨ a / 2 ^ 63 = 1 := by omega
  generalize a ^^^ 2 ^ 63 = t at h1 h2
  rcases h3 with h3 | h3
  · rw [h3] at h2
    have h2 : t / 2 ^ 63 = 1 := h2
    omega
  · rw [h3] at h2
    have h2 : t / 2 ^ 63 = 0 := h2
    omega
theorem uN_xor (x : Int64) : uN (x ^^^ (-9223372036854775808)) = (uN x + 9223372036854775808) % 18446744073709551616 := by
  rw [← nat_xor (uN_lt x)]
  exact UInt64.toNat_xor _ _
theorem uN_int (x : Int64) : x.toInt = if 2 * uN x < 18446744073709551616 then (uN x : Int) else (uN x : Int) - 18446744073709551616 := BitVec.toInt_eq_toNat_cond _
theorem uN_le (x y : Int64) : (x ^^^ (-9223372036854775808)) ≤ (y ^^^ (-9223372036854775808)) ↔ uN x ≤ uN y := by
  have hx := uN_lt x
  have hy := uN_lt y
  rw [Int64.le_iff_toInt_le, uN_int, uN_int, uN_xor, uN_xor]
  omega
theorem uN_sk (x : Int64) {k : Nat} (hk : k < 64) : uN (x.toUInt64 >>> ((nI k).toInt64.toUInt64 &&& Int64.toUInt64 63)).toInt64 = uN x / 2 ^ k := by
  have h : ((nI k).toInt64.toUInt64 &&& Int64.toUInt64 63).toNat % 64 = k := by
    rw [nI_l (by omega), UInt64.toNat_and]
    have e : (lN k).toUInt64.toNat = k % 2 ^ 64 := rfl
    have e2 : (Int64.toUInt64 63).toNat = 2 ^ 6 - 1 := by decide
    rw [e, e2, Nat.and_two_pow_sub_one_eq_mod]
    omega
  rw [uN_shr, h]
/-! ===== unsigned comparison by xor with the least ===== -/
theorem lN_bv (n : Nat) : (lN n).toBitVec = BitVec.ofNat 64 n := rfl
theorem lN_nat {n : Nat} (h : n < 2 ^ 64) : (lN n).toBitVec.toNat = n := by rw [lN_bv, BitVec.toNat_ofNat]; exact Nat.mod_eq_of_lt h
theorem lN_xor (a b : Nat) : lN a ^^^ lN b = lN (a ^^^ b) := by
  apply Int64.toBitVec_inj.mp; rw [Int64.toBitVec_xor, lN_bv, lN_bv, lN_bv]; apply BitVec.eq_of_getLsbD_eq; intro i hi; simp [BitVec.getLsbD_ofNat, Nat.testBit_xor, hi]
theorem lN_ti {m : Nat} (h : m < 2 ^ 64) : (lN m).toInt = if m < 2 ^ 63 then (m : Int) else (m : Int) - 2 ^ 64 := by
  have c := BitVec.toInt_eq_toNat_cond (lN m).toBitVec
  rw [lN_nat h] at c
  show (lN m).toBitVec.toInt = _
  rw [c]
  split <;> split <;> omega
theorem xor63 {x : Nat} (h : x < 2 ^ 63) : x ^^^ 2 ^ 63 = 2 ^ 63 + x := by
  apply Nat.eq_of_testBit_eq
  intro i
  rw [Nat.testBit_xor, Nat.testBit_two_pow]
  rcases Nat.lt_trichotomy i 63 with z | z | z
  · rw [Nat.testBit_two_pow_add_gt z, decide_eq_false (by omega)]; simp
  · subst z; rw [Nat.testBit_two_pow_add_eq]; simp
  · have hp : 2 ^ 64 ≤ 2 ^ i := Nat.pow_le_pow_right (by decide) z
    rw [Nat.testBit_lt_two_pow (show x < 2 ^ i by omega), Nat.testBit_lt_two_pow (show 2 ^ 63 + x < 2 ^ i by omega), decide_eq_false (by omega)]; rfl
theorem xorS {a : Nat} (h : a < 2 ^ 64) : (lN a ^^^ (-9223372036854775808)).toInt = (a : Int) - 2 ^ 63 := by
  rw [show (-9223372036854775808 : Int64) = lN (2 ^ 63) from by decide +kernel, lN_xor]
  rcases Nat.lt_or_ge a (2 ^ 63) with z | z
  · rw [xor63 z, lN_ti (by omega), if_neg (by omega)]; omega
  · obtain ⟨x, rfl⟩ : ∃ x, a = 2 ^ 63 + x := ⟨a - 2 ^ 63, by omega⟩
    rw [← xor63 (by omega), Nat.xor_assoc, Nat.xor_self, Nat.xor_zero, lN_ti (by omega), if_pos (by omega), xor63 (by omega)]; omega
theorem ultL {a b : Nat} (ha : a < 2 ^ 64) (hb : b < 2 ^ 64) : ((lN b ^^^ (-9223372036854775808)) ≤ (lN a ^^^ (-9223372036854775808))) ↔ b ≤ a := by
  rw [Int64.le_iff_toInt_le, xorS ha, xorS hb]; omega
/-! ===== Int64 masks of n low bits ===== -/
theorem cr_bits (W U M : BitVec 64) : ((W &&& U) &&& (U &&& (M ^^^ BitVec.allOnes 64))) = 0#64 ↔ (W &&& U) &&& M = W &&& U := by
  constructor
  · intro h
    apply BitVec.eq_of_getLsbD_eq
    intro i hi
    have e := congrArg (fun x => BitVec.getLsbD x i) h
    simp only [BitVec.getLsbD_and, BitVec.getLsbD_xor, BitVec.getLsbD_allOnes, BitVec.getLsbD_zero, hi, decide_true] at e ⊢
    revert e
    cases W.getLsbD i <;> cases U.getLsbD i <;> cases M.getLsbD i <;> decide
  · intro h
    apply BitVec.eq_of_getLsbD_eq
    intro i hi
    have e := congrArg (fun x => BitVec.getLsbD x i) h
    simp only [BitVec.getLsbD_and, BitVec.getLsbD_xor, BitVec.getLsbD_allOnes, BitVec.getLsbD_zero, hi, decide_true] at e ⊢
    revert e
    cases W.getLsbD i <;> cases U.getLsbD i <;> cases M.getLsbD i <;> decide
theorem cr_mask (w U m : Int64) (n : Nat) (hm : m.toBitVec.toNat = 2 ^ n - 1) : ((w &&& U) &&& (U &&& (m ^^^ (-1)))) = 0 ↔ (w &&& U).toBitVec.toNat < 2 ^ n := by
  have e0 : (-1 : Int64).toBitVec = BitVec.allOnes 64 := by decide
  have z0 : (0 : Int64).toBitVec = 0#64 := by decide
  rw [← Int64.toBitVec_inj, z0, Int64.toBitVec_and, Int64.toBitVec_and, Int64.toBitVec_and, Int64.toBitVec_xor, e0, cr_bits]
  generalize w.toBitVec &&& U.toBitVec = T
  rw [← BitVec.toNat_inj, BitVec.toNat_and, hm, Nat.and_two_pow_sub_one_eq_mod]
  constructor
  · intro h
    have t := Nat.mod_lt T.toNat (Nat.two_pow_pos n)
    rw [h] at t
    exact t
  · exact Nat.mod_eq_of_lt
theorem cr_shr (t : Int64) (x : UInt64) (n : Nat) (hx : x.toNat % 64 = n) : (t.toUInt64 >>> x).toInt64 = 0 ↔ t.toBitVec.toNat < 2 ^ n := by
  rw [← Int64.toBitVec_inj, ← BitVec.toNat_inj]
  show (t.toUInt64 >>> x).toNat = 0 ↔ t.toUInt64.toNat < 2 ^ n
  rw [UInt64.toNat_shiftRight, hx, Nat.shiftRight_eq_div_pow]
  constructor
  · intro h
    have d : t.toUInt64.toNat / 2 ^ n < 1 := by
      rw [h]
      decide
    have e := (Nat.div_lt_iff_lt_mul (Nat.two_pow_pos n)).mp d
    rw [Nat.one_mul] at e
    exact e
  · exact Nat.div_eq_of_lt
theorem cr_amt (s : Int64) : ∃ n, n < 64 ∧ s &&& 63 = lN n ∧ (s.toUInt64 &&& Int64.toUInt64 63).toNat % 64 = n := by
  have e : (s.toUInt64 &&& Int64.toUInt64 63).toNat = s.toUInt64.toNat % 2 ^ 6 := by
    rw [UInt64.toNat_and, show (Int64.toUInt64 63).toNat = 2 ^ 6 - 1 from by decide, Nat.and_two_pow_sub_one_eq_mod]
  refine ⟨s.toUInt64.toNat % 2 ^ 6, by omega, ?_, by omega⟩
  rw [← Int64.toBitVec_inj, ← BitVec.toNat_inj]
  show (s.toUInt64 &&& Int64.toUInt64 63).toNat = (BitVec.ofNat 64 (s.toUInt64.toNat % 2 ^ 6)).toNat
  rw [e, BitVec.toNat_ofNat]
  omega
end
section
/-! the class's static methods, and the reference's, as functions -/
def ushrL (x : Int64) (y : Int32) : Int64 := (x.toUInt64 >>> (y.toInt64.toUInt64 &&& Int64.toUInt64 63)).toInt64
def shlL (x : Int64) (y : Int32) : Int64 := x <<< (y.toInt64 &&& 63)
def ushrI (x y : Int32) : Int32 := (x.toUInt32 >>> (y.toUInt32 &&& Int32.toUInt32 31)).toInt32
def remI (x y : Int32) : Int32 := x - x / y * y
def remL (x y : Int64) : Int64 := x - x / y * y
def f_bitOf (r : Int64) (i : Int32) : Int32 := (ushrL r i &&& 1).toInt32
def g_bitOf (r : Int64) (i : Int32) : Int32 := (ushrL r i).toInt32 &&& 1
def f_low (n : Int32) : Int64 := if n < 64 then shlL 1 n - 1 else -1
def f_gated (g : Int32) (a b c : Int64) : Int64 := if g = 0 then a &&& b else if g = 1 then a ||| b else if g = 2 then a ^^^ b else if g = 3 then (a ^^^ b) ^^^ (-1) else if g = 4 then a &&& (b ^^^ (-1)) else if g = 5 then (b &&& c) ||| (a &&& (c ^^^ (-1))) else ((a &&& b) ||| (a &&& c)) ||| (b &&& c)
def g_gated (g a b c : Int32) : Int32 := if g = 0 then a * b else if g = 1 then (if a + b ≤ 0 then 0 else 1) else if g = 2 then (if a = b then 0 else 1) else if g = 3 then (if a = b then 1 else 0) else if g = 4 then (if a = 1 ∧ b = 0 then 1 else 0) else if g = 5 then (if c = 1 then b else a) else (if a + b + c ≤ 1 then 0 else 1)
def f_power (b : Int64) : Nat → Int64
  | 0 => 1
  | k + 1 => f_power b k * b
/-- Euclid's steps, n at most -/
def f_cd : Nat → Int64 → Int64 → Int64
  | 0, a, _ => a
  | n + 1, a, b => if b = 0 then a else f_cd n b (remL a b)
def f_common (a b : Int64) : Int64 := if 1 < f_cd 100 a b then f_cd 100 a b else 1
def f_absL (a : Int64) : Int64 := if 0 < a then a else -a
def f_terms (a b : Int64) (p : Int32) : Int64 := if p = 0 then a / f_common (f_absL a) b else b / f_common (f_absL a) b
def f_ways (m c : Int32) : Nat → Int64
  | 0 => 1
  | k + 1 => f_ways m c k * (m - c + nI (k + 1)).toInt64 / (nI (k + 1)).toInt64
def g_abs (a : Int64) : Int64 := if 0 ≤ a then a else -a
def g_chosen (j : Int32) : Nat → Int64
  | 0 => 1
  | k + 1 => g_chosen j k * (j - nI k).toInt64 / (nI k + 1).toInt64
def bi1 (x : Int32) : Int32 := x - (ushrI x 1 &&& 1431655765)
def bi2 (x : Int32) : Int32 := (x &&& 858993459) + (ushrI x 2 &&& 858993459)
def bi3 (x : Int32) : Int32 := (x + ushrI x 4) &&& 252645135
def bi4 (x : Int32) : Int32 := x + ushrI x 8
def bi5 (x : Int32) : Int32 := x + ushrI x 16
def f_bci (x : Int32) : Int32 := bi5 (bi4 (bi3 (bi2 (bi1 x)))) &&& 63
def bc1 (x : Int64) : Int64 := x - (ushrL x 1 &&& 6148914691236517205)
def bc2 (x : Int64) : Int64 := (x &&& 3689348814741910323) + (ushrL x 2 &&& 3689348814741910323)
def bc3 (x : Int64) : Int64 := (x + ushrL x 4) &&& 1085102592571150095
def bc4 (x : Int64) : Int64 := x + ushrL x 8
def bc5 (x : Int64) : Int64 := x + ushrL x 16
def bc6 (x : Int64) : Int64 := x + ushrL x 32
def f_bc (x : Int64) : Int32 := (bc6 (bc5 (bc4 (bc3 (bc2 (bc1 x)))))).toInt32 &&& 127
def f_floorDiv (x y : Int64) : Int64 := if 0 ≤ x ^^^ y then x / y else if x / y * y = x then x / y else x / y - 1
theorem cl_lt {a : Int32} : a.toNatClampNeg < 2 ^ 31 := by
  have h := fb_rng a
  show a.toInt.toNat < _
  omega
theorem cl_end {a : Int32} {k : Nat} (hk : k ≤ a.toNatClampNeg) (h : a ≤ nI k) : a.toNatClampNeg = k := by
  have h1 := cl_lt (a := a)
  have h2 := nI_toInt (n := k) (by omega)
  have h3 : a.toNatClampNeg = a.toInt.toNat := rfl
  rw [Int32.le_iff_toInt_le, h2] at h
  omega
theorem cl_go {a : Int32} {k : Nat} (hk : k ≤ a.toNatClampNeg) (h : ¬ a ≤ nI k) : k < a.toNatClampNeg := by
  have h1 := cl_lt (a := a)
  have h2 := nI_toInt (n := k) (by omega)
  have h3 : a.toNatClampNeg = a.toInt.toNat := rfl
  rw [Int32.le_iff_toInt_le, h2] at h
  omega
theorem cl_end1 {a : Int32} {k : Nat} (hN : a.toNatClampNeg < 2 ^ 30) (hk : k ≤ a.toNatClampNeg) (h : a < nI (k + 1)) : a.toNatClampNeg = k := by
  have h2 := nI_toInt (n := k + 1) (by omega)
  have h3 : a.toNatClampNeg = a.toInt.toNat := rfl
  rw [Int32.lt_iff_toInt_lt, h2] at h
  omega
theorem cl_go1 {a : Int32} {k : Nat} (hN : a.toNatClampNeg < 2 ^ 30) (hk : k ≤ a.toNatClampNeg) (h : ¬ a < nI (k + 1)) : k < a.toNatClampNeg := by
  have h2 := nI_toInt (n := k + 1) (by omega)
  have h3 : a.toNatClampNeg = a.toInt.toNat := rfl
  rw [Int32.lt_iff_toInt_lt, h2] at h
  omega
theorem nI_L_ne {k : Nat} (h : k + 1 < 2 ^ 31) : ¬ (nI (k + 1)).toInt64 = 0 := by
  rw [nI_l h]
  exact fun q => absurd ((pk_lEQ (a := k + 1) (b := 0) (by omega) (by omega)).mp q) (by omega)
theorem f_cd_0 (n : Nat) (a : Int64) : f_cd n a 0 = a := by cases n <;> simp [f_cd]
theorem f_common_ne (a b : Int64) : ¬ f_common a b = 0 := by
  unfold f_common
  split
  · rename_i h
    intro q
    rw [q] at h
    exact absurd h (by decide)
  · decide
end
section
theorem kd_X2_isWithin : yX2_isWithin.cls ≠ "java/lang/invoke/MethodHandle" ∧ yX2_isWithin.cls ≠ "java/lang/invoke/VarHandle" ∧ (parseMethodDescriptor yX2_isWithin.desc).map (fun d => d.parameters.length) = some 3 := by decide +kernel
set_option maxHeartbeats 4000000 in
set_option maxRecDepth 100000 in
theorem c_X2_isWithin (l : Launch) {a0 a1 a2 : Int32} : Met l yX2_isWithin wsX2_isWithin ({ frames := 0, cells := 0, slots := 0, locals := 0 }) (va_Pc ([.int a0, .int a1, .int a2] : List Value) (fun _ => True)) (QcRead (bI (a1 ≤ a0 ∧ a0 ≤ a2))) 0 0 (fun _ => False) := by
  refine Met.ofW (cc := cX2_isWithin) (maxL := 3) (ret := (some .boolean)) (by decide) rfl ?_
  intro p e s m args below meth c s₁ B hml hv
  obtain ⟨rfl, -⟩ := hv
  have hx := B.exec
  have hb := B.bytes
  have hr := B.returns
  have hts := atoms_spec (ws := wsX2_isWithin) B.pre
  have hown : s.vm.findClass RX2 = some m.cls := findClass_of_methodNamed B.named
  have hlocks := B.notSynchronized
  have hl := lv_entry ([.int a0, .int a1, .int a2] : List Value) (n := 3) (Nat.le_of_ble_eq_true rfl)
  rw [lg_entry_eq]
  generalize (lg_sl ([.int a0, .int a1, .int a2] : List Value) ++ List.replicate (3 - (lg_sl ([.int a0, .int a1, .int a2] : List Value)).length) Slot.unset).toArray = ls at hl ⊢
  have hl : lv_has ls 3 [(0, .int a0), (1, .int a1), (2, .int a2)] := hl
  refine lv_iload_n hx hb dX2_isWithin_0 rfl (lv_at hl 1 rfl) ?_
  refine lv_iload_n hx hb dX2_isWithin_1 rfl (lv_at hl 0 rfl) ?_
  refine lv_icmp_gt (tgt := 14) hx hb dX2_isWithin_2 (by decide) (fun c_2 => ?_) (fun c_2 => ?_)
  · skip
    refine lv_iconst (v := 0) hx hb dX2_isWithin_14 (by decide) ?_
    exact W.zret hx hb hr (by first | rfl | exact bI_nar) (fun t ht _ => ri (by first | exact (bI_t ⟨Int32.not_lt.mp c_2, Int32.not_lt.mp c_7⟩).symm | exact (bI_f (fun h => Int32.not_lt.mpr h.2 c_7)).symm | exact (bI_f (fun h => Int32.not_lt.mpr h.1 c_2)).symm) ht) no_locs dX2_isWithin_15
  · skip
    refine lv_iload_n hx hb dX2_isWithin_5 rfl (lv_at hl 0 rfl) ?_
    refine lv_iload_n hx hb dX2_isWithin_6 rfl (lv_at hl 2 rfl) ?_
    refine lv_icmp_gt (tgt := 14) hx hb dX2_isWithin_7 (by decide) (fun c_7 => ?_) (fun c_7 => ?_)
    · skip
      refine lv_iconst (v := 0) hx hb dX2_isWithin_14 (by decide) ?_
      exact W.zret hx hb hr (by first | rfl | exact bI_nar) (fun t ht _ => ri (by first | exact (bI_t ⟨Int32.not_lt.mp c_2, Int32.not_lt.mp c_7⟩).symm | exact (bI_f (fun h => Int32.not_lt.mpr h.2 c_7)).symm | exact (bI_f (fun h => Int32.not_lt.mpr h.1 c_2)).symm) ht) no_locs dX2_isWithin_15
    · skip
      refine lv_iconst (v := 1) hx hb dX2_isWithin_10 (by decide) ?_
      refine lv_goto (tgt := 15) hx hb dX2_isWithin_11 (by decide) ?_
      exact W.zret hx hb hr (by first | rfl | exact bI_nar) (fun t ht _ => ri (by first | exact (bI_t ⟨Int32.not_lt.mp c_2, Int32.not_lt.mp c_7⟩).symm | exact (bI_f (fun h => Int32.not_lt.mpr h.2 c_7)).symm | exact (bI_f (fun h => Int32.not_lt.mpr h.1 c_2)).symm) ht) no_locs dX2_isWithin_15
theorem kd_X2_isStream : yX2_isStream.cls ≠ "java/lang/invoke/MethodHandle" ∧ yX2_isStream.cls ≠ "java/lang/invoke/VarHandle" ∧ (parseMethodDescriptor yX2_isStream.desc).map (fun d => d.parameters.length) = some 1 := by decide +kernel
set_option maxHeartbeats 4000000 in
set_option maxRecDepth 100000 in
theorem c_X2_isStream (l : Launch) {a0 : Int32} : Met l yX2_isStream wsX2_isStream ({ frames := 1, cells := 0, slots := 0, locals := 22 }) (va_Pc ([.int a0] : List Value) (fun _ => True)) (QcRead (bI (0 ≤ a0 ∧ a0 ≤ 11))) 0 0 (fun _ => False) := by
  refine Met.ofW (cc := cX2_isStream) (maxL := 1) (ret := (some .boolean)) (by decide) rfl ?_
  intro p e s m args below meth c s₁ B hml hv
  obtain ⟨rfl, -⟩ := hv
  have hx := B.exec
  have hb := B.bytes
  have hr := B.returns
  have hts := atoms_spec (ws := wsX2_isStream) B.pre
  have hown : s.vm.findClass RX2 = some m.cls := findClass_of_methodNamed B.named
  have hlocks := B.notSynchronized
  have hl := lv_entry ([.int a0] : List Value) (n := 1) (Nat.le_of_ble_eq_true rfl)
  rw [lg_entry_eq]
  generalize (lg_sl ([.int a0] : List Value) ++ List.replicate (1 - (lg_sl ([.int a0] : List Value)).length) Slot.unset).toArray = ls at hl ⊢
  have hl : lv_has ls 1 [(0, .int a0)] := hl
  refine lv_iload_n hx hb dX2_isStream_0 rfl (lv_at hl 0 rfl) ?_
  refine lv_iconst (v := 0) hx hb dX2_isStream_1 (by decide) ?_
  refine lv_bipush (v := 11) hx hb dX2_isStream_2 (by decide) ?_
  refine ro_i (va_runS ⟨hx, hb, hml, hown, hts⟩ (c_X2_isWithin l ) (va_cwS 3 hts gX2_isStream_X2_isWithin rfl rfl rfl kd_X2_isWithin ⟨Nat.le_of_ble_eq_true rfl, Nat.le_of_ble_eq_true rfl⟩) preS0 rfl rfl hl.1 rfl (lv_room (Nat.le_of_ble_eq_true rfl)) dX2_isStream_4 ⟨Nat.zero_le _, Nat.zero_le _⟩) ?_
  exact W.zret hx hb hr (by first | rfl | exact bI_nar) (fun t ht _ => ri rfl ht) no_locs dX2_isStream_7
theorem kd_X2_isSource : yX2_isSource.cls ≠ "java/lang/invoke/MethodHandle" ∧ yX2_isSource.cls ≠ "java/lang/invoke/VarHandle" ∧ (parseMethodDescriptor yX2_isSource.desc).map (fun d => d.parameters.length) = some 1 := by decide +kernel
set_option maxHeartbeats 4000000 in
set_option maxRecDepth 100000 in
theorem c_X2_isSource (l : Launch) {a0 : Int32} : Met l yX2_isSource wsX2_isSource ({ frames := 1, cells := 0, slots := 0, locals := 22 }) (va_Pc ([.int a0] : List Value) (fun _ => True)) (QcRead (bI (0 ≤ a0 ∧ a0 ≤ 3))) 0 0 (fun _ => False) := by
  refine Met.ofW (cc := cX2_isSource) (maxL := 1) (ret := (some .boolean)) (by decide) rfl ?_
  intro p e s m args below meth c s₁ B hml hv
  obtain ⟨rfl, -⟩ := hv
  have hx := B.exec
  have hb := B.bytes
  have hr := B.returns
  have hts := atoms_spec (ws := wsX2_isSource) B.pre
  have hown : s.vm.findClass RX2 = some m.cls := findClass_of_methodNamed B.named
  have hlocks := B.notSynchronized
  have hl := lv_entry ([.int a0] : List Value) (n := 1) (Nat.le_of_ble_eq_true rfl)
  rw [lg_entry_eq]
  generalize (lg_sl ([.int a0] : List Value) ++ List.replicate (1 - (lg_sl ([.int a0] : List Value)).length) Slot.unset).toArray = ls at hl ⊢
  have hl : lv_has ls 1 [(0, .int a0)] := hl
  refine lv_iload_n hx hb dX2_isSource_0 rfl (lv_at hl 0 rfl) ?_
  refine lv_iconst (v := 0) hx hb dX2_isSource_1 (by decide) ?_
  refine lv_iconst (v := 3) hx hb dX2_isSource_2 (by decide) ?_
  refine ro_i (va_runS ⟨hx, hb, hml, hown, hts⟩ (c_X2_isWithin l ) (va_cwS 3 hts gX2_isSource_X2_isWithin rfl rfl rfl kd_X2_isWithin ⟨Nat.le_of_ble_eq_true rfl, Nat.le_of_ble_eq_true rfl⟩) preS0 rfl rfl hl.1 rfl (lv_room (Nat.le_of_ble_eq_true rfl)) dX2_isSource_3 ⟨Nat.zero_le _, Nat.zero_le _⟩) ?_
  exact W.zret hx hb hr (by first | rfl | exact bI_nar) (fun t ht _ => ri rfl ht) no_locs dX2_isSource_6
theorem kd_X2_isMachine : yX2_isMachine.cls ≠ "java/lang/invoke/MethodHandle" ∧ yX2_isMachine.cls ≠ "java/lang/invoke/VarHandle" ∧ (parseMethodDescriptor yX2_isMachine.desc).map (fun d => d.parameters.length) = some 1 := by decide +kernel
set_option maxHeartbeats 4000000 in
set_option maxRecDepth 100000 in
theorem c_X2_isMachine (l : Launch) {a0 : Int32} : Met l yX2_isMachine wsX2_isMachine ({ frames := 1, cells := 0, slots := 0, locals := 22 }) (va_Pc ([.int a0] : List Value) (fun _ => True)) (QcRead (bI ((2 ≤ a0 ∧ a0 ≤ 8) ∧ remI a0 2 = 0))) 0 0 (fun _ => False) := by
  refine Met.ofW (cc := cX2_isMachine) (maxL := 1) (ret := (some .boolean)) (by decide) rfl ?_
  intro p e s m args below meth c s₁ B hml hv
  obtain ⟨rfl, -⟩ := hv
  have hx := B.exec
  have hb := B.bytes
  have hr := B.returns
  have hts := atoms_spec (ws := wsX2_isMachine) B.pre
  have hown : s.vm.findClass RX2 = some m.cls := findClass_of_methodNamed B.named
  have hlocks := B.notSynchronized
  have hl := lv_entry ([.int a0] : List Value) (n := 1) (Nat.le_of_ble_eq_true rfl)
  rw [lg_entry_eq]
  generalize (lg_sl ([.int a0] : List Value) ++ List.replicate (1 - (lg_sl ([.int a0] : List Value)).length) Slot.unset).toArray = ls at hl ⊢
  have hl : lv_has ls 1 [(0, .int a0)] := hl
  refine lv_iload_n hx hb dX2_isMachine_0 rfl (lv_at hl 0 rfl) ?_
  refine lv_iconst (v := 2) hx hb dX2_isMachine_1 (by decide) ?_
  refine lv_bipush (v := 8) hx hb dX2_isMachine_2 (by decide) ?_
  refine ro_i (va_runS ⟨hx, hb, hml, hown, hts⟩ (c_X2_isWithin l ) (va_cwS 3 hts gX2_isMachine_X2_isWithin rfl rfl rfl kd_X2_isWithin ⟨Nat.le_of_ble_eq_true rfl, Nat.le_of_ble_eq_true rfl⟩) preS0 rfl rfl hl.1 rfl (lv_room (Nat.le_of_ble_eq_true rfl)) dX2_isMachine_4 ⟨Nat.zero_le _, Nat.zero_le _⟩) ?_
  refine lv_if_eq (tgt := 20) hx hb dX2_isMachine_7 (by decide) (fun c_7 => ?_) (fun c_7 => ?_)
  · skip
    have c_7 := bI_eq.mp c_7
    refine lv_iconst (v := 0) hx hb dX2_isMachine_20 (by decide) ?_
    exact W.zret hx hb hr (by first | rfl | exact bI_nar) (fun t ht _ => ri (by first | exact (bI_t ⟨c_7, c_13⟩).symm | exact (bI_f (fun h => c_13 h.2)).symm | exact (bI_f (fun h => c_7 h.1)).symm) ht) no_locs dX2_isMachine_21
  · skip
    have c_7 := bI_ne.mp c_7
    refine lv_iload_n hx hb dX2_isMachine_10 rfl (lv_at hl 0 rfl) ?_
    refine lv_iconst (v := 2) hx hb dX2_isMachine_11 (by decide) ?_
    refine lv_irem hx hb dX2_isMachine_12 (by decide) ?_
    refine lv_if_ne (tgt := 20) hx hb dX2_isMachine_13 (by decide) (fun c_13 => ?_) (fun c_13 => ?_)
    · skip
      refine lv_iconst (v := 0) hx hb dX2_isMachine_20 (by decide) ?_
      exact W.zret hx hb hr (by first | rfl | exact bI_nar) (fun t ht _ => ri (by first | exact (bI_t ⟨c_7, c_13⟩).symm | exact (bI_f (fun h => c_13 h.2)).symm | exact (bI_f (fun h => c_7 h.1)).symm) ht) no_locs dX2_isMachine_21
    · skip
      refine lv_iconst (v := 1) hx hb dX2_isMachine_16 (by decide) ?_
      refine lv_goto (tgt := 21) hx hb dX2_isMachine_17 (by decide) ?_
      exact W.zret hx hb hr (by first | rfl | exact bI_nar) (fun t ht _ => ri (by first | exact (bI_t ⟨c_7, c_13⟩).symm | exact (bI_f (fun h => c_13 h.2)).symm | exact (bI_f (fun h => c_7 h.1)).symm) ht) no_locs dX2_isMachine_21
theorem kd_X2_bitOf : yX2_bitOf.cls ≠ "java/lang/invoke/MethodHandle" ∧ yX2_bitOf.cls ≠ "java/lang/invoke/VarHandle" ∧ (parseMethodDescriptor yX2_bitOf.desc).map (fun d => d.parameters.length) = some 2 := by decide +kernel
set_option maxHeartbeats 4000000 in
set_option maxRecDepth 100000 in
theorem c_X2_bitOf (l : Launch) {a0 : Int64} {a1 : Int32} : Met l yX2_bitOf wsX2_bitOf ({ frames := 0, cells := 0, slots := 0, locals := 0 }) (va_Pc ([.long a0, .int a1] : List Value) (fun _ => True)) (QcRead (f_bitOf a0 a1)) 0 0 (fun _ => False) := by
  refine Met.ofW (cc := cX2_bitOf) (maxL := 3) (ret := (some .int)) (by decide) rfl ?_
  intro p e s m args below meth c s₁ B hml hv
  obtain ⟨rfl, -⟩ := hv
  have hx := B.exec
  have hb := B.bytes
  have hr := B.returns
  have hts := atoms_spec (ws := wsX2_bitOf) B.pre
  have hown : s.vm.findClass RX2 = some m.cls := findClass_of_methodNamed B.named
  have hlocks := B.notSynchronized
  have hl := lv_entry ([.long a0, .int a1] : List Value) (n := 3) (Nat.le_of_ble_eq_true rfl)
  rw [lg_entry_eq]
  generalize (lg_sl ([.long a0, .int a1] : List Value) ++ List.replicate (3 - (lg_sl ([.long a0, .int a1] : List Value)).length) Slot.unset).toArray = ls at hl ⊢
  have hl : lv_has ls 3 [(0, .long a0), (2, .int a1)] := hl
  refine lv_lload_n hx hb dX2_bitOf_0 rfl (lv_at hl 0 rfl) ?_
  refine lv_iload_n hx hb dX2_bitOf_1 rfl (lv_at hl 1 rfl) ?_
  refine lv_lushr hx hb dX2_bitOf_2 rfl ?_
  refine lv_lconst (v := 1) hx hb dX2_bitOf_3 (by decide) ?_
  refine lv_land hx hb dX2_bitOf_4 ?_
  refine lv_l2i hx hb dX2_bitOf_5 rfl ?_
  exact W.iret hx hb hr (fun t ht _ => ri rfl ht) no_locs dX2_bitOf_6
theorem kd_X2_lowBits : yX2_lowBits.cls ≠ "java/lang/invoke/MethodHandle" ∧ yX2_lowBits.cls ≠ "java/lang/invoke/VarHandle" ∧ (parseMethodDescriptor yX2_lowBits.desc).map (fun d => d.parameters.length) = some 1 := by decide +kernel
set_option maxHeartbeats 4000000 in
set_option maxRecDepth 100000 in
theorem c_X2_lowBits (l : Launch) {a0 : Int32} : Met l yX2_lowBits wsX2_lowBits ({ frames := 0, cells := 0, slots := 0, locals := 0 }) (va_Pc ([.int a0] : List Value) (fun _ => True)) (qL (f_low a0)) 0 0 (fun _ => False) := by
  refine Met.ofW (cc := cX2_lowBits) (maxL := 1) (ret := (some .long)) (by decide) rfl ?_
  intro p e s m args below meth c s₁ B hml hv
  obtain ⟨rfl, -⟩ := hv
  have hx := B.exec
  have hb := B.bytes
  have hr := B.returns
  have hts := atoms_spec (ws := wsX2_lowBits) B.pre
  have hown : s.vm.findClass RX2 = some m.cls := findClass_of_methodNamed B.named
  have hlocks := B.notSynchronized
  have hw0 := hts (.constantLong RX2 81 (-1)) (by decide +kernel)
  have hl := lv_entry ([.int a0] : List Value) (n := 1) (Nat.le_of_ble_eq_true rfl)
  rw [lg_entry_eq]
  generalize (lg_sl ([.int a0] : List Value) ++ List.replicate (1 - (lg_sl ([.int a0] : List Value)).length) Slot.unset).toArray = ls at hl ⊢
  have hl : lv_has ls 1 [(0, .int a0)] := hl
  refine lv_iload_n hx hb dX2_lowBits_0 rfl (lv_at hl 0 rfl) ?_
  refine lv_bipush (v := 64) hx hb dX2_lowBits_1 (by decide) ?_
  refine lv_icmp_lt (tgt := 12) hx hb dX2_lowBits_3 (by decide) (fun c_3 => ?_) (fun c_3 => ?_)
  · skip
    refine lv_lconst (v := 1) hx hb dX2_lowBits_12 (by decide) ?_
    refine lv_iload_n hx hb dX2_lowBits_13 rfl (lv_at hl 0 rfl) ?_
    refine lv_lshl hx hb dX2_lowBits_14 rfl ?_
    refine lv_lconst (v := 1) hx hb dX2_lowBits_15 (by decide) ?_
    refine lv_lsub hx hb dX2_lowBits_16 ?_
    exact W.lret hx hb hr (fun t ht _ => rl (by unfold f_low; first | (rw [if_pos c_3]; rfl) | rw [if_neg c_3]) ht) no_locs dX2_lowBits_17
  · skip
    refine lv_ldc2 (v := (-1)) hx hb hown hw0 dX2_lowBits_6 ?_
    refine lv_goto (tgt := 17) hx hb dX2_lowBits_9 (by decide) ?_
    exact W.lret hx hb hr (fun t ht _ => rl (by unfold f_low; first | (rw [if_pos c_3]; rfl) | rw [if_neg c_3]) ht) no_locs dX2_lowBits_17
theorem kd_X2_gated : yX2_gated.cls ≠ "java/lang/invoke/MethodHandle" ∧ yX2_gated.cls ≠ "java/lang/invoke/VarHandle" ∧ (parseMethodDescriptor yX2_gated.desc).map (fun d => d.parameters.length) = some 4 := by decide +kernel
set_option maxHeartbeats 4000000 in
set_option maxRecDepth 100000 in
theorem c_X2_gated (l : Launch) {a0 : Int32} {a1 a2 a3 : Int64} : Met l yX2_gated wsX2_gated ({ frames := 0, cells := 0, slots := 0, locals := 0 }) (va_Pc ([.int a0, .long a1, .long a2, .long a3] : List Value) (fun _ => True)) (qL (f_gated a0 a1 a2 a3)) 0 0 (fun _ => False) := by
  refine Met.ofW (cc := cX2_gated) (maxL := 7) (ret := (some .long)) (by decide) rfl ?_
  intro p e s m args below meth c s₁ B hml hv
  obtain ⟨rfl, -⟩ := hv
  have hx := B.exec
  have hb := B.bytes
  have hr := B.returns
  have hts := atoms_spec (ws := wsX2_gated) B.pre
  have hown : s.vm.findClass RX2 = some m.cls := findClass_of_methodNamed B.named
  have hlocks := B.notSynchronized
  have hw0 := hts (.constantLong RX2 81 (-1)) (by decide +kernel)
  have hl := lv_entry ([.int a0, .long a1, .long a2, .long a3] : List Value) (n := 7) (Nat.le_of_ble_eq_true rfl)
  rw [lg_entry_eq]
  generalize (lg_sl ([.int a0, .long a1, .long a2, .long a3] : List Value) ++ List.replicate (7 - (lg_sl ([.int a0, .long a1, .long a2, .long a3] : List Value)).length) Slot.unset).toArray = ls at hl ⊢
  have hl : lv_has ls 7 [(0, .int a0), (1, .long a1), (3, .long a2), (5, .long a3)] := hl
  refine lv_iload_n hx hb dX2_gated_0 rfl (lv_at hl 0 rfl) ?_
  refine lv_topi (fun z_1 e_1 => ?_)
  by_cases n_1_0 : z_1 = 0
  · subst n_1_0
    refine lv_tableIn (off := 39) (tgt := 40) hx hb dX2_gated_1 (by decide) (by decide) (by decide) (by decide) ?_
    refine lv_lload_n hx hb dX2_gated_40 rfl (lv_at hl 1 rfl) ?_
    refine lv_lload_n hx hb dX2_gated_41 rfl (lv_at hl 2 rfl) ?_
    refine lv_land hx hb dX2_gated_42 ?_
    exact W.lret hx hb hr (fun t ht _ => rl (by rw [← e_1]; first | rfl | (unfold f_gated; rw [if_neg n_1_0, if_neg n_1_1, if_neg n_1_2, if_neg n_1_3, if_neg n_1_4, if_neg n_1_5])) ht) no_locs dX2_gated_43
  by_cases n_1_1 : z_1 = 1
  · subst n_1_1
    refine lv_tableIn (off := 43) (tgt := 44) hx hb dX2_gated_1 (by decide) (by decide) (by decide) (by decide) ?_
    refine lv_lload_n hx hb dX2_gated_44 rfl (lv_at hl 1 rfl) ?_
    refine lv_lload_n hx hb dX2_gated_45 rfl (lv_at hl 2 rfl) ?_
    refine lv_lor hx hb dX2_gated_46 ?_
    exact W.lret hx hb hr (fun t ht _ => rl (by rw [← e_1]; first | rfl | (unfold f_gated; rw [if_neg n_1_0, if_neg n_1_1, if_neg n_1_2, if_neg n_1_3, if_neg n_1_4, if_neg n_1_5])) ht) no_locs dX2_gated_47
  by_cases n_1_2 : z_1 = 2
  · subst n_1_2
    refine lv_tableIn (off := 47) (tgt := 48) hx hb dX2_gated_1 (by decide) (by decide) (by decide) (by decide) ?_
    refine lv_lload_n hx hb dX2_gated_48 rfl (lv_at hl 1 rfl) ?_
    refine lv_lload_n hx hb dX2_gated_49 rfl (lv_at hl 2 rfl) ?_
    refine lv_lxor hx hb dX2_gated_50 ?_
    exact W.lret hx hb hr (fun t ht _ => rl (by rw [← e_1]; first | rfl | (unfold f_gated; rw [if_neg n_1_0, if_neg n_1_1, if_neg n_1_2, if_neg n_1_3, if_neg n_1_4, if_neg n_1_5])) ht) no_locs dX2_gated_51
  by_cases n_1_3 : z_1 = 3
  · subst n_1_3
    refine lv_tableIn (off := 51) (tgt := 52) hx hb dX2_gated_1 (by decide) (by decide) (by decide) (by decide) ?_
    refine lv_lload_n hx hb dX2_gated_52 rfl (lv_at hl 1 rfl) ?_
    refine lv_lload_n hx hb dX2_gated_53 rfl (lv_at hl 2 rfl) ?_
    refine lv_lxor hx hb dX2_gated_54 ?_
    refine lv_ldc2 (v := (-1)) hx hb hown hw0 dX2_gated_55 ?_
    refine lv_lxor hx hb dX2_gated_58 ?_
    exact W.lret hx hb hr (fun t ht _ => rl (by rw [← e_1]; first | rfl | (unfold f_gated; rw [if_neg n_1_0, if_neg n_1_1, if_neg n_1_2, if_neg n_1_3, if_neg n_1_4, if_neg n_1_5])) ht) no_locs dX2_gated_59
  by_cases n_1_4 : z_1 = 4
  · subst n_1_4
    refine lv_tableIn (off := 59) (tgt := 60) hx hb dX2_gated_1 (by decide) (by decide) (by decide) (by decide) ?_
    refine lv_lload_n hx hb dX2_gated_60 rfl (lv_at hl 1 rfl) ?_
    refine lv_lload_n hx hb dX2_gated_61 rfl (lv_at hl 2 rfl) ?_
    refine lv_ldc2 (v := (-1)) hx hb hown hw0 dX2_gated_62 ?_
    refine lv_lxor hx hb dX2_gated_65 ?_
    refine lv_land hx hb dX2_gated_66 ?_
    exact W.lret hx hb hr (fun t ht _ => rl (by rw [← e_1]; first | rfl | (unfold f_gated; rw [if_neg n_1_0, if_neg n_1_1, if_neg n_1_2, if_neg n_1_3, if_neg n_1_4, if_neg n_1_5])) ht) no_locs dX2_gated_67
  by_cases n_1_5 : z_1 = 5
  · subst n_1_5
    refine lv_tableIn (off := 67) (tgt := 68) hx hb dX2_gated_1 (by decide) (by decide) (by decide) (by decide) ?_
    refine lv_lload_n hx hb dX2_gated_68 rfl (lv_at hl 2 rfl) ?_
    refine lv_lload hx hb dX2_gated_69 (lv_at hl 3 rfl) ?_
    refine lv_land hx hb dX2_gated_71 ?_
    refine lv_lload_n hx hb dX2_gated_72 rfl (lv_at hl 1 rfl) ?_
    refine lv_lload hx hb dX2_gated_73 (lv_at hl 3 rfl) ?_
    refine lv_ldc2 (v := (-1)) hx hb hown hw0 dX2_gated_75 ?_
    refine lv_lxor hx hb dX2_gated_78 ?_
    refine lv_land hx hb dX2_gated_79 ?_
    refine lv_lor hx hb dX2_gated_80 ?_
    exact W.lret hx hb hr (fun t ht _ => rl (by rw [← e_1]; first | rfl | (unfold f_gated; rw [if_neg n_1_0, if_neg n_1_1, if_neg n_1_2, if_neg n_1_3, if_neg n_1_4, if_neg n_1_5])) ht) no_locs dX2_gated_81
  have nb_1 : z_1.toInt < 0 ∨ 5 < z_1.toInt := by
    have q0 := lv_neT (a := 0) n_1_0 (by decide)
    have q1 := lv_neT (a := 1) n_1_1 (by decide)
    have q2 := lv_neT (a := 2) n_1_2 (by decide)
    have q3 := lv_neT (a := 3) n_1_3 (by decide)
    have q4 := lv_neT (a := 4) n_1_4 (by decide)
    have q5 := lv_neT (a := 5) n_1_5 (by decide)
    omega
  refine lv_tableOut (tgt := 82) hx hb dX2_gated_1 nb_1 (by decide) ?_
  refine lv_lload_n hx hb dX2_gated_82 rfl (lv_at hl 1 rfl) ?_
  refine lv_lload_n hx hb dX2_gated_83 rfl (lv_at hl 2 rfl) ?_
  refine lv_land hx hb dX2_gated_84 ?_
  refine lv_lload_n hx hb dX2_gated_85 rfl (lv_at hl 1 rfl) ?_
  refine lv_lload hx hb dX2_gated_86 (lv_at hl 3 rfl) ?_
  refine lv_land hx hb dX2_gated_88 ?_
  refine lv_lor hx hb dX2_gated_89 ?_
  refine lv_lload_n hx hb dX2_gated_90 rfl (lv_at hl 2 rfl) ?_
  refine lv_lload hx hb dX2_gated_91 (lv_at hl 3 rfl) ?_
  refine lv_land hx hb dX2_gated_93 ?_
  refine lv_lor hx hb dX2_gated_94 ?_
  exact W.lret hx hb hr (fun t ht _ => rl (by rw [← e_1]; first | rfl | (unfold f_gated; rw [if_neg n_1_0, if_neg n_1_1, if_neg n_1_2, if_neg n_1_3, if_neg n_1_4, if_neg n_1_5])) ht) no_locs dX2_gated_95
theorem kd_X2_isUpper : yX2_isUpper.cls ≠ "java/lang/invoke/MethodHandle" ∧ yX2_isUpper.cls ≠ "java/lang/invoke/VarHandle" ∧ (parseMethodDescriptor yX2_isUpper.desc).map (fun d => d.parameters.length) = some 2 := by decide +kernel
set_option maxHeartbeats 4000000 in
set_option maxRecDepth 100000 in
theorem c_X2_isUpper (l : Launch) {a0 a1 : Int32} : Met l yX2_isUpper wsX2_isUpper ({ frames := 0, cells := 0, slots := 0, locals := 0 }) (va_Pc ([.int a0, .int a1] : List Value) (fun _ => True)) (QcRead (bI (a1 / 2 ≤ a0))) 0 0 (fun _ => False) := by
  refine Met.ofW (cc := cX2_isUpper) (maxL := 2) (ret := (some .boolean)) (by decide) rfl ?_
  intro p e s m args below meth c s₁ B hml hv
  obtain ⟨rfl, -⟩ := hv
  have hx := B.exec
  have hb := B.bytes
  have hr := B.returns
  have hts := atoms_spec (ws := wsX2_isUpper) B.pre
  have hown : s.vm.findClass RX2 = some m.cls := findClass_of_methodNamed B.named
  have hlocks := B.notSynchronized
  have hl := lv_entry ([.int a0, .int a1] : List Value) (n := 2) (Nat.le_of_ble_eq_true rfl)
  rw [lg_entry_eq]
  generalize (lg_sl ([.int a0, .int a1] : List Value) ++ List.replicate (2 - (lg_sl ([.int a0, .int a1] : List Value)).length) Slot.unset).toArray = ls at hl ⊢
  have hl : lv_has ls 2 [(0, .int a0), (1, .int a1)] := hl
  refine lv_iload_n hx hb dX2_isUpper_0 rfl (lv_at hl 0 rfl) ?_
  refine lv_iload_n hx hb dX2_isUpper_1 rfl (lv_at hl 1 rfl) ?_
  refine lv_iconst (v := 2) hx hb dX2_isUpper_2 (by decide) ?_
  refine lv_idiv hx hb dX2_isUpper_3 (by decide) ?_
  refine lv_icmp_lt (tgt := 11) hx hb dX2_isUpper_4 (by decide) (fun c_4 => ?_) (fun c_4 => ?_)
  · skip
    refine lv_iconst (v := 0) hx hb dX2_isUpper_11 (by decide) ?_
    exact W.zret hx hb hr (by first | rfl | exact bI_nar) (fun t ht _ => ri (by first | exact (bI_t (Int32.not_lt.mp c_4)).symm | exact (bI_f (fun h => Int32.not_lt.mpr h c_4)).symm) ht) no_locs dX2_isUpper_12
  · skip
    refine lv_iconst (v := 1) hx hb dX2_isUpper_7 (by decide) ?_
    refine lv_goto (tgt := 12) hx hb dX2_isUpper_8 (by decide) ?_
    exact W.zret hx hb hr (by first | rfl | exact bI_nar) (fun t ht _ => ri (by first | exact (bI_t (Int32.not_lt.mp c_4)).symm | exact (bI_f (fun h => Int32.not_lt.mpr h c_4)).symm) ht) no_locs dX2_isUpper_12
theorem kd_X2_power : yX2_power.cls ≠ "java/lang/invoke/MethodHandle" ∧ yX2_power.cls ≠ "java/lang/invoke/VarHandle" ∧ (parseMethodDescriptor yX2_power.desc).map (fun d => d.parameters.length) = some 2 := by decide +kernel
set_option maxHeartbeats 4000000 in
set_option maxRecDepth 100000 in
theorem c_X2_power (l : Launch) {a0 : Int64} {a1 : Int32} : Met l yX2_power wsX2_power ({ frames := 0, cells := 0, slots := 0, locals := 0 }) (va_Pc ([.long a0, .int a1] : List Value) (fun _ => True)) (qL (f_power a0 a1.toNatClampNeg)) 0 0 (fun _ => False) := by
  refine Met.ofW (cc := cX2_power) (maxL := 6) (ret := (some .long)) (by decide) rfl ?_
  intro p e s m args below meth c s₁ B hml hv
  obtain ⟨rfl, -⟩ := hv
  have hx := B.exec
  have hb := B.bytes
  have hr := B.returns
  have hts := atoms_spec (ws := wsX2_power) B.pre
  have hown : s.vm.findClass RX2 = some m.cls := findClass_of_methodNamed B.named
  have hlocks := B.notSynchronized
  have hl := lv_entry ([.long a0, .int a1] : List Value) (n := 6) (Nat.le_of_ble_eq_true rfl)
  rw [lg_entry_eq]
  generalize (lg_sl ([.long a0, .int a1] : List Value) ++ List.replicate (6 - (lg_sl ([.long a0, .int a1] : List Value)).length) Slot.unset).toArray = ls at hl ⊢
  have hl : lv_has ls 6 [(0, .long a0), (2, .int a1)] := hl
  refine lv_lconst (v := 1) hx hb dX2_power_0 (by decide) ?_
  refine lv_lstore_n (lv' := [(3, .long _), (0, .long a0), (2, .int a1)]) hx hb dX2_power_1 rfl hl (by decide) rfl (fun ls hl => ?_)
  refine lv_iconst (v := 0) hx hb dX2_power_2 (by decide) ?_
  refine lv_istore (lv' := [(5, .int _), (3, .long _), (0, .long a0), (2, .int a1)]) hx hb dX2_power_3 hl (by decide) rfl (fun ls hl => ?_)
  have L5 : ∀ (n5 : Nat) (k : Nat), a1.toNatClampNeg + 1 ≤ k + n5 → (k ≤ a1.toNatClampNeg) → ∀ (ls : Array Slot), lv_has ls 6 [(0, .long a0), (2, .int a1), (3, .long (f_power a0 k)), (5, .int (nI k))] → W p l e { frames := 0, cells := 0, slots := 0, locals := 0 } s m ([.long a0, .int a1] : List Value).toArray below meth c s.heap [] 0 0 (MQ below (qL (f_power a0 a1.toNatClampNeg)) ([.long a0, .int a1] : List Value).toArray s 0 0 (fun _ => False)) (F0 m 5 ls []) := by
    intro n5
    induction n5 with
    | zero =>
      intro k hf5 hk
      exact absurd hf5 (by omega)
    | succ n5 ih5 =>
      intro k hf5 hk ls hl
      refine lv_iload hx hb dX2_power_5 (lv_at hl 3 rfl) ?_
      refine lv_iload_n hx hb dX2_power_7 rfl (lv_at hl 1 rfl) ?_
      refine lv_icmp_ge (tgt := 21) hx hb dX2_power_8 (by decide) (fun c_8 => ?_) (fun c_8 => ?_)
      · skip
        refine lv_lload_n hx hb dX2_power_21 rfl (lv_at hl 2 rfl) ?_
        exact W.lret hx hb hr (fun t ht _ => rl (by rw [cl_end hk c_8]) ht) no_locs dX2_power_22
      · skip
        refine lv_lload_n hx hb dX2_power_11 rfl (lv_at hl 2 rfl) ?_
        refine lv_lload_n hx hb dX2_power_12 rfl (lv_at hl 0 rfl) ?_
        refine lv_lmul hx hb dX2_power_13 ?_
        refine lv_lstore_n (lv' := [(3, .long _), (0, .long a0), (2, .int a1), (5, .int (nI k))]) hx hb dX2_power_14 rfl hl (by decide) rfl (fun ls hl => ?_)
        refine lv_iinc (lv' := [(5, .int (nI (k + 1))), (3, .long _), (0, .long a0), (2, .int a1)]) hx hb dX2_power_15 hl (k := 3) rfl (nI_1 _) (by decide) rfl (fun ls hl => ?_)
        refine lv_goto (tgt := 5) hx hb dX2_power_18 (by decide) ?_
        exact ih5 (k + 1) (by have := cl_go hk c_8; omega) (cl_go hk c_8) ls (lv_sub hl [2, 3, 1, 0] rfl)
  exact L5 (a1.toNatClampNeg + 1) 0 (by omega) (Nat.zero_le _) ls (lv_sub hl [2, 3, 1, 0] rfl)
theorem kd_X2_commonDivisor : yX2_commonDivisor.cls ≠ "java/lang/invoke/MethodHandle" ∧ yX2_commonDivisor.cls ≠ "java/lang/invoke/VarHandle" ∧ (parseMethodDescriptor yX2_commonDivisor.desc).map (fun d => d.parameters.length) = some 2 := by decide +kernel
set_option maxHeartbeats 4000000 in
set_option maxRecDepth 100000 in
theorem c_X2_commonDivisor (l : Launch) {a0 a1 : Int64} : Met l yX2_commonDivisor wsX2_commonDivisor ({ frames := 1, cells := 0, slots := 0, locals := 23 }) (va_Pc ([.long a0, .long a1] : List Value) (fun _ => True)) (qL (f_common a0 a1)) 0 0 (fun _ => False) := by
  refine Met.ofW (cc := cX2_commonDivisor) (maxL := 7) (ret := (some .long)) (by decide) rfl ?_
  intro p e s m args below meth c s₁ B hml hv
  obtain ⟨rfl, -⟩ := hv
  have hx := B.exec
  have hb := B.bytes
  have hr := B.returns
  have hts := atoms_spec (ws := wsX2_commonDivisor) B.pre
  have hown : s.vm.findClass RX2 = some m.cls := findClass_of_methodNamed B.named
  have hlocks := B.notSynchronized
  have hw0 := hts (.methodLink RX2 198 Lib.MathLoose.max_long.x) (by decide +kernel)
  have hw1 := hts (.static Lib.MathLoose.max_long.x) (by decide +kernel)
  have hw2 := hts (.initialized "java/lang/Math") (by decide +kernel)
  have hw3 := hts (.code Lib.MathLoose.max_long.x Lib.MathLoose.max_long.code 4 (some .long)) (by decide +kernel)
  have hl := lv_entry ([.long a0, .long a1] : List Value) (n := 7) (Nat.le_of_ble_eq_true rfl)
  rw [lg_entry_eq]
  generalize (lg_sl ([.long a0, .long a1] : List Value) ++ List.replicate (7 - (lg_sl ([.long a0, .long a1] : List Value)).length) Slot.unset).toArray = ls at hl ⊢
  have hl : lv_has ls 7 [(0, .long a0), (2, .long a1)] := hl
  refine lv_iconst (v := 0) hx hb dX2_commonDivisor_0 (by decide) ?_
  refine lv_istore (lv' := [(4, .int _), (0, .long a0), (2, .long a1)]) hx hb dX2_commonDivisor_1 hl (by decide) rfl (fun ls hl => ?_)
  have L3 : ∀ (n3 : Nat) (k : Nat) (a b : Int64), 101 ≤ k + n3 → (k ≤ 100) → (f_cd (100 - k) a b = f_cd 100 a0 a1) → ∀ (ls : Array Slot), lv_has ls 7 [(0, .long a), (2, .long b), (4, .int (nI k))] → W p l e { frames := 1, cells := 0, slots := 0, locals := 23 } s m ([.long a0, .long a1] : List Value).toArray below meth c s.heap [] 0 0 (MQ below (qL (f_common a0 a1)) ([.long a0, .long a1] : List Value).toArray s 0 0 (fun _ => False)) (F0 m 3 ls []) := by
    intro n3
    induction n3 with
    | zero =>
      intro k a b hf3 hk he
      exact absurd hf3 (by omega)
    | succ n3 ih3 =>
      intro k a b hf3 hk he ls hl
      refine lv_iload hx hb dX2_commonDivisor_3 (lv_at hl 2 rfl) ?_
      refine lv_bipush (v := 100) hx hb dX2_commonDivisor_5 (by decide) ?_
      refine lv_icmp_ge (tgt := 32) hx hb dX2_commonDivisor_7 (by decide) (fun c_7 => ?_) (fun c_7 => ?_)
      · skip
        have hz : f_cd (100 - k) a b = a := by rw [show 100 - k = 0 by have := (nI_leI (a := 100) (b := k) (by omega) (by omega)).mp c_7; omega]; rfl
        refine lv_lload_n hx hb dX2_commonDivisor_32 rfl (lv_at hl 0 rfl) ?_
        refine lv_lconst (v := 1) hx hb dX2_commonDivisor_33 (by decide) ?_
        refine va_mmax_long hx hb (by rw [hml]; exact hl.1.symm) hown hw0 hw1 hw2 hw3 (Nat.le_of_ble_eq_true rfl) (Nat.le_of_ble_eq_true rfl) (Nat.zero_le _) (Nat.zero_le _) dX2_commonDivisor_34 ?_
        exact W.lret hx hb hr (fun t ht _ => rl (by unfold f_common; rw [← he, hz]) ht) no_locs dX2_commonDivisor_37
      · skip
        have hk1 : k + 1 ≤ 100 := by have := mt (nI_leI (a := 100) (b := k) (by omega) (by omega)).mpr c_7; omega
        refine lv_lload_n hx hb dX2_commonDivisor_10 rfl (lv_at hl 1 rfl) ?_
        refine lv_lconst (v := 0) hx hb dX2_commonDivisor_11 (by decide) ?_
        refine W.lcmp hx hb dX2_commonDivisor_12 ?_
        refine lv_if_eq (tgt := 32) hx hb dX2_commonDivisor_13 (by decide) (fun c_13 => ?_) (fun c_13 => ?_)
        · skip
          have c_13 := (lg_cmp_eq _ _).mp c_13
          have hz : f_cd (100 - k) a b = a := by rw [c_13]; exact f_cd_0 _ _
          refine lv_lload_n hx hb dX2_commonDivisor_32 rfl (lv_at hl 0 rfl) ?_
          refine lv_lconst (v := 1) hx hb dX2_commonDivisor_33 (by decide) ?_
          refine va_mmax_long hx hb (by rw [hml]; exact hl.1.symm) hown hw0 hw1 hw2 hw3 (Nat.le_of_ble_eq_true rfl) (Nat.le_of_ble_eq_true rfl) (Nat.zero_le _) (Nat.zero_le _) dX2_commonDivisor_34 ?_
          exact W.lret hx hb hr (fun t ht _ => rl (by unfold f_common; rw [← he, hz]) ht) no_locs dX2_commonDivisor_37
        · skip
          have c_13 := fun h => c_13 ((lg_cmp_eq _ _).mpr h)
          refine lv_lload_n hx hb dX2_commonDivisor_16 rfl (lv_at hl 0 rfl) ?_
          refine lv_lload_n hx hb dX2_commonDivisor_17 rfl (lv_at hl 1 rfl) ?_
          refine lv_lrem hx hb dX2_commonDivisor_18 (c_13) ?_
          refine lv_lstore (lv' := [(5, .long _), (0, .long a), (2, .long b), (4, .int (nI k))]) hx hb dX2_commonDivisor_19 hl (by decide) rfl (fun ls hl => ?_)
          refine lv_lload_n hx hb dX2_commonDivisor_21 rfl (lv_at hl 2 rfl) ?_
          refine lv_lstore_n (lv' := [(0, .long _), (5, .long _), (2, .long b), (4, .int (nI k))]) hx hb dX2_commonDivisor_22 rfl hl (by decide) rfl (fun ls hl => ?_)
          refine lv_lload hx hb dX2_commonDivisor_23 (lv_at hl 1 rfl) ?_
          refine lv_lstore_n (lv' := [(2, .long _), (0, .long _), (5, .long _), (4, .int (nI k))]) hx hb dX2_commonDivisor_25 rfl hl (by decide) rfl (fun ls hl => ?_)
          refine lv_iinc (lv' := [(4, .int (nI (k + 1))), (2, .long _), (0, .long _), (5, .long _)]) hx hb dX2_commonDivisor_26 hl (k := 3) rfl (nI_1 _) (by decide) rfl (fun ls hl => ?_)
          refine lv_goto (tgt := 3) hx hb dX2_commonDivisor_29 (by decide) ?_
          exact ih3 (k + 1) _ _ (by omega) hk1 (by rw [← he, show 100 - k = (100 - (k + 1)) + 1 by omega, f_cd, if_neg c_13]; rfl) ls (lv_sub hl [2, 1, 0] rfl)
  exact L3 101 0 _ _ (by omega) (by omega) rfl ls (lv_sub hl [1, 2, 0] rfl)
theorem kd_X2_inLowestTerms : yX2_inLowestTerms.cls ≠ "java/lang/invoke/MethodHandle" ∧ yX2_inLowestTerms.cls ≠ "java/lang/invoke/VarHandle" ∧ (parseMethodDescriptor yX2_inLowestTerms.desc).map (fun d => d.parameters.length) = some 3 := by decide +kernel
set_option maxHeartbeats 4000000 in
set_option maxRecDepth 100000 in
theorem c_X2_inLowestTerms (l : Launch) {a0 a1 : Int64} {a2 : Int32} : Met l yX2_inLowestTerms wsX2_inLowestTerms ({ frames := 2, cells := 0, slots := 0, locals := 49 }) (va_Pc ([.long a0, .long a1, .int a2] : List Value) (fun _ => True)) (qL (f_terms a0 a1 a2)) 0 0 (fun _ => False) := by
  refine Met.ofW (cc := cX2_inLowestTerms) (maxL := 7) (ret := (some .long)) (by decide) rfl ?_
  intro p e s m args below meth c s₁ B hml hv
  obtain ⟨rfl, -⟩ := hv
  have hx := B.exec
  have hb := B.bytes
  have hr := B.returns
  have hts := atoms_spec (ws := wsX2_inLowestTerms) B.pre
  have hown : s.vm.findClass RX2 = some m.cls := findClass_of_methodNamed B.named
  have hlocks := B.notSynchronized
  have hw0 := hts (.methodLink RX2 191 Lib.MathLoose.abs_long.x) (by decide +kernel)
  have hw1 := hts (.static Lib.MathLoose.abs_long.x) (by decide +kernel)
  have hw2 := hts (.initialized "java/lang/Math") (by decide +kernel)
  have hw3 := hts (.code Lib.MathLoose.abs_long.x Lib.MathLoose.abs_long.code 2 (some .long)) (by decide +kernel)
  have hl := lv_entry ([.long a0, .long a1, .int a2] : List Value) (n := 7) (Nat.le_of_ble_eq_true rfl)
  rw [lg_entry_eq]
  generalize (lg_sl ([.long a0, .long a1, .int a2] : List Value) ++ List.replicate (7 - (lg_sl ([.long a0, .long a1, .int a2] : List Value)).length) Slot.unset).toArray = ls at hl ⊢
  have hl : lv_has ls 7 [(0, .long a0), (2, .long a1), (4, .int a2)] := hl
  refine lv_lload_n hx hb dX2_inLowestTerms_0 rfl (lv_at hl 0 rfl) ?_
  refine va_mabs_long hx hb (by rw [hml]; exact hl.1.symm) hown hw0 hw1 hw2 hw3 (Nat.le_of_ble_eq_true rfl) (Nat.le_of_ble_eq_true rfl) (Nat.zero_le _) (Nat.zero_le _) dX2_inLowestTerms_1 ?_
  refine lv_lload_n hx hb dX2_inLowestTerms_4 rfl (lv_at hl 1 rfl) ?_
  refine ro_l (va_runS ⟨hx, hb, hml, hown, hts⟩ (c_X2_commonDivisor l ) (va_cwS 2 hts gX2_inLowestTerms_X2_commonDivisor rfl rfl rfl kd_X2_commonDivisor ⟨Nat.le_of_ble_eq_true rfl, Nat.le_of_ble_eq_true rfl⟩) preS0 rfl rfl hl.1 rfl (lv_room (Nat.le_of_ble_eq_true rfl)) dX2_inLowestTerms_5 ⟨Nat.zero_le _, Nat.zero_le _⟩) ?_
  refine lv_lstore (lv' := [(5, .long _), (0, .long a0), (2, .long a1), (4, .int a2)]) hx hb dX2_inLowestTerms_8 hl (by decide) rfl (fun ls hl => ?_)
  refine lv_iload hx hb dX2_inLowestTerms_10 (lv_at hl 3 rfl) ?_
  refine lv_if_ne (tgt := 22) hx hb dX2_inLowestTerms_12 (by decide) (fun c_12 => ?_) (fun c_12 => ?_)
  · skip
    refine lv_lload_n hx hb dX2_inLowestTerms_22 rfl (lv_at hl 2 rfl) ?_
    refine lv_lload hx hb dX2_inLowestTerms_23 (lv_at hl 0 rfl) ?_
    refine lv_ldiv hx hb dX2_inLowestTerms_25 (f_common_ne _ _) ?_
    exact W.lret hx hb hr (fun t ht _ => rl (by unfold f_terms; first | (rw [if_pos c_12]; rfl) | (rw [if_neg c_12]; rfl)) ht) no_locs dX2_inLowestTerms_26
  · skip
    refine lv_lload_n hx hb dX2_inLowestTerms_15 rfl (lv_at hl 1 rfl) ?_
    refine lv_lload hx hb dX2_inLowestTerms_16 (lv_at hl 0 rfl) ?_
    refine lv_ldiv hx hb dX2_inLowestTerms_18 (f_common_ne _ _) ?_
    refine lv_goto (tgt := 26) hx hb dX2_inLowestTerms_19 (by decide) ?_
    exact W.lret hx hb hr (fun t ht _ => rl (by unfold f_terms; first | (rw [if_pos c_12]; rfl) | (rw [if_neg c_12]; rfl)) ht) no_locs dX2_inLowestTerms_26
theorem kd_X0_ways : yX0_ways.cls ≠ "java/lang/invoke/MethodHandle" ∧ yX0_ways.cls ≠ "java/lang/invoke/VarHandle" ∧ (parseMethodDescriptor yX0_ways.desc).map (fun d => d.parameters.length) = some 2 := by decide +kernel
set_option maxHeartbeats 4000000 in
set_option maxRecDepth 100000 in
theorem c_X0_ways (l : Launch) {a0 a1 : Int32} (hc : a1.toNatClampNeg < 2 ^ 30) : Met l yX0_ways wsX0_ways ({ frames := 0, cells := 0, slots := 0, locals := 0 }) (va_Pc ([.int a0, .int a1] : List Value) (fun _ => True)) (qL (f_ways a0 a1 a1.toNatClampNeg)) 0 0 (fun _ => False) := by
  refine Met.ofW (cc := cX0_ways) (maxL := 5) (ret := (some .long)) (by decide) rfl ?_
  intro p e s m args below meth c s₁ B hml hv
  obtain ⟨rfl, -⟩ := hv
  have hx := B.exec
  have hb := B.bytes
  have hr := B.returns
  have hts := atoms_spec (ws := wsX0_ways) B.pre
  have hown : s.vm.findClass RX0 = some m.cls := findClass_of_methodNamed B.named
  have hlocks := B.notSynchronized
  have hl := lv_entry ([.int a0, .int a1] : List Value) (n := 5) (Nat.le_of_ble_eq_true rfl)
  rw [lg_entry_eq]
  generalize (lg_sl ([.int a0, .int a1] : List Value) ++ List.replicate (5 - (lg_sl ([.int a0, .int a1] : List Value)).length) Slot.unset).toArray = ls at hl ⊢
  have hl : lv_has ls 5 [(0, .int a0), (1, .int a1)] := hl
  refine lv_lconst (v := 1) hx hb dX0_ways_0 (by decide) ?_
  refine lv_lstore_n (lv' := [(2, .long _), (0, .int a0), (1, .int a1)]) hx hb dX0_ways_1 rfl hl (by decide) rfl (fun ls hl => ?_)
  refine lv_iconst (v := 1) hx hb dX0_ways_2 (by decide) ?_
  refine lv_istore (lv' := [(4, .int _), (2, .long _), (0, .int a0), (1, .int a1)]) hx hb dX0_ways_3 hl (by decide) rfl (fun ls hl => ?_)
  have L5 : ∀ (n5 : Nat) (k : Nat), a1.toNatClampNeg + 1 ≤ k + n5 → (k ≤ a1.toNatClampNeg) → ∀ (ls : Array Slot), lv_has ls 5 [(0, .int a0), (1, .int a1), (2, .long (f_ways a0 a1 k)), (4, .int (nI (k + 1)))] → W p l e { frames := 0, cells := 0, slots := 0, locals := 0 } s m ([.int a0, .int a1] : List Value).toArray below meth c s.heap [] 0 0 (MQ below (qL (f_ways a0 a1 a1.toNatClampNeg)) ([.int a0, .int a1] : List Value).toArray s 0 0 (fun _ => False)) (F0 m 5 ls []) := by
    intro n5
    induction n5 with
    | zero =>
      intro k hf5 hk
      exact absurd hf5 (by omega)
    | succ n5 ih5 =>
      intro k hf5 hk ls hl
      refine lv_iload hx hb dX0_ways_5 (lv_at hl 3 rfl) ?_
      refine lv_iload_n hx hb dX0_ways_7 rfl (lv_at hl 1 rfl) ?_
      refine lv_icmp_gt (tgt := 31) hx hb dX0_ways_8 (by decide) (fun c_8 => ?_) (fun c_8 => ?_)
      · skip
        refine lv_lload_n hx hb dX0_ways_31 rfl (lv_at hl 2 rfl) ?_
        exact W.lret hx hb hr (fun t ht _ => rl (by rw [cl_end1 hc hk c_8]) ht) no_locs dX0_ways_32
      · skip
        refine lv_lload_n hx hb dX0_ways_11 rfl (lv_at hl 2 rfl) ?_
        refine lv_iload_n hx hb dX0_ways_12 rfl (lv_at hl 0 rfl) ?_
        refine lv_iload_n hx hb dX0_ways_13 rfl (lv_at hl 1 rfl) ?_
        refine lv_isub hx hb dX0_ways_14 ?_
        refine lv_iload hx hb dX0_ways_15 (lv_at hl 3 rfl) ?_
        refine lv_iadd hx hb dX0_ways_17 ?_
        refine lv_i2l hx hb dX0_ways_18 rfl ?_
        refine lv_lmul hx hb dX0_ways_19 ?_
        refine lv_iload hx hb dX0_ways_20 (lv_at hl 3 rfl) ?_
        refine lv_i2l hx hb dX0_ways_22 rfl ?_
        refine lv_ldiv hx hb dX0_ways_23 (nI_L_ne (by omega)) ?_
        refine lv_lstore_n (lv' := [(2, .long _), (0, .int a0), (1, .int a1), (4, .int (nI (k + 1)))]) hx hb dX0_ways_24 rfl hl (by decide) rfl (fun ls hl => ?_)
        refine lv_iinc (lv' := [(4, .int (nI ((k + 1) + 1))), (2, .long _), (0, .int a0), (1, .int a1)]) hx hb dX0_ways_25 hl (k := 3) rfl (nI_1 _) (by decide) rfl (fun ls hl => ?_)
        refine lv_goto (tgt := 5) hx hb dX0_ways_28 (by decide) ?_
        exact ih5 (k + 1) (by have := cl_go1 hc hk c_8; omega) (cl_go1 hc hk c_8) ls (lv_sub hl [2, 3, 1, 0] rfl)
  exact L5 (a1.toNatClampNeg + 1) 0 (by omega) (Nat.zero_le _) ls (lv_sub hl [2, 3, 1, 0] rfl)
theorem kd_X3_in : yX3_in.cls ≠ "java/lang/invoke/MethodHandle" ∧ yX3_in.cls ≠ "java/lang/invoke/VarHandle" ∧ (parseMethodDescriptor yX3_in.desc).map (fun d => d.parameters.length) = some 3 := by decide +kernel
set_option maxHeartbeats 4000000 in
set_option maxRecDepth 100000 in
theorem c_X3_in (l : Launch) {a0 a1 a2 : Int64} : Met l yX3_in wsX3_in ({ frames := 0, cells := 0, slots := 0, locals := 0 }) (va_Pc ([.long a0, .long a1, .long a2] : List Value) (fun _ => True)) (QcRead (bI (a1 ≤ a0 ∧ a0 ≤ a2))) 0 0 (fun _ => False) := by
  refine Met.ofW (cc := cX3_in) (maxL := 6) (ret := (some .boolean)) (by decide) rfl ?_
  intro p e s m args below meth c s₁ B hml hv
  obtain ⟨rfl, -⟩ := hv
  have hx := B.exec
  have hb := B.bytes
  have hr := B.returns
  have hts := atoms_spec (ws := wsX3_in) B.pre
  have hown : s.vm.findClass RX3 = some m.cls := findClass_of_methodNamed B.named
  have hlocks := B.notSynchronized
  have hl := lv_entry ([.long a0, .long a1, .long a2] : List Value) (n := 6) (Nat.le_of_ble_eq_true rfl)
  rw [lg_entry_eq]
  generalize (lg_sl ([.long a0, .long a1, .long a2] : List Value) ++ List.replicate (6 - (lg_sl ([.long a0, .long a1, .long a2] : List Value)).length) Slot.unset).toArray = ls at hl ⊢
  have hl : lv_has ls 6 [(0, .long a0), (2, .long a1), (4, .long a2)] := hl
  refine lv_lload_n hx hb dX3_in_0 rfl (lv_at hl 0 rfl) ?_
  refine lv_lload_n hx hb dX3_in_1 rfl (lv_at hl 1 rfl) ?_
  refine W.lcmp hx hb dX3_in_2 ?_
  refine lv_if_lt (tgt := 17) hx hb dX3_in_3 (by decide) (fun c_3 => ?_) (fun c_3 => ?_)
  · skip
    have c_3 := (lg_cmp_lt _ _).mp c_3
    refine lv_iconst (v := 0) hx hb dX3_in_17 (by decide) ?_
    exact W.zret hx hb hr (by first | rfl | exact bI_nar) (fun t ht _ => ri (by first | exact (bI_t ⟨Int64.not_lt.mp c_3, Int64.not_lt.mp c_10⟩).symm | exact (bI_f (fun h => Int64.not_lt.mpr h.2 c_10)).symm | exact (bI_f (fun h => Int64.not_lt.mpr h.1 c_3)).symm) ht) no_locs dX3_in_18
  · skip
    have c_3 := fun h => c_3 ((lg_cmp_lt _ _).mpr h)
    refine lv_lload_n hx hb dX3_in_6 rfl (lv_at hl 0 rfl) ?_
    refine lv_lload hx hb dX3_in_7 (lv_at hl 2 rfl) ?_
    refine W.lcmp hx hb dX3_in_9 ?_
    refine lv_if_gt (tgt := 17) hx hb dX3_in_10 (by decide) (fun c_10 => ?_) (fun c_10 => ?_)
    · skip
      have c_10 := (lg_cmp_gt _ _).mp c_10
      refine lv_iconst (v := 0) hx hb dX3_in_17 (by decide) ?_
      exact W.zret hx hb hr (by first | rfl | exact bI_nar) (fun t ht _ => ri (by first | exact (bI_t ⟨Int64.not_lt.mp c_3, Int64.not_lt.mp c_10⟩).symm | exact (bI_f (fun h => Int64.not_lt.mpr h.2 c_10)).symm | exact (bI_f (fun h => Int64.not_lt.mpr h.1 c_3)).symm) ht) no_locs dX3_in_18
    · skip
      have c_10 := fun h => c_10 ((lg_cmp_gt _ _).mpr h)
      refine lv_iconst (v := 1) hx hb dX3_in_13 (by decide) ?_
      refine lv_goto (tgt := 18) hx hb dX3_in_14 (by decide) ?_
      exact W.zret hx hb hr (by first | rfl | exact bI_nar) (fun t ht _ => ri (by first | exact (bI_t ⟨Int64.not_lt.mp c_3, Int64.not_lt.mp c_10⟩).symm | exact (bI_f (fun h => Int64.not_lt.mpr h.2 c_10)).symm | exact (bI_f (fun h => Int64.not_lt.mpr h.1 c_3)).symm) ht) no_locs dX3_in_18
theorem kd_X3_isStream : yX3_isStream.cls ≠ "java/lang/invoke/MethodHandle" ∧ yX3_isStream.cls ≠ "java/lang/invoke/VarHandle" ∧ (parseMethodDescriptor yX3_isStream.desc).map (fun d => d.parameters.length) = some 1 := by decide +kernel
set_option maxHeartbeats 4000000 in
set_option maxRecDepth 100000 in
theorem c_X3_isStream (l : Launch) {a0 : Int32} : Met l yX3_isStream wsX3_isStream ({ frames := 1, cells := 0, slots := 0, locals := 25 }) (va_Pc ([.int a0] : List Value) (fun _ => True)) (QcRead (bI (0 ≤ a0 ∧ a0 ≤ 11))) 0 0 (fun _ => False) := by
  refine Met.ofW (cc := cX3_isStream) (maxL := 1) (ret := (some .boolean)) (by decide) rfl ?_
  intro p e s m args below meth c s₁ B hml hv
  obtain ⟨rfl, -⟩ := hv
  have hx := B.exec
  have hb := B.bytes
  have hr := B.returns
  have hts := atoms_spec (ws := wsX3_isStream) B.pre
  have hown : s.vm.findClass RX3 = some m.cls := findClass_of_methodNamed B.named
  have hlocks := B.notSynchronized
  have hw0 := hts (.constantLong RX3 33 (11)) (by decide +kernel)
  have hl := lv_entry ([.int a0] : List Value) (n := 1) (Nat.le_of_ble_eq_true rfl)
  rw [lg_entry_eq]
  generalize (lg_sl ([.int a0] : List Value) ++ List.replicate (1 - (lg_sl ([.int a0] : List Value)).length) Slot.unset).toArray = ls at hl ⊢
  have hl : lv_has ls 1 [(0, .int a0)] := hl
  refine lv_iload_n hx hb dX3_isStream_0 rfl (lv_at hl 0 rfl) ?_
  refine lv_i2l hx hb dX3_isStream_1 rfl ?_
  refine lv_lconst (v := 0) hx hb dX3_isStream_2 (by decide) ?_
  refine lv_ldc2 (v := 11) hx hb hown hw0 dX3_isStream_3 ?_
  refine ro_i (va_runS ⟨hx, hb, hml, hown, hts⟩ (c_X3_in l ) (va_cwS 3 hts gX3_isStream_X3_in rfl rfl rfl kd_X3_in ⟨Nat.le_of_ble_eq_true rfl, Nat.le_of_ble_eq_true rfl⟩) preS0 rfl rfl hl.1 rfl (lv_room (Nat.le_of_ble_eq_true rfl)) dX3_isStream_6 ⟨Nat.zero_le _, Nat.zero_le _⟩) ?_
  exact W.zret hx hb hr (by first | rfl | exact bI_nar) (fun t ht _ => ri (by refine bI_congr (and_congr (fa_wide_le 0 a0) (fa_wide_le a0 11))) ht) no_locs dX3_isStream_9
theorem kd_X3_gated : yX3_gated.cls ≠ "java/lang/invoke/MethodHandle" ∧ yX3_gated.cls ≠ "java/lang/invoke/VarHandle" ∧ (parseMethodDescriptor yX3_gated.desc).map (fun d => d.parameters.length) = some 4 := by decide +kernel
set_option maxHeartbeats 4000000 in
set_option maxRecDepth 100000 in
theorem c_X3_gated (l : Launch) {a0 a1 a2 a3 : Int32} : Met l yX3_gated wsX3_gated ({ frames := 0, cells := 0, slots := 0, locals := 0 }) (va_Pc ([.int a0, .int a1, .int a2, .int a3] : List Value) (fun _ => True)) (QcRead (g_gated a0 a1 a2 a3)) 0 0 (fun _ => False) := by
  refine Met.ofW (cc := cX3_gated) (maxL := 4) (ret := (some .int)) (by decide) rfl ?_
  intro p e s m args below meth c s₁ B hml hv
  obtain ⟨rfl, -⟩ := hv
  have hx := B.exec
  have hb := B.bytes
  have hr := B.returns
  have hts := atoms_spec (ws := wsX3_gated) B.pre
  have hown : s.vm.findClass RX3 = some m.cls := findClass_of_methodNamed B.named
  have hlocks := B.notSynchronized
  have hl := lv_entry ([.int a0, .int a1, .int a2, .int a3] : List Value) (n := 4) (Nat.le_of_ble_eq_true rfl)
  rw [lg_entry_eq]
  generalize (lg_sl ([.int a0, .int a1, .int a2, .int a3] : List Value) ++ List.replicate (4 - (lg_sl ([.int a0, .int a1, .int a2, .int a3] : List Value)).length) Slot.unset).toArray = ls at hl ⊢
  have hl : lv_has ls 4 [(0, .int a0), (1, .int a1), (2, .int a2), (3, .int a3)] := hl
  refine lv_iload_n hx hb dX3_gated_0 rfl (lv_at hl 0 rfl) ?_
  refine lv_topi (fun z_1 e_1 => ?_)
  by_cases n_1_0 : z_1 = 0
  · subst n_1_0
    refine lv_tableIn (off := 39) (tgt := 40) hx hb dX3_gated_1 (by decide) (by decide) (by decide) (by decide) ?_
    refine lv_iload_n hx hb dX3_gated_40 rfl (lv_at hl 1 rfl) ?_
    refine lv_iload_n hx hb dX3_gated_41 rfl (lv_at hl 2 rfl) ?_
    refine lv_imul hx hb dX3_gated_42 ?_
    exact W.iret hx hb hr (fun t ht _ => ri (by rw [← e_1]; rfl) ht) no_locs dX3_gated_43
  by_cases n_1_1 : z_1 = 1
  · subst n_1_1
    refine lv_tableIn (off := 43) (tgt := 44) hx hb dX3_gated_1 (by decide) (by decide) (by decide) (by decide) ?_
    refine lv_iload_n hx hb dX3_gated_44 rfl (lv_at hl 1 rfl) ?_
    refine lv_iload_n hx hb dX3_gated_45 rfl (lv_at hl 2 rfl) ?_
    refine lv_iadd hx hb dX3_gated_46 ?_
    refine lv_if_le (tgt := 54) hx hb dX3_gated_47 (by decide) (fun c_47 => ?_) (fun c_47 => ?_)
    · skip
      refine lv_iconst (v := 0) hx hb dX3_gated_54 (by decide) ?_
      exact W.iret hx hb hr (fun t ht _ => ri (by rw [← e_1]; show _ = (if a1 + a2 ≤ 0 then (0 : Int32) else 1); first | rw [if_pos c_47] | rw [if_neg c_47]) ht) no_locs dX3_gated_55
    · skip
      refine lv_iconst (v := 1) hx hb dX3_gated_50 (by decide) ?_
      refine lv_goto (tgt := 55) hx hb dX3_gated_51 (by decide) ?_
      exact W.iret hx hb hr (fun t ht _ => ri (by rw [← e_1]; show _ = (if a1 + a2 ≤ 0 then (0 : Int32) else 1); first | rw [if_pos c_47] | rw [if_neg c_47]) ht) no_locs dX3_gated_55
  by_cases n_1_2 : z_1 = 2
  · subst n_1_2
    refine lv_tableIn (off := 55) (tgt := 56) hx hb dX3_gated_1 (by decide) (by decide) (by decide) (by decide) ?_
    refine lv_iload_n hx hb dX3_gated_56 rfl (lv_at hl 1 rfl) ?_
    refine lv_iload_n hx hb dX3_gated_57 rfl (lv_at hl 2 rfl) ?_
    refine lv_icmp_ne (tgt := 65) hx hb dX3_gated_58 (by decide) (fun c_58 => ?_) (fun c_58 => ?_)
    · skip
      refine lv_iconst (v := 1) hx hb dX3_gated_65 (by decide) ?_
      exact W.iret hx hb hr (fun t ht _ => ri (by rw [← e_1]; show _ = (if a1 = a2 then (0 : Int32) else 1); first | rw [if_pos c_58] | rw [if_neg c_58]) ht) no_locs dX3_gated_66
    · skip
      refine lv_iconst (v := 0) hx hb dX3_gated_61 (by decide) ?_
      refine lv_goto (tgt := 66) hx hb dX3_gated_62 (by decide) ?_
      exact W.iret hx hb hr (fun t ht _ => ri (by rw [← e_1]; show _ = (if a1 = a2 then (0 : Int32) else 1); first | rw [if_pos c_58] | rw [if_neg c_58]) ht) no_locs dX3_gated_66
  by_cases n_1_3 : z_1 = 3
  · subst n_1_3
    refine lv_tableIn (off := 66) (tgt := 67) hx hb dX3_gated_1 (by decide) (by decide) (by decide) (by decide) ?_
    refine lv_iload_n hx hb dX3_gated_67 rfl (lv_at hl 1 rfl) ?_
    refine lv_iload_n hx hb dX3_gated_68 rfl (lv_at hl 2 rfl) ?_
    refine lv_icmp_ne (tgt := 76) hx hb dX3_gated_69 (by decide) (fun c_69 => ?_) (fun c_69 => ?_)
    · skip
      refine lv_iconst (v := 0) hx hb dX3_gated_76 (by decide) ?_
      exact W.iret hx hb hr (fun t ht _ => ri (by rw [← e_1]; show _ = (if a1 = a2 then (1 : Int32) else 0); first | rw [if_pos c_69] | rw [if_neg c_69]) ht) no_locs dX3_gated_77
    · skip
      refine lv_iconst (v := 1) hx hb dX3_gated_72 (by decide) ?_
      refine lv_goto (tgt := 77) hx hb dX3_gated_73 (by decide) ?_
      exact W.iret hx hb hr (fun t ht _ => ri (by rw [← e_1]; show _ = (if a1 = a2 then (1 : Int32) else 0); first | rw [if_pos c_69] | rw [if_neg c_69]) ht) no_locs dX3_gated_77
  by_cases n_1_4 : z_1 = 4
  · subst n_1_4
    refine lv_tableIn (off := 77) (tgt := 78) hx hb dX3_gated_1 (by decide) (by decide) (by decide) (by decide) ?_
    refine lv_iload_n hx hb dX3_gated_78 rfl (lv_at hl 1 rfl) ?_
    refine lv_iconst (v := 1) hx hb dX3_gated_79 (by decide) ?_
    refine lv_icmp_ne (tgt := 91) hx hb dX3_gated_80 (by decide) (fun c_80 => ?_) (fun c_80 => ?_)
    · skip
      refine lv_iconst (v := 0) hx hb dX3_gated_91 (by decide) ?_
      exact W.iret hx hb hr (fun t ht _ => ri (by rw [← e_1]; show _ = (if a1 = 1 ∧ a2 = 0 then (1 : Int32) else 0); first | exact (if_pos ⟨c_80, c_84⟩).symm | exact (if_neg (fun h => c_84 h.2)).symm | exact (if_neg (fun h => c_80 h.1)).symm) ht) no_locs dX3_gated_92
    · skip
      refine lv_iload_n hx hb dX3_gated_83 rfl (lv_at hl 2 rfl) ?_
      refine lv_if_ne (tgt := 91) hx hb dX3_gated_84 (by decide) (fun c_84 => ?_) (fun c_84 => ?_)
      · skip
        refine lv_iconst (v := 0) hx hb dX3_gated_91 (by decide) ?_
        exact W.iret hx hb hr (fun t ht _ => ri (by rw [← e_1]; show _ = (if a1 = 1 ∧ a2 = 0 then (1 : Int32) else 0); first | exact (if_pos ⟨c_80, c_84⟩).symm | exact (if_neg (fun h => c_84 h.2)).symm | exact (if_neg (fun h => c_80 h.1)).symm) ht) no_locs dX3_gated_92
      · skip
        refine lv_iconst (v := 1) hx hb dX3_gated_87 (by decide) ?_
        refine lv_goto (tgt := 92) hx hb dX3_gated_88 (by decide) ?_
        exact W.iret hx hb hr (fun t ht _ => ri (by rw [← e_1]; show _ = (if a1 = 1 ∧ a2 = 0 then (1 : Int32) else 0); first | exact (if_pos ⟨c_80, c_84⟩).symm | exact (if_neg (fun h => c_84 h.2)).symm | exact (if_neg (fun h => c_80 h.1)).symm) ht) no_locs dX3_gated_92
  by_cases n_1_5 : z_1 = 5
  · subst n_1_5
    refine lv_tableIn (off := 92) (tgt := 93) hx hb dX3_gated_1 (by decide) (by decide) (by decide) (by decide) ?_
    refine lv_iload_n hx hb dX3_gated_93 rfl (lv_at hl 3 rfl) ?_
    refine lv_iconst (v := 1) hx hb dX3_gated_94 (by decide) ?_
    refine lv_icmp_ne (tgt := 102) hx hb dX3_gated_95 (by decide) (fun c_95 => ?_) (fun c_95 => ?_)
    · skip
      refine lv_iload_n hx hb dX3_gated_102 rfl (lv_at hl 1 rfl) ?_
      exact W.iret hx hb hr (fun t ht _ => ri (by rw [← e_1]; show _ = (if a3 = 1 then a2 else a1); first | rw [if_pos c_95] | rw [if_neg c_95]) ht) no_locs dX3_gated_103
    · skip
      refine lv_iload_n hx hb dX3_gated_98 rfl (lv_at hl 2 rfl) ?_
      refine lv_goto (tgt := 103) hx hb dX3_gated_99 (by decide) ?_
      exact W.iret hx hb hr (fun t ht _ => ri (by rw [← e_1]; show _ = (if a3 = 1 then a2 else a1); first | rw [if_pos c_95] | rw [if_neg c_95]) ht) no_locs dX3_gated_103
  have nb_1 : z_1.toInt < 0 ∨ 5 < z_1.toInt := by
    have q0 := lv_neT (a := 0) n_1_0 (by decide)
    have q1 := lv_neT (a := 1) n_1_1 (by decide)
    have q2 := lv_neT (a := 2) n_1_2 (by decide)
    have q3 := lv_neT (a := 3) n_1_3 (by decide)
    have q4 := lv_neT (a := 4) n_1_4 (by decide)
    have q5 := lv_neT (a := 5) n_1_5 (by decide)
    omega
  refine lv_tableOut (tgt := 104) hx hb dX3_gated_1 nb_1 (by decide) ?_
  refine lv_iload_n hx hb dX3_gated_104 rfl (lv_at hl 1 rfl) ?_
  refine lv_iload_n hx hb dX3_gated_105 rfl (lv_at hl 2 rfl) ?_
  refine lv_iadd hx hb dX3_gated_106 ?_
  refine lv_iload_n hx hb dX3_gated_107 rfl (lv_at hl 3 rfl) ?_
  refine lv_iadd hx hb dX3_gated_108 ?_
  refine lv_iconst (v := 1) hx hb dX3_gated_109 (by decide) ?_
  refine lv_icmp_le (tgt := 117) hx hb dX3_gated_110 (by decide) (fun c_110 => ?_) (fun c_110 => ?_)
  · skip
    refine lv_iconst (v := 0) hx hb dX3_gated_117 (by decide) ?_
    exact W.iret hx hb hr (fun t ht _ => ri (by rw [← e_1]; unfold g_gated; rw [if_neg n_1_0, if_neg n_1_1, if_neg n_1_2, if_neg n_1_3, if_neg n_1_4, if_neg n_1_5]; first | rw [if_pos c_110] | rw [if_neg c_110]) ht) no_locs dX3_gated_118
  · skip
    refine lv_iconst (v := 1) hx hb dX3_gated_113 (by decide) ?_
    refine lv_goto (tgt := 118) hx hb dX3_gated_114 (by decide) ?_
    exact W.iret hx hb hr (fun t ht _ => ri (by rw [← e_1]; unfold g_gated; rw [if_neg n_1_0, if_neg n_1_1, if_neg n_1_2, if_neg n_1_3, if_neg n_1_4, if_neg n_1_5]; first | rw [if_pos c_110] | rw [if_neg c_110]) ht) no_locs dX3_gated_118
theorem kd_X3_isMachine : yX3_isMachine.cls ≠ "java/lang/invoke/MethodHandle" ∧ yX3_isMachine.cls ≠ "java/lang/invoke/VarHandle" ∧ (parseMethodDescriptor yX3_isMachine.desc).map (fun d => d.parameters.length) = some 1 := by decide +kernel
set_option maxHeartbeats 4000000 in
set_option maxRecDepth 100000 in
theorem c_X3_isMachine (l : Launch) {a0 : Int32} : Met l yX3_isMachine wsX3_isMachine ({ frames := 1, cells := 0, slots := 0, locals := 25 }) (va_Pc ([.int a0] : List Value) (fun _ => True)) (QcRead (bI ((2 ≤ a0 ∧ a0 ≤ 8) ∧ remI a0 2 = 0))) 0 0 (fun _ => False) := by
  refine Met.ofW (cc := cX3_isMachine) (maxL := 1) (ret := (some .boolean)) (by decide) rfl ?_
  intro p e s m args below meth c s₁ B hml hv
  obtain ⟨rfl, -⟩ := hv
  have hx := B.exec
  have hb := B.bytes
  have hr := B.returns
  have hts := atoms_spec (ws := wsX3_isMachine) B.pre
  have hown : s.vm.findClass RX3 = some m.cls := findClass_of_methodNamed B.named
  have hlocks := B.notSynchronized
  have hw0 := hts (.constantLong RX3 104 (2)) (by decide +kernel)
  have hw1 := hts (.constantLong RX3 106 (8)) (by decide +kernel)
  have hl := lv_entry ([.int a0] : List Value) (n := 1) (Nat.le_of_ble_eq_true rfl)
  rw [lg_entry_eq]
  generalize (lg_sl ([.int a0] : List Value) ++ List.replicate (1 - (lg_sl ([.int a0] : List Value)).length) Slot.unset).toArray = ls at hl ⊢
  have hl : lv_has ls 1 [(0, .int a0)] := hl
  refine lv_iload_n hx hb dX3_isMachine_0 rfl (lv_at hl 0 rfl) ?_
  refine lv_i2l hx hb dX3_isMachine_1 rfl ?_
  refine lv_ldc2 (v := 2) hx hb hown hw0 dX3_isMachine_2 ?_
  refine lv_ldc2 (v := 8) hx hb hown hw1 dX3_isMachine_5 ?_
  refine ro_i (va_runS ⟨hx, hb, hml, hown, hts⟩ (c_X3_in l ) (va_cwS 3 hts gX3_isMachine_X3_in rfl rfl rfl kd_X3_in ⟨Nat.le_of_ble_eq_true rfl, Nat.le_of_ble_eq_true rfl⟩) preS0 rfl rfl hl.1 rfl (lv_room (Nat.le_of_ble_eq_true rfl)) dX3_isMachine_8 ⟨Nat.zero_le _, Nat.zero_le _⟩) ?_
  refine lv_if_eq (tgt := 24) hx hb dX3_isMachine_11 (by decide) (fun c_11 => ?_) (fun c_11 => ?_)
  · skip
    have c_11 := bI_eq.mp c_11
    have c_11 : ¬ (2 ≤ a0 ∧ a0 ≤ 8) := fun h => c_11 ⟨(fa_wide_le 2 a0).mpr h.1, (fa_wide_le a0 8).mpr h.2⟩
    refine lv_iconst (v := 0) hx hb dX3_isMachine_24 (by decide) ?_
    exact W.zret hx hb hr (by first | rfl | exact bI_nar) (fun t ht _ => ri (by first | exact (bI_t ⟨c_11, c_17⟩).symm | exact (bI_f (fun h => c_17 h.2)).symm | exact (bI_f (fun h => c_11 h.1)).symm) ht) no_locs dX3_isMachine_25
  · skip
    have c_11 := bI_ne.mp c_11
    have c_11 : 2 ≤ a0 ∧ a0 ≤ 8 := ⟨(fa_wide_le 2 a0).mp c_11.1, (fa_wide_le a0 8).mp c_11.2⟩
    refine lv_iload_n hx hb dX3_isMachine_14 rfl (lv_at hl 0 rfl) ?_
    refine lv_iconst (v := 2) hx hb dX3_isMachine_15 (by decide) ?_
    refine lv_irem hx hb dX3_isMachine_16 (by decide) ?_
    refine lv_if_ne (tgt := 24) hx hb dX3_isMachine_17 (by decide) (fun c_17 => ?_) (fun c_17 => ?_)
    · skip
      refine lv_iconst (v := 0) hx hb dX3_isMachine_24 (by decide) ?_
      exact W.zret hx hb hr (by first | rfl | exact bI_nar) (fun t ht _ => ri (by first | exact (bI_t ⟨c_11, c_17⟩).symm | exact (bI_f (fun h => c_17 h.2)).symm | exact (bI_f (fun h => c_11 h.1)).symm) ht) no_locs dX3_isMachine_25
    · skip
      refine lv_iconst (v := 1) hx hb dX3_isMachine_20 (by decide) ?_
      refine lv_goto (tgt := 25) hx hb dX3_isMachine_21 (by decide) ?_
      exact W.zret hx hb hr (by first | rfl | exact bI_nar) (fun t ht _ => ri (by first | exact (bI_t ⟨c_11, c_17⟩).symm | exact (bI_f (fun h => c_17 h.2)).symm | exact (bI_f (fun h => c_11 h.1)).symm) ht) no_locs dX3_isMachine_25
theorem kd_X3_power : yX3_power.cls ≠ "java/lang/invoke/MethodHandle" ∧ yX3_power.cls ≠ "java/lang/invoke/VarHandle" ∧ (parseMethodDescriptor yX3_power.desc).map (fun d => d.parameters.length) = some 2 := by decide +kernel
set_option maxHeartbeats 4000000 in
set_option maxRecDepth 100000 in
theorem c_X3_power (l : Launch) {a0 : Int64} {a1 : Int32} : Met l yX3_power wsX3_power ({ frames := 0, cells := 0, slots := 0, locals := 0 }) (va_Pc ([.long a0, .int a1] : List Value) (fun _ => True)) (qL (f_power a0 a1.toNatClampNeg)) 0 0 (fun _ => False) := by
  refine Met.ofW (cc := cX3_power) (maxL := 6) (ret := (some .long)) (by decide) rfl ?_
  intro p e s m args below meth c s₁ B hml hv
  obtain ⟨rfl, -⟩ := hv
  have hx := B.exec
  have hb := B.bytes
  have hr := B.returns
  have hts := atoms_spec (ws := wsX3_power) B.pre
  have hown : s.vm.findClass RX3 = some m.cls := findClass_of_methodNamed B.named
  have hlocks := B.notSynchronized
  have hl := lv_entry ([.long a0, .int a1] : List Value) (n := 6) (Nat.le_of_ble_eq_true rfl)
  rw [lg_entry_eq]
  generalize (lg_sl ([.long a0, .int a1] : List Value) ++ List.replicate (6 - (lg_sl ([.long a0, .int a1] : List Value)).length) Slot.unset).toArray = ls at hl ⊢
  have hl : lv_has ls 6 [(0, .long a0), (2, .int a1)] := hl
  refine lv_lconst (v := 1) hx hb dX3_power_0 (by decide) ?_
  refine lv_lstore_n (lv' := [(3, .long _), (0, .long a0), (2, .int a1)]) hx hb dX3_power_1 rfl hl (by decide) rfl (fun ls hl => ?_)
  refine lv_iconst (v := 0) hx hb dX3_power_2 (by decide) ?_
  refine lv_istore (lv' := [(5, .int _), (3, .long _), (0, .long a0), (2, .int a1)]) hx hb dX3_power_3 hl (by decide) rfl (fun ls hl => ?_)
  have L5 : ∀ (n5 : Nat) (k : Nat), a1.toNatClampNeg + 1 ≤ k + n5 → (k ≤ a1.toNatClampNeg) → ∀ (ls : Array Slot), lv_has ls 6 [(0, .long a0), (2, .int a1), (3, .long (f_power a0 k)), (5, .int (nI k))] → W p l e { frames := 0, cells := 0, slots := 0, locals := 0 } s m ([.long a0, .int a1] : List Value).toArray below meth c s.heap [] 0 0 (MQ below (qL (f_power a0 a1.toNatClampNeg)) ([.long a0, .int a1] : List Value).toArray s 0 0 (fun _ => False)) (F0 m 5 ls []) := by
    intro n5
    induction n5 with
    | zero =>
      intro k hf5 hk
      exact absurd hf5 (by omega)
    | succ n5 ih5 =>
      intro k hf5 hk ls hl
      refine lv_iload hx hb dX3_power_5 (lv_at hl 3 rfl) ?_
      refine lv_iload_n hx hb dX3_power_7 rfl (lv_at hl 1 rfl) ?_
      refine lv_icmp_ge (tgt := 21) hx hb dX3_power_8 (by decide) (fun c_8 => ?_) (fun c_8 => ?_)
      · skip
        refine lv_lload_n hx hb dX3_power_21 rfl (lv_at hl 2 rfl) ?_
        exact W.lret hx hb hr (fun t ht _ => rl (by rw [cl_end hk c_8]) ht) no_locs dX3_power_22
      · skip
        refine lv_lload_n hx hb dX3_power_11 rfl (lv_at hl 2 rfl) ?_
        refine lv_lload_n hx hb dX3_power_12 rfl (lv_at hl 0 rfl) ?_
        refine lv_lmul hx hb dX3_power_13 ?_
        refine lv_lstore_n (lv' := [(3, .long _), (0, .long a0), (2, .int a1), (5, .int (nI k))]) hx hb dX3_power_14 rfl hl (by decide) rfl (fun ls hl => ?_)
        refine lv_iinc (lv' := [(5, .int (nI (k + 1))), (3, .long _), (0, .long a0), (2, .int a1)]) hx hb dX3_power_15 hl (k := 3) rfl (nI_1 _) (by decide) rfl (fun ls hl => ?_)
        refine lv_goto (tgt := 5) hx hb dX3_power_18 (by decide) ?_
        exact ih5 (k + 1) (by have := cl_go hk c_8; omega) (cl_go hk c_8) ls (lv_sub hl [2, 3, 1, 0] rfl)
  exact L5 (a1.toNatClampNeg + 1) 0 (by omega) (Nat.zero_le _) ls (lv_sub hl [2, 3, 1, 0] rfl)
theorem kd_X3_common : yX3_common.cls ≠ "java/lang/invoke/MethodHandle" ∧ yX3_common.cls ≠ "java/lang/invoke/VarHandle" ∧ (parseMethodDescriptor yX3_common.desc).map (fun d => d.parameters.length) = some 2 := by decide +kernel
set_option maxHeartbeats 4000000 in
set_option maxRecDepth 100000 in
theorem c_X3_common (l : Launch) {a0 : Int64} {X Y : Nat} (hX : g_abs a0 = lN X) (hXb : X < 2 ^ 63) (hYb : Y < 2 ^ 63) : Met l yX3_common wsX3_common ({ frames := 0, cells := 0, slots := 0, locals := 0 }) (va_Pc ([.long a0, .long (lN Y)] : List Value) (fun _ => True)) (qL (lN (Nat.gcd X Y))) 0 0 (fun _ => False) := by
  refine Met.ofW (cc := cX3_common) (maxL := 10) (ret := (some .long)) (by decide) rfl ?_
  intro p e s m args below meth c s₁ B hml hv
  obtain ⟨rfl, -⟩ := hv
  have hx := B.exec
  have hb := B.bytes
  have hr := B.returns
  have hts := atoms_spec (ws := wsX3_common) B.pre
  have hown : s.vm.findClass RX3 = some m.cls := findClass_of_methodNamed B.named
  have hlocks := B.notSynchronized
  have hl := lv_entry ([.long a0, .long (lN Y)] : List Value) (n := 10) (Nat.le_of_ble_eq_true rfl)
  rw [lg_entry_eq]
  generalize (lg_sl ([.long a0, .long (lN Y)] : List Value) ++ List.replicate (10 - (lg_sl ([.long a0, .long (lN Y)] : List Value)).length) Slot.unset).toArray = ls at hl ⊢
  have hl : lv_has ls 10 [(0, .long a0), (2, .long (lN Y))] := hl
  refine lv_lload_n hx hb dX3_common_0 rfl (lv_at hl 0 rfl) ?_
  refine lv_lconst (v := 0) hx hb dX3_common_1 (by decide) ?_
  refine W.lcmp hx hb dX3_common_2 ?_
  refine lv_if_ge (tgt := 11) hx hb dX3_common_3 (by decide) (fun c_3 => ?_) (fun c_3 => ?_)
  · skip
    have c_3 := (lg_cmp_ge _ _).mp c_3
    have ha : a0 = lN X := by rw [← hX]; unfold g_abs; rw [if_pos c_3]
    refine lv_lload_n hx hb dX3_common_11 rfl (lv_at hl 0 rfl) ?_
    refine st_l (v := lN X) ha ?_
    refine lv_lstore (lv' := [(4, .long _), (0, .long a0), (2, .long (lN Y))]) hx hb dX3_common_12 hl (by decide) rfl (fun ls hl => ?_)
    refine lv_lload_n hx hb dX3_common_14 rfl (lv_at hl 2 rfl) ?_
    refine lv_lstore (lv' := [(6, .long _), (4, .long _), (0, .long a0), (2, .long (lN Y))]) hx hb dX3_common_15 hl (by decide) rfl (fun ls hl => ?_)
    have L17 : ∀ (n17 : Nat) (u v : Nat), u < n17 → (u < 2 ^ 63) → (v < 2 ^ 63) → (Nat.gcd u v = Nat.gcd X Y) → ∀ (ls : Array Slot), lv_has ls 10 [(4, .long (lN u)), (6, .long (lN v))] → W p l e { frames := 0, cells := 0, slots := 0, locals := 0 } s m ([.long a0, .long (lN Y)] : List Value).toArray below meth c s.heap [] 0 0 (MQ below (qL (lN (Nat.gcd X Y))) ([.long a0, .long (lN Y)] : List Value).toArray s 0 0 (fun _ => False)) (F0 m 17 ls []) := by
      intro n17
      induction n17 with
      | zero =>
        intro u v hf17 hu hv he
        exact absurd hf17 (by omega)
      | succ n17 ih17 =>
        intro u v hf17 hu hv he ls hl
        refine lv_lload hx hb dX3_common_17 (lv_at hl 0 rfl) ?_
        refine lv_lconst (v := 0) hx hb dX3_common_19 (by decide) ?_
        refine W.lcmp hx hb dX3_common_20 ?_
        refine lv_if_le (tgt := 42) hx hb dX3_common_21 (by decide) (fun c_21 => ?_) (fun c_21 => ?_)
        · skip
          have c_21 := (lg_cmp_le _ _).mp c_21
          have hu0 : u = 0 := by have := (pk_lLE (a := u) (b := 0) hu (by omega)).mp c_21; omega
          refine lv_lload hx hb dX3_common_42 (lv_at hl 1 rfl) ?_
          exact W.lret hx hb hr (fun t ht _ => rl (by rw [← he, hu0, Nat.gcd_zero_left]) ht) no_locs dX3_common_44
        · skip
          have c_21 := fun h => c_21 ((lg_cmp_le _ _).mpr h)
          have hu0 : 0 < u := by have := mt (pk_lLE (a := u) (b := 0) hu (by omega)).mpr c_21; omega
          refine lv_lload hx hb dX3_common_24 (lv_at hl 1 rfl) ?_
          refine lv_lload hx hb dX3_common_26 (lv_at hl 0 rfl) ?_
          refine lv_lrem hx hb dX3_common_28 (fun q => absurd ((pk_lEQ (a := u) (b := 0) hu (by omega)).mp q) (by omega)) ?_
          refine st_l (v := lN (v % u)) (pk_lRem hv hu0 hu) ?_
          refine lv_lstore (lv' := [(8, .long _), (4, .long (lN u)), (6, .long (lN v))]) hx hb dX3_common_29 hl (by decide) rfl (fun ls hl => ?_)
          refine lv_lload hx hb dX3_common_31 (lv_at hl 1 rfl) ?_
          refine lv_lstore (lv' := [(6, .long _), (8, .long _), (4, .long (lN u))]) hx hb dX3_common_33 hl (by decide) rfl (fun ls hl => ?_)
          refine lv_lload hx hb dX3_common_35 (lv_at hl 1 rfl) ?_
          refine lv_lstore (lv' := [(4, .long _), (6, .long _), (8, .long _)]) hx hb dX3_common_37 hl (by decide) rfl (fun ls hl => ?_)
          refine lv_goto (tgt := 17) hx hb dX3_common_39 (by decide) ?_
          exact ih17 (v % u) u (by have := Nat.mod_lt v hu0; omega) (by have := Nat.mod_lt v hu0; omega) hu (by rw [← he, Nat.gcd_comm (v % u) u, Nat.gcd_comm u v, Nat.gcd_comm u (v % u), ← Nat.gcd_rec u v, Nat.gcd_comm]) ls (lv_sub hl [0, 1] rfl)
    exact L17 (X + 1) X Y (Nat.lt_succ_self X) hXb hYb rfl ls (lv_sub hl [1, 0] rfl)
  · skip
    have c_3 := fun h => c_3 ((lg_cmp_ge _ _).mpr h)
    have ha : -a0 = lN X := by rw [← hX]; unfold g_abs; rw [if_neg c_3]
    refine lv_lload_n hx hb dX3_common_6 rfl (lv_at hl 0 rfl) ?_
    refine lv_lneg hx hb dX3_common_7 ?_
    refine lv_goto (tgt := 12) hx hb dX3_common_8 (by decide) ?_
    refine st_l (v := lN X) ha ?_
    refine lv_lstore (lv' := [(4, .long _), (0, .long a0), (2, .long (lN Y))]) hx hb dX3_common_12 hl (by decide) rfl (fun ls hl => ?_)
    refine lv_lload_n hx hb dX3_common_14 rfl (lv_at hl 2 rfl) ?_
    refine lv_lstore (lv' := [(6, .long _), (4, .long _), (0, .long a0), (2, .long (lN Y))]) hx hb dX3_common_15 hl (by decide) rfl (fun ls hl => ?_)
    have L17 : ∀ (n17 : Nat) (u v : Nat), u < n17 → (u < 2 ^ 63) → (v < 2 ^ 63) → (Nat.gcd u v = Nat.gcd X Y) → ∀ (ls : Array Slot), lv_has ls 10 [(4, .long (lN u)), (6, .long (lN v))] → W p l e { frames := 0, cells := 0, slots := 0, locals := 0 } s m ([.long a0, .long (lN Y)] : List Value).toArray below meth c s.heap [] 0 0 (MQ below (qL (lN (Nat.gcd X Y))) ([.long a0, .long (lN Y)] : List Value).toArray s 0 0 (fun _ => False)) (F0 m 17 ls []) := by
      intro n17
      induction n17 with
      | zero =>
        intro u v hf17 hu hv he
        exact absurd hf17 (by omega)
      | succ n17 ih17 =>
        intro u v hf17 hu hv he ls hl
        refine lv_lload hx hb dX3_common_17 (lv_at hl 0 rfl) ?_
        refine lv_lconst (v := 0) hx hb dX3_common_19 (by decide) ?_
        refine W.lcmp hx hb dX3_common_20 ?_
        refine lv_if_le (tgt := 42) hx hb dX3_common_21 (by decide) (fun c_21 => ?_) (fun c_21 => ?_)
        · skip
          have c_21 := (lg_cmp_le _ _).mp c_21
          have hu0 : u = 0 := by have := (pk_lLE (a := u) (b := 0) hu (by omega)).mp c_21; omega
          refine lv_lload hx hb dX3_common_42 (lv_at hl 1 rfl) ?_
          exact W.lret hx hb hr (fun t ht _ => rl (by rw [← he, hu0, Nat.gcd_zero_left]) ht) no_locs dX3_common_44
        · skip
          have c_21 := fun h => c_21 ((lg_cmp_le _ _).mpr h)
          have hu0 : 0 < u := by have := mt (pk_lLE (a := u) (b := 0) hu (by omega)).mpr c_21; omega
          refine lv_lload hx hb dX3_common_24 (lv_at hl 1 rfl) ?_
          refine lv_lload hx hb dX3_common_26 (lv_at hl 0 rfl) ?_
          refine lv_lrem hx hb dX3_common_28 (fun q => absurd ((pk_lEQ (a := u) (b := 0) hu (by omega)).mp q) (by omega)) ?_
          refine st_l (v := lN (v % u)) (pk_lRem hv hu0 hu) ?_
          refine lv_lstore (lv' := [(8, .long _), (4, .long (lN u)), (6, .long (lN v))]) hx hb dX3_common_29 hl (by decide) rfl (fun ls hl => ?_)
          refine lv_lload hx hb dX3_common_31 (lv_at hl 1 rfl) ?_
          refine lv_lstore (lv' := [(6, .long _), (8, .long _), (4, .long (lN u))]) hx hb dX3_common_33 hl (by decide) rfl (fun ls hl => ?_)
          refine lv_lload hx hb dX3_common_35 (lv_at hl 1 rfl) ?_
          refine lv_lstore (lv' := [(4, .long _), (6, .long _), (8, .long _)]) hx hb dX3_common_37 hl (by decide) rfl (fun ls hl => ?_)
          refine lv_goto (tgt := 17) hx hb dX3_common_39 (by decide) ?_
          exact ih17 (v % u) u (by have := Nat.mod_lt v hu0; omega) (by have := Nat.mod_lt v hu0; omega) hu (by rw [← he, Nat.gcd_comm (v % u) u, Nat.gcd_comm u v, Nat.gcd_comm u (v % u), ← Nat.gcd_rec u v, Nat.gcd_comm]) ls (lv_sub hl [0, 1] rfl)
    exact L17 (X + 1) X Y (Nat.lt_succ_self X) hXb hYb rfl ls (lv_sub hl [1, 0] rfl)
theorem kd_X3_chosen : yX3_chosen.cls ≠ "java/lang/invoke/MethodHandle" ∧ yX3_chosen.cls ≠ "java/lang/invoke/VarHandle" ∧ (parseMethodDescriptor yX3_chosen.desc).map (fun d => d.parameters.length) = some 2 := by decide +kernel
set_option maxHeartbeats 4000000 in
set_option maxRecDepth 100000 in
theorem c_X3_chosen (l : Launch) {a0 a1 : Int32} : Met l yX3_chosen wsX3_chosen ({ frames := 0, cells := 0, slots := 0, locals := 0 }) (va_Pc ([.int a0, .int a1] : List Value) (fun _ => True)) (qL (g_chosen a0 a1.toNatClampNeg)) 0 0 (fun _ => False) := by
  refine Met.ofW (cc := cX3_chosen) (maxL := 5) (ret := (some .long)) (by decide) rfl ?_
  intro p e s m args below meth c s₁ B hml hv
  obtain ⟨rfl, -⟩ := hv
  have hx := B.exec
  have hb := B.bytes
  have hr := B.returns
  have hts := atoms_spec (ws := wsX3_chosen) B.pre
  have hown : s.vm.findClass RX3 = some m.cls := findClass_of_methodNamed B.named
  have hlocks := B.notSynchronized
  have hl := lv_entry ([.int a0, .int a1] : List Value) (n := 5) (Nat.le_of_ble_eq_true rfl)
  rw [lg_entry_eq]
  generalize (lg_sl ([.int a0, .int a1] : List Value) ++ List.replicate (5 - (lg_sl ([.int a0, .int a1] : List Value)).length) Slot.unset).toArray = ls at hl ⊢
  have hl : lv_has ls 5 [(0, .int a0), (1, .int a1)] := hl
  refine lv_lconst (v := 1) hx hb dX3_chosen_0 (by decide) ?_
  refine lv_lstore_n (lv' := [(2, .long _), (0, .int a0), (1, .int a1)]) hx hb dX3_chosen_1 rfl hl (by decide) rfl (fun ls hl => ?_)
  refine lv_iconst (v := 0) hx hb dX3_chosen_2 (by decide) ?_
  refine lv_istore (lv' := [(4, .int _), (2, .long _), (0, .int a0), (1, .int a1)]) hx hb dX3_chosen_3 hl (by decide) rfl (fun ls hl => ?_)
  have L5 : ∀ (n5 : Nat) (k : Nat), a1.toNatClampNeg + 1 ≤ k + n5 → (k ≤ a1.toNatClampNeg) → ∀ (ls : Array Slot), lv_has ls 5 [(0, .int a0), (1, .int a1), (2, .long (g_chosen a0 k)), (4, .int (nI k))] → W p l e { frames := 0, cells := 0, slots := 0, locals := 0 } s m ([.int a0, .int a1] : List Value).toArray below meth c s.heap [] 0 0 (MQ below (qL (g_chosen a0 a1.toNatClampNeg)) ([.int a0, .int a1] : List Value).toArray s 0 0 (fun _ => False)) (F0 m 5 ls []) := by
    intro n5
    induction n5 with
    | zero =>
      intro k hf5 hk
      exact absurd hf5 (by omega)
    | succ n5 ih5 =>
      intro k hf5 hk ls hl
      refine lv_iload hx hb dX3_chosen_5 (lv_at hl 3 rfl) ?_
      refine lv_iload_n hx hb dX3_chosen_7 rfl (lv_at hl 1 rfl) ?_
      refine lv_icmp_ge (tgt := 31) hx hb dX3_chosen_8 (by decide) (fun c_8 => ?_) (fun c_8 => ?_)
      · skip
        refine lv_lload_n hx hb dX3_chosen_31 rfl (lv_at hl 2 rfl) ?_
        exact W.lret hx hb hr (fun t ht _ => rl (by rw [cl_end hk c_8]) ht) no_locs dX3_chosen_32
      · skip
        refine lv_lload_n hx hb dX3_chosen_11 rfl (lv_at hl 2 rfl) ?_
        refine lv_iload_n hx hb dX3_chosen_12 rfl (lv_at hl 0 rfl) ?_
        refine lv_iload hx hb dX3_chosen_13 (lv_at hl 3 rfl) ?_
        refine lv_isub hx hb dX3_chosen_15 ?_
        refine lv_i2l hx hb dX3_chosen_16 rfl ?_
        refine lv_lmul hx hb dX3_chosen_17 ?_
        refine lv_iload hx hb dX3_chosen_18 (lv_at hl 3 rfl) ?_
        refine lv_iconst (v := 1) hx hb dX3_chosen_20 (by decide) ?_
        refine lv_iadd hx hb dX3_chosen_21 ?_
        refine lv_i2l hx hb dX3_chosen_22 rfl ?_
        refine lv_ldiv hx hb dX3_chosen_23 (by rw [nI_1]; exact nI_L_ne (by have := cl_go hk c_8; have := cl_lt (a := a1); omega)) ?_
        refine lv_lstore_n (lv' := [(2, .long _), (0, .int a0), (1, .int a1), (4, .int (nI k))]) hx hb dX3_chosen_24 rfl hl (by decide) rfl (fun ls hl => ?_)
        refine lv_iinc (lv' := [(4, .int (nI (k + 1))), (2, .long _), (0, .int a0), (1, .int a1)]) hx hb dX3_chosen_25 hl (k := 3) rfl (nI_1 _) (by decide) rfl (fun ls hl => ?_)
        refine lv_goto (tgt := 5) hx hb dX3_chosen_28 (by decide) ?_
        exact ih5 (k + 1) (by have := cl_go hk c_8; omega) (cl_go hk c_8) ls (lv_sub hl [2, 3, 1, 0] rfl)
  exact L5 (a1.toNatClampNeg + 1) 0 (by omega) (Nat.zero_le _) ls (lv_sub hl [2, 3, 1, 0] rfl)
theorem kd_J6_bitCount_0f7a4 : yJ6_bitCount_0f7a4.cls ≠ "java/lang/invoke/MethodHandle" ∧ yJ6_bitCount_0f7a4.cls ≠ "java/lang/invoke/VarHandle" ∧ (parseMethodDescriptor yJ6_bitCount_0f7a4.desc).map (fun d => d.parameters.length) = some 1 := by decide +kernel
set_option maxHeartbeats 4000000 in
set_option maxRecDepth 100000 in
theorem c_J6_bitCount_0f7a4 (l : Launch) {a0 : Int32} : Met l yJ6_bitCount_0f7a4 wsJ6_bitCount_0f7a4 ({ frames := 0, cells := 0, slots := 0, locals := 0 }) (va_Pc ([.int a0] : List Value) (fun _ => True)) (QcRead (f_bci a0)) 0 0 (fun _ => False) := by
  refine met_ofW (cc := cJ6_bitCount_0f7a4) (maxL := 1) (ret := (some .int)) (by decide +kernel) rfl ?_
  intro p e s m args below meth c s₁ B hml hv
  obtain ⟨rfl, -⟩ := hv
  have hx := B.exec
  have hb := B.bytes
  have hr := B.returns
  have hts := atoms_spec (ws := wsJ6_bitCount_0f7a4) B.pre
  have hown : s.vm.findClass RJ6 = some m.cls := findClass_of_methodNamed B.named
  have hlocks := B.notSynchronized
  have hw0 := hts (.constant RJ6 265 (1431655765)) (by decide +kernel)
  have hw1 := hts (.constant RJ6 266 (858993459)) (by decide +kernel)
  have hw2 := hts (.constant RJ6 267 (252645135)) (by decide +kernel)
  have hl := lv_entry ([.int a0] : List Value) (n := 1) (Nat.le_of_ble_eq_true rfl)
  rw [lg_entry_eq]
  generalize (lg_sl ([.int a0] : List Value) ++ List.replicate (1 - (lg_sl ([.int a0] : List Value)).length) Slot.unset).toArray = ls at hl ⊢
  have hl : lv_has ls 1 [(0, .int a0)] := hl
  refine lv_iload_n hx hb dJ6_bitCount_0f7a4_0 rfl (lv_at hl 0 rfl) ?_
  refine lv_iload_n hx hb dJ6_bitCount_0f7a4_1 rfl (lv_at hl 0 rfl) ?_
  refine lv_iconst (v := 1) hx hb dJ6_bitCount_0f7a4_2 (by decide) ?_
  refine lv_iushr hx hb dJ6_bitCount_0f7a4_3 rfl ?_
  refine lv_ldcw (v := 1431655765) hx hb hown hw0 dJ6_bitCount_0f7a4_4 ?_
  refine lv_iand hx hb dJ6_bitCount_0f7a4_7 ?_
  refine lv_isub hx hb dJ6_bitCount_0f7a4_8 ?_
  refine lv_topi (fun x1 e1 => ?_)
  refine lv_istore_n (lv' := [(0, .int _)]) hx hb dJ6_bitCount_0f7a4_9 rfl hl (by decide) rfl (fun ls hl => ?_)
  refine lv_iload_n hx hb dJ6_bitCount_0f7a4_10 rfl (lv_at hl 0 rfl) ?_
  refine lv_ldcw (v := 858993459) hx hb hown hw1 dJ6_bitCount_0f7a4_11 ?_
  refine lv_iand hx hb dJ6_bitCount_0f7a4_14 ?_
  refine lv_iload_n hx hb dJ6_bitCount_0f7a4_15 rfl (lv_at hl 0 rfl) ?_
  refine lv_iconst (v := 2) hx hb dJ6_bitCount_0f7a4_16 (by decide) ?_
  refine lv_iushr hx hb dJ6_bitCount_0f7a4_17 rfl ?_
  refine lv_ldcw (v := 858993459) hx hb hown hw1 dJ6_bitCount_0f7a4_18 ?_
  refine lv_iand hx hb dJ6_bitCount_0f7a4_21 ?_
  refine lv_iadd hx hb dJ6_bitCount_0f7a4_22 ?_
  refine lv_topi (fun x2 e2 => ?_)
  refine lv_istore_n (lv' := [(0, .int _)]) hx hb dJ6_bitCount_0f7a4_23 rfl hl (by decide) rfl (fun ls hl => ?_)
  refine lv_iload_n hx hb dJ6_bitCount_0f7a4_24 rfl (lv_at hl 0 rfl) ?_
  refine lv_iload_n hx hb dJ6_bitCount_0f7a4_25 rfl (lv_at hl 0 rfl) ?_
  refine lv_iconst (v := 4) hx hb dJ6_bitCount_0f7a4_26 (by decide) ?_
  refine lv_iushr hx hb dJ6_bitCount_0f7a4_27 rfl ?_
  refine lv_iadd hx hb dJ6_bitCount_0f7a4_28 ?_
  refine lv_ldcw (v := 252645135) hx hb hown hw2 dJ6_bitCount_0f7a4_29 ?_
  refine lv_iand hx hb dJ6_bitCount_0f7a4_32 ?_
  refine lv_topi (fun x3 e3 => ?_)
  refine lv_istore_n (lv' := [(0, .int _)]) hx hb dJ6_bitCount_0f7a4_33 rfl hl (by decide) rfl (fun ls hl => ?_)
  refine lv_iload_n hx hb dJ6_bitCount_0f7a4_34 rfl (lv_at hl 0 rfl) ?_
  refine lv_iload_n hx hb dJ6_bitCount_0f7a4_35 rfl (lv_at hl 0 rfl) ?_
  refine lv_bipush (v := 8) hx hb dJ6_bitCount_0f7a4_36 (by decide) ?_
  refine lv_iushr hx hb dJ6_bitCount_0f7a4_38 rfl ?_
  refine lv_iadd hx hb dJ6_bitCount_0f7a4_39 ?_
  refine lv_topi (fun x4 e4 => ?_)
  refine lv_istore_n (lv' := [(0, .int _)]) hx hb dJ6_bitCount_0f7a4_40 rfl hl (by decide) rfl (fun ls hl => ?_)
  refine lv_iload_n hx hb dJ6_bitCount_0f7a4_41 rfl (lv_at hl 0 rfl) ?_
  refine lv_iload_n hx hb dJ6_bitCount_0f7a4_42 rfl (lv_at hl 0 rfl) ?_
  refine lv_bipush (v := 16) hx hb dJ6_bitCount_0f7a4_43 (by decide) ?_
  refine lv_iushr hx hb dJ6_bitCount_0f7a4_45 rfl ?_
  refine lv_iadd hx hb dJ6_bitCount_0f7a4_46 ?_
  refine lv_topi (fun x5 e5 => ?_)
  refine lv_istore_n (lv' := [(0, .int _)]) hx hb dJ6_bitCount_0f7a4_47 rfl hl (by decide) rfl (fun ls hl => ?_)
  refine lv_iload_n hx hb dJ6_bitCount_0f7a4_48 rfl (lv_at hl 0 rfl) ?_
  refine lv_bipush (v := 63) hx hb dJ6_bitCount_0f7a4_49 (by decide) ?_
  refine lv_iand hx hb dJ6_bitCount_0f7a4_51 ?_
  exact W.iret hx hb hr (fun t ht _ => ri (by rw [e5, e4, e3, e2, e1]; rfl) ht) no_locs dJ6_bitCount_0f7a4_52
theorem kd_J13_bitCount_95d88 : yJ13_bitCount_95d88.cls ≠ "java/lang/invoke/MethodHandle" ∧ yJ13_bitCount_95d88.cls ≠ "java/lang/invoke/VarHandle" ∧ (parseMethodDescriptor yJ13_bitCount_95d88.desc).map (fun d => d.parameters.length) = some 1 := by decide +kernel
set_option maxHeartbeats 4000000 in
set_option maxRecDepth 100000 in
theorem c_J13_bitCount_95d88 (l : Launch) {a0 : Int64} : Met l yJ13_bitCount_95d88 wsJ13_bitCount_95d88 ({ frames := 0, cells := 0, slots := 0, locals := 0 }) (va_Pc ([.long a0] : List Value) (fun _ => True)) (QcRead (f_bc a0)) 0 0 (fun _ => False) := by
  refine met_ofW (cc := cJ13_bitCount_95d88) (maxL := 2) (ret := (some .int)) (by decide +kernel) rfl ?_
  intro p e s m args below meth c s₁ B hml hv
  obtain ⟨rfl, -⟩ := hv
  have hx := B.exec
  have hb := B.bytes
  have hr := B.returns
  have hts := atoms_spec (ws := wsJ13_bitCount_95d88) B.pre
  have hown : s.vm.findClass RJ13 = some m.cls := findClass_of_methodNamed B.named
  have hlocks := B.notSynchronized
  have hw0 := hts (.constantLong RJ13 314 (6148914691236517205)) (by decide +kernel)
  have hw1 := hts (.constantLong RJ13 316 (3689348814741910323)) (by decide +kernel)
  have hw2 := hts (.constantLong RJ13 318 (1085102592571150095)) (by decide +kernel)
  have hl := lv_entry ([.long a0] : List Value) (n := 2) (Nat.le_of_ble_eq_true rfl)
  rw [lg_entry_eq]
  generalize (lg_sl ([.long a0] : List Value) ++ List.replicate (2 - (lg_sl ([.long a0] : List Value)).length) Slot.unset).toArray = ls at hl ⊢
  have hl : lv_has ls 2 [(0, .long a0)] := hl
  refine lv_lload_n hx hb dJ13_bitCount_95d88_0 rfl (lv_at hl 0 rfl) ?_
  refine lv_lload_n hx hb dJ13_bitCount_95d88_1 rfl (lv_at hl 0 rfl) ?_
  refine lv_iconst (v := 1) hx hb dJ13_bitCount_95d88_2 (by decide) ?_
  refine lv_lushr hx hb dJ13_bitCount_95d88_3 rfl ?_
  refine lv_ldc2 (v := 6148914691236517205) hx hb hown hw0 dJ13_bitCount_95d88_4 ?_
  refine lv_land hx hb dJ13_bitCount_95d88_7 ?_
  refine lv_lsub hx hb dJ13_bitCount_95d88_8 ?_
  refine lv_topl (fun x1 e1 => ?_)
  refine lv_lstore_n (lv' := [(0, .long _)]) hx hb dJ13_bitCount_95d88_9 rfl hl (by decide) rfl (fun ls hl => ?_)
  refine lv_lload_n hx hb dJ13_bitCount_95d88_10 rfl (lv_at hl 0 rfl) ?_
  refine lv_ldc2 (v := 3689348814741910323) hx hb hown hw1 dJ13_bitCount_95d88_11 ?_
  refine lv_land hx hb dJ13_bitCount_95d88_14 ?_
  refine lv_lload_n hx hb dJ13_bitCount_95d88_15 rfl (lv_at hl 0 rfl) ?_
  refine lv_iconst (v := 2) hx hb dJ13_bitCount_95d88_16 (by decide) ?_
  refine lv_lushr hx hb dJ13_bitCount_95d88_17 rfl ?_
  refine lv_ldc2 (v := 3689348814741910323) hx hb hown hw1 dJ13_bitCount_95d88_18 ?_
  refine lv_land hx hb dJ13_bitCount_95d88_21 ?_
  refine lv_ladd hx hb dJ13_bitCount_95d88_22 ?_
  refine lv_topl (fun x2 e2 => ?_)
  refine lv_lstore_n (lv' := [(0, .long _)]) hx hb dJ13_bitCount_95d88_23 rfl hl (by decide) rfl (fun ls hl => ?_)
  refine lv_lload_n hx hb dJ13_bitCount_95d88_24 rfl (lv_at hl 0 rfl) ?_
  refine lv_lload_n hx hb dJ13_bitCount_95d88_25 rfl (lv_at hl 0 rfl) ?_
  refine lv_iconst (v := 4) hx hb dJ13_bitCount_95d88_26 (by decide) ?_
  refine lv_lushr hx hb dJ13_bitCount_95d88_27 rfl ?_
  refine lv_ladd hx hb dJ13_bitCount_95d88_28 ?_
  refine lv_ldc2 (v := 1085102592571150095) hx hb hown hw2 dJ13_bitCount_95d88_29 ?_
  refine lv_land hx hb dJ13_bitCount_95d88_32 ?_
  refine lv_topl (fun x3 e3 => ?_)
  refine lv_lstore_n (lv' := [(0, .long _)]) hx hb dJ13_bitCount_95d88_33 rfl hl (by decide) rfl (fun ls hl => ?_)
  refine lv_lload_n hx hb dJ13_bitCount_95d88_34 rfl (lv_at hl 0 rfl) ?_
  refine lv_lload_n hx hb dJ13_bitCount_95d88_35 rfl (lv_at hl 0 rfl) ?_
  refine lv_bipush (v := 8) hx hb dJ13_bitCount_95d88_36 (by decide) ?_
  refine lv_lushr hx hb dJ13_bitCount_95d88_38 rfl ?_
  refine lv_ladd hx hb dJ13_bitCount_95d88_39 ?_
  refine lv_topl (fun x4 e4 => ?_)
  refine lv_lstore_n (lv' := [(0, .long _)]) hx hb dJ13_bitCount_95d88_40 rfl hl (by decide) rfl (fun ls hl => ?_)
  refine lv_lload_n hx hb dJ13_bitCount_95d88_41 rfl (lv_at hl 0 rfl) ?_
  refine lv_lload_n hx hb dJ13_bitCount_95d88_42 rfl (lv_at hl 0 rfl) ?_
  refine lv_bipush (v := 16) hx hb dJ13_bitCount_95d88_43 (by decide) ?_
  refine lv_lushr hx hb dJ13_bitCount_95d88_45 rfl ?_
  refine lv_ladd hx hb dJ13_bitCount_95d88_46 ?_
  refine lv_topl (fun x5 e5 => ?_)
  refine lv_lstore_n (lv' := [(0, .long _)]) hx hb dJ13_bitCount_95d88_47 rfl hl (by decide) rfl (fun ls hl => ?_)
  refine lv_lload_n hx hb dJ13_bitCount_95d88_48 rfl (lv_at hl 0 rfl) ?_
  refine lv_lload_n hx hb dJ13_bitCount_95d88_49 rfl (lv_at hl 0 rfl) ?_
  refine lv_bipush (v := 32) hx hb dJ13_bitCount_95d88_50 (by decide) ?_
  refine lv_lushr hx hb dJ13_bitCount_95d88_52 rfl ?_
  refine lv_ladd hx hb dJ13_bitCount_95d88_53 ?_
  refine lv_topl (fun x6 e6 => ?_)
  refine lv_lstore_n (lv' := [(0, .long _)]) hx hb dJ13_bitCount_95d88_54 rfl hl (by decide) rfl (fun ls hl => ?_)
  refine lv_lload_n hx hb dJ13_bitCount_95d88_55 rfl (lv_at hl 0 rfl) ?_
  refine lv_l2i hx hb dJ13_bitCount_95d88_56 rfl ?_
  refine lv_bipush (v := 127) hx hb dJ13_bitCount_95d88_57 (by decide) ?_
  refine lv_iand hx hb dJ13_bitCount_95d88_59 ?_
  exact W.iret hx hb hr (fun t ht _ => ri (by rw [e6, e5, e4, e3, e2, e1]; rfl) ht) no_locs dJ13_bitCount_95d88_60
theorem kd_J9_floorDiv_f86c9 : yJ9_floorDiv_f86c9.cls ≠ "java/lang/invoke/MethodHandle" ∧ yJ9_floorDiv_f86c9.cls ≠ "java/lang/invoke/VarHandle" ∧ (parseMethodDescriptor yJ9_floorDiv_f86c9.desc).map (fun d => d.parameters.length) = some 2 := by decide +kernel
set_option maxHeartbeats 4000000 in
set_option maxRecDepth 100000 in
theorem c_J9_floorDiv_f86c9 (l : Launch) {a0 a1 : Int64} (hy : ¬ a1 = 0) : Met l yJ9_floorDiv_f86c9 wsJ9_floorDiv_f86c9 ({ frames := 0, cells := 0, slots := 0, locals := 0 }) (va_Pc ([.long a0, .long a1] : List Value) (fun _ => True)) (qL (f_floorDiv a0 a1)) 0 0 (fun _ => False) := by
  refine met_ofW (cc := cJ9_floorDiv_f86c9) (maxL := 6) (ret := (some .long)) (by decide +kernel) rfl ?_
  intro p e s m args below meth c s₁ B hml hv
  obtain ⟨rfl, -⟩ := hv
  have hx := B.exec
  have hb := B.bytes
  have hr := B.returns
  have hts := atoms_spec (ws := wsJ9_floorDiv_f86c9) B.pre
  have hown : s.vm.findClass RJ9 = some m.cls := findClass_of_methodNamed B.named
  have hlocks := B.notSynchronized
  have hl := lv_entry ([.long a0, .long a1] : List Value) (n := 6) (Nat.le_of_ble_eq_true rfl)
  rw [lg_entry_eq]
  generalize (lg_sl ([.long a0, .long a1] : List Value) ++ List.replicate (6 - (lg_sl ([.long a0, .long a1] : List Value)).length) Slot.unset).toArray = ls at hl ⊢
  have hl : lv_has ls 6 [(0, .long a0), (2, .long a1)] := hl
  refine lv_lload_n hx hb dJ9_floorDiv_f86c9_0 rfl (lv_at hl 0 rfl) ?_
  refine lv_lload_n hx hb dJ9_floorDiv_f86c9_1 rfl (lv_at hl 1 rfl) ?_
  refine lv_ldiv hx hb dJ9_floorDiv_f86c9_2 (hy) ?_
  refine lv_lstore (lv' := [(4, .long _), (0, .long a0), (2, .long a1)]) hx hb dJ9_floorDiv_f86c9_3 hl (by decide) rfl (fun ls hl => ?_)
  refine lv_lload_n hx hb dJ9_floorDiv_f86c9_5 rfl (lv_at hl 1 rfl) ?_
  refine lv_lload_n hx hb dJ9_floorDiv_f86c9_6 rfl (lv_at hl 2 rfl) ?_
  refine lv_lxor hx hb dJ9_floorDiv_f86c9_7 ?_
  refine lv_lconst (v := 0) hx hb dJ9_floorDiv_f86c9_8 (by decide) ?_
  refine W.lcmp hx hb dJ9_floorDiv_f86c9_9 ?_
  refine lv_if_ge (tgt := 27) hx hb dJ9_floorDiv_f86c9_10 (by decide) (fun c_10 => ?_) (fun c_10 => ?_)
  · skip
    have c_10 := (lg_cmp_ge _ _).mp c_10
    refine lv_lload hx hb dJ9_floorDiv_f86c9_27 (lv_at hl 0 rfl) ?_
    exact W.lret hx hb hr (fun t ht _ => rl (by unfold f_floorDiv; first | rw [if_pos c_10] | rw [if_neg c_10, if_pos c_19] | rw [if_neg c_10, if_neg c_19]) ht) no_locs dJ9_floorDiv_f86c9_29
  · skip
    have c_10 := fun h => c_10 ((lg_cmp_ge _ _).mpr h)
    refine lv_lload hx hb dJ9_floorDiv_f86c9_13 (lv_at hl 0 rfl) ?_
    refine lv_lload_n hx hb dJ9_floorDiv_f86c9_15 rfl (lv_at hl 2 rfl) ?_
    refine lv_lmul hx hb dJ9_floorDiv_f86c9_16 ?_
    refine lv_lload_n hx hb dJ9_floorDiv_f86c9_17 rfl (lv_at hl 1 rfl) ?_
    refine W.lcmp hx hb dJ9_floorDiv_f86c9_18 ?_
    refine lv_if_eq (tgt := 27) hx hb dJ9_floorDiv_f86c9_19 (by decide) (fun c_19 => ?_) (fun c_19 => ?_)
    · skip
      have c_19 := (lg_cmp_eq _ _).mp c_19
      refine lv_lload hx hb dJ9_floorDiv_f86c9_27 (lv_at hl 0 rfl) ?_
      exact W.lret hx hb hr (fun t ht _ => rl (by unfold f_floorDiv; first | rw [if_pos c_10] | rw [if_neg c_10, if_pos c_19] | rw [if_neg c_10, if_neg c_19]) ht) no_locs dJ9_floorDiv_f86c9_29
    · skip
      have c_19 := fun h => c_19 ((lg_cmp_eq _ _).mpr h)
      refine lv_lload hx hb dJ9_floorDiv_f86c9_22 (lv_at hl 0 rfl) ?_
      refine lv_lconst (v := 1) hx hb dJ9_floorDiv_f86c9_24 (by decide) ?_
      refine lv_lsub hx hb dJ9_floorDiv_f86c9_25 ?_
      exact W.lret hx hb hr (fun t ht _ => rl (by unfold f_floorDiv; first | rw [if_pos c_10] | rw [if_neg c_10, if_pos c_19] | rw [if_neg c_10, if_neg c_19]) ht) no_locs dJ9_floorDiv_f86c9_26
end
section
/-! the class's Rows, Form and private methods as functions -/
def f_round (ln i : Int32) : Int32 := i &&& (ln - 1)
def f_turn (i : Int32) : Nat → Int32
  | 0 => 0
  | k + 1 => (f_turn i k <<< ((1 : Int32) &&& 31)) ||| ((i >>> (nI k &&& 31)) &&& 1)
def f_shifted (ln : Int32) (r : Int64) (k : Int32) : Int64 := (ushrL r (f_round ln k) ||| shlL r (ln - f_round ln k)) &&& f_low ln
def f_tRow (fg : Int32) : Nat → Int64
  | 0 => 0
  | k + 1 => f_tRow fg k ||| shlL 1 (f_turn (nI k) fg.toNatClampNeg)
def f_sRow (fg v : Int32) : Nat → Int64
  | 0 => 0
  | k + 1 => if (v * (nI k + 1)) >>> (fg &&& 31) ≤ (v * nI k) >>> (fg &&& 31) then f_sRow fg v k else f_sRow fg v k ||| shlL 1 (nI k)
def f_taps (ln : Int32) : Int32 := if ln = 8 then 6 else if ln = 16 then 12 else if ln = 32 then 20 else 48
def f_regn (taps r : Int32) : Int32 := if r &&& 1 = 1 then (r >>> ((1 : Int32) &&& 31)) ^^^ taps else r >>> ((1 : Int32) &&& 31)
def f_reg (taps : Int32) : Nat → Int32
  | 0 => 1
  | k + 1 => f_regn taps (f_reg taps k)
def f_rRow (taps v : Int32) : Nat → Int64
  | 0 => 0
  | k + 1 => if v < f_reg taps k then f_rRow taps v k else f_rRow taps v k ||| shlL 1 (nI k)
def f_register (ln v : Int32) : Int64 := if v < ln then f_rRow (f_taps ln) v (ln - 1).toNatClampNeg else f_rRow (f_taps ln) v (ln - 1).toNatClampNeg ||| shlL 1 (ln - 1)
def f_src (ln fg s v : Int32) : Int64 := if s = 0 then f_low v else if s = 1 then f_tRow fg v.toNatClampNeg else if s = 2 then f_sRow fg v ln.toNatClampNeg else f_register ln v
def f_wb (m lo : Int32) : Nat → Int64
  | 0 => 1
  | k + 1 => if nI k = lo then f_wb m lo k else f_wb m lo k * f_ways m (nI k) k
def f_pb (d : Nat) (sc m : Int32) : Int64 := sc.toInt64 * f_wb m (-1) (d + 1)
def f_pa (d : Nat) (nu : Nat → Int32) (m j : Int32) : Nat → Int64
  | 0 => 0
  | k + 1 => f_pa d nu m j k + f_ways j (nI k) k * (nu k).toInt64 * f_wb m (nI k) (d + 1)
/-- the j-th part's upper number -/
def f_up (d : Nat) (nu : Nat → Int32) (m : Int32) (j : Nat) : Int64 := f_pa d nu m (nI j) (min d j + 1)
abbrev f_ok (d : Nat) (nu : Nat → Int32) (sc m : Int32) (j : Nat) : Prop := ¬ f_up d nu m j < 0 ∧ f_up d nu m j ≤ f_pb d sc m
def f_th (d : Nat) (nu : Nat → Int32) (v ln : Int32) : Nat → Int64
  | 0 => 0
  | k + 1 => f_th d nu v ln k + (nu k).toInt64 * f_power v.toInt64 k * f_power ln.toInt64 (nI d - nI k).toNatClampNeg
def f_max1 (x : Int64) : Int64 := if 1 < x then x else 1
theorem f_max1_ne (x : Int64) : ¬ f_max1 x = 0 := by
  unfold f_max1
  split
  · rename_i h
    intro q
    rw [q] at h
    exact absurd h (by decide)
  · decide
def f_at (d : Nat) (nu : Nat → Int32) (sc v ln : Int32) : Int32 := (f_floorDiv (1000 * f_th d nu v ln (d + 1)) (f_max1 (sc.toInt64 * f_power ln.toInt64 d))).toInt32
def f_sort (ln : Int32) (a b : Int64) (s : Int32) : Int32 := f_bc (((if s = 0 ∨ s = 1 then a else a ^^^ (-1)) &&& (if s = 0 ∨ s = 2 then b else b ^^^ (-1))) &&& f_low ln)
def f_due (ln g v w : Int32) : Int32 := if g = 0 then v * w else if g = 1 then ln * (v + w) - v * w else if g = 2 then ln * (v + w) - 2 * v * w else ln * ln - (ln * (v + w) - 2 * v * w)
/-- the machine: state and own bits -/
def f_mst (r : Int64) (k : Int32) : Nat → Int32
  | 0 => k / 2 - 1
  | i + 1 => if f_bitOf r (nI i) = 1 then (if k - 1 < f_mst r k i + 1 then k - 1 else f_mst r k i + 1) else (if f_mst r k i - 1 < 0 then 0 else f_mst r k i - 1)
def f_mrow (r : Int64) (k : Int32) : Nat → Int64
  | 0 => 0
  | i + 1 => if k / 2 ≤ f_mst r k (i + 1) then f_mrow r k i ||| shlL 1 (nI i) else f_mrow r k i
def f_jn (ln : Int32) (r : Int64) (i : Int32) : Nat → Int32
  | 0 => 0
  | k + 1 => f_jn ln r i k + f_bitOf r (f_round ln (i + nI k))
def f_form (ln fg : Int32) (pa : Nat → Int64) (pb : Int64) (r : Int64) (m : Nat) : Nat → Int64
  | 0 => 0
  | i + 1 => if pa (f_jn ln r (nI i) m).toNatClampNeg * ln.toInt64 ≤ (f_turn (nI i) fg.toNatClampNeg).toInt64 * pb then f_form ln fg pa pb r m i else f_form ln fg pa pb r m i ||| shlL 1 (nI i)
theorem nI_nlt_go {k n : Nat} (hk : k ≤ n + 1) (hn : n < 2 ^ 30) (h : ¬ nI n < nI k) : k ≤ n := by
  have := mt (nI_ltI (a := n) (b := k) (by omega) (by omega)).mpr h
  omega
theorem nI_nlt_end {k n : Nat} (hk : k ≤ n + 1) (hn : n < 2 ^ 30) (h : nI n < nI k) : k = n + 1 := by
  have := (nI_ltI (a := n) (b := k) (by omega) (by omega)).mp h
  omega
theorem nI_cl_sub {a b : Nat} (h : b ≤ a) (ha : a < 2 ^ 31) : (nI a - nI b).toNatClampNeg = a - b := by rw [pk_sub h, nI_clamp (by omega)]
theorem nI_cl {a : Nat} (ha : a < 2 ^ 31) : (nI a).toNatClampNeg = a := nI_clamp ha
/-- one place of the search for the greatest miss -/
def f_diff (n : Nat) (g : Int32) (fr sr : Nat → Int64) (v w : Nat) : Int32 := if 0 ≤ f_bc (f_gated g (fr v) (sr w) 0 &&& f_low (nI n)) * nI n - f_due (nI n) g (nI v) (nI w) then f_bc (f_gated g (fr v) (sr w) 0 &&& f_low (nI n)) * nI n - f_due (nI n) g (nI v) (nI w) else 0 - (f_bc (f_gated g (fr v) (sr w) 0 &&& f_low (nI n)) * nI n - f_due (nI n) g (nI v) (nI w))
def f_gms (dd : Int32) (v w : Nat) (t : Int32 × Int32 × Int32) : Int32 × Int32 × Int32 := if dd ≤ t.1 then t else (dd, nI v, nI w)
def f_gmr (n : Nat) (df : Nat → Nat → Int32) (v : Nat) (t : Int32 × Int32 × Int32) : Nat → Int32 × Int32 × Int32
  | 0 => t
  | w + 1 => f_gms (df v w) v w (f_gmr n df v t w)
def f_gmv (n : Nat) (df : Nat → Nat → Int32) (t : Int32 × Int32 × Int32) : Nat → Int32 × Int32 × Int32
  | 0 => t
  | v + 1 => f_gmr n df v (f_gmv n df t v) (n + 1)
def f_gm (n : Nat) (g : Int32) (fr sr : Nat → Int64) (mv mw : Int32) (v w : Nat) : Int32 × Int32 × Int32 := f_gmr n (f_diff n g fr sr) v (f_gmv n (f_diff n g fr sr) (-1, mv, mw) v) w
theorem f_gm_step {n : Nat} {g : Int32} {fr sr : Nat → Int64} {mv mw : Int32} {v w : Nat} (_ : w ≤ n) : f_gm n g fr sr mv mw v (w + 1) = f_gms (f_diff n g fr sr v w) v w (f_gm n g fr sr mv mw v w) := rfl
theorem f_gm_row (n : Nat) (g : Int32) (fr sr : Nat → Int64) (mv mw : Int32) (v : Nat) : f_gm n g fr sr mv mw (v + 1) 0 = f_gm n g fr sr mv mw v (n + 1) := rfl
theorem f_bitOf_01 (r : Int64) (i : Int32) : f_bitOf r i = 0 ∨ f_bitOf r i = 1 := by
  unfold f_bitOf
  obtain ⟨x, hx, e⟩ := wb_of (ushrL r i)
  rw [e, wb_a1 hx, lN_i]
  rcases (show x % 2 = 0 ∨ x % 2 = 1 by omega) with q | q <;> rw [q]
  · exact Or.inl rfl
  · exact Or.inr rfl
theorem f_jn_nat (ln : Int32) (r : Int64) (i : Int32) : ∀ k : Nat, ∃ j : Nat, j ≤ k ∧ f_jn ln r i k = nI j
  | 0 => ⟨0, Nat.le_refl 0, rfl⟩
  | k + 1 => by
    obtain ⟨j, h1, h2⟩ := f_jn_nat ln r i k
    rcases f_bitOf_01 r (f_round ln (i + nI k)) with q | q
    · exact ⟨j, by omega, by rw [f_jn, h2, q]; exact nI_add j 0⟩
    · exact ⟨j + 1, by omega, by rw [f_jn, h2, q]; exact nI_add j 1⟩
theorem f_jn_in {ln : Int32} {r : Int64} {i : Int32} {k N : Nat} (h : k < N) (hN : N < 2 ^ 31 := by omega) : vp_in (f_jn ln r i k) N := by
  obtain ⟨j, h1, h2⟩ := f_jn_nat ln r i k
  rw [h2]
  exact vp_in_nI (by omega) hN
theorem sd_step {d k : Nat} {nu u : Nat → Int32} (hd : d < k) (hu : ∀ i, u i = if d < i ∧ i < k then 0 else nu i) (i : Nat) : upd u k 0 i = if d < i ∧ i < k + 1 then 0 else nu i := by
  unfold upd
  by_cases q : i = k
  · rw [if_pos q, if_pos (by omega)]
  · rw [if_neg q, hu i]
    by_cases z : d < i ∧ i < k
    · rw [if_pos z, if_pos (by omega)]
    · rw [if_neg z, if_neg (by omega)]
end
section
theorem kd_X1_round : yX1_round.cls ≠ "java/lang/invoke/MethodHandle" ∧ yX1_round.cls ≠ "java/lang/invoke/VarHandle" ∧ (parseMethodDescriptor yX1_round.desc).map (fun d => d.parameters.length) = some 1 := by decide +kernel
set_option maxHeartbeats 4000000 in
set_option maxRecDepth 100000 in
theorem c_X1_round (l : Launch) {dC : Nat → ClassId} {dI : Nat → Nat → Nat} {ad : Nat → Nat} {cI cJ : ClassId} {ln : Int32} {fg : Int32} {dg : Int32} {sc : Int32} {ms : Int32} {mi : Int32} {mv : Int32} {mw : Int32} {st : (Nat → Int64)} {fr : (Nat → Int64)} {sr : (Nat → Int64)} {pa : (Nat → Int64)} {nu : (Nat → Int32)} {a0 : Int32} : Met l yX1_round wsX1_round ({ frames := 0, cells := 0, slots := 0, locals := 0 }) (va_Pc ([.ref (ad 1), .int a0] : List Value) (gB (dC, dI) (tyw cI cJ) (xw ad cI cJ ln fg dg sc ms mi mv mw st fr sr pa nu))) (QcRead (f_round ln a0)) 0 0 (fun _ => False) := by
  refine Met.ofW (cc := cX1_round) (maxL := 2) (ret := (some .int)) (by decide) rfl ?_
  intro p e s m args below meth c s₁ B hml hv
  obtain ⟨rfl, hnw, hK, hP⟩ := hv
  have hx := B.exec
  have hb := B.bytes
  have hr := B.returns
  have hts := atoms_spec (ws := wsX1_round) B.pre
  have hown : s.vm.findClass RX1 = some m.cls := findClass_of_methodNamed B.named
  have hlocks := B.notSynchronized
  have hw0 := hts (.fieldLink RX1 9 "BitStreams$Rows" "length" "I") (by decide +kernel)
  have inX1 : ∀ w ∈ wsX10, w ∈ wsX1_round := by decide +kernel
  have hl := lv_entry ([.ref (ad 1), .int a0] : List Value) (n := 2) (Nat.le_of_ble_eq_true rfl)
  rw [lg_entry_eq]
  generalize (lg_sl ([.ref (ad 1), .int a0] : List Value) ++ List.replicate (2 - (lg_sl ([.ref (ad 1), .int a0] : List Value)).length) Slot.unset).toArray = ls at hl ⊢
  have hl : lv_has ls 2 [(0, .ref (ad 1)), (1, .int a0)] := hl
  refine lv_iload_n hx hb dX1_round_0 rfl (lv_at hl 1 rfl) ?_
  refine lv_aload_n hx hb dX1_round_1 rfl (lv_at hl 0 rfl) ?_
  refine va_get (D := (dC, dI)) (ci := 1) (C := RX1) (T := TX1) (N := 2) hx hb hts inX1 hown hK hP 1 rfl rfl 0 (by decide) hw0 (fun _ h9 => h9) rfl dX1_round_2 ?_
  refine lv_iconst (v := 1) hx hb dX1_round_5 (by decide) ?_
  refine lv_isub hx hb dX1_round_6 ?_
  refine lv_iand hx hb dX1_round_7 ?_
  exact W.iret hx hb hr (fun t ht _ => ri rfl ht) no_locs dX1_round_8
theorem kd_X1_turned : yX1_turned.cls ≠ "java/lang/invoke/MethodHandle" ∧ yX1_turned.cls ≠ "java/lang/invoke/VarHandle" ∧ (parseMethodDescriptor yX1_turned.desc).map (fun d => d.parameters.length) = some 1 := by decide +kernel
set_option maxHeartbeats 4000000 in
set_option maxRecDepth 100000 in
theorem c_X1_turned (l : Launch) {dC : Nat → ClassId} {dI : Nat → Nat → Nat} {ad : Nat → Nat} {cI cJ : ClassId} {ln : Int32} {fg : Int32} {dg : Int32} {sc : Int32} {ms : Int32} {mi : Int32} {mv : Int32} {mw : Int32} {st : (Nat → Int64)} {fr : (Nat → Int64)} {sr : (Nat → Int64)} {pa : (Nat → Int64)} {nu : (Nat → Int32)} {a0 : Int32} : Met l yX1_turned wsX1_turned ({ frames := 0, cells := 0, slots := 0, locals := 0 }) (va_Pc ([.ref (ad 1), .int a0] : List Value) (gB (dC, dI) (tyw cI cJ) (xw ad cI cJ ln fg dg sc ms mi mv mw st fr sr pa nu))) (QcRead (f_turn a0 fg.toNatClampNeg)) 0 0 (fun _ => False) := by
  refine Met.ofW (cc := cX1_turned) (maxL := 4) (ret := (some .int)) (by decide) rfl ?_
  intro p e s m args below meth c s₁ B hml hv
  obtain ⟨rfl, hnw, hK, hP⟩ := hv
  have hx := B.exec
  have hb := B.bytes
  have hr := B.returns
  have hts := atoms_spec (ws := wsX1_turned) B.pre
  have hown : s.vm.findClass RX1 = some m.cls := findClass_of_methodNamed B.named
  have hlocks := B.notSynchronized
  have hw0 := hts (.fieldLink RX1 21 "BitStreams$Rows" "figures" "I") (by decide +kernel)
  have inX1 : ∀ w ∈ wsX10, w ∈ wsX1_turned := by decide +kernel
  have hl := lv_entry ([.ref (ad 1), .int a0] : List Value) (n := 4) (Nat.le_of_ble_eq_true rfl)
  rw [lg_entry_eq]
  generalize (lg_sl ([.ref (ad 1), .int a0] : List Value) ++ List.replicate (4 - (lg_sl ([.ref (ad 1), .int a0] : List Value)).length) Slot.unset).toArray = ls at hl ⊢
  have hl : lv_has ls 4 [(0, .ref (ad 1)), (1, .int a0)] := hl
  refine lv_iconst (v := 0) hx hb dX1_turned_0 (by decide) ?_
  refine lv_istore_n (lv' := [(2, .int _), (0, .ref (ad 1)), (1, .int a0)]) hx hb dX1_turned_1 rfl hl (by decide) rfl (fun ls hl => ?_)
  refine lv_iconst (v := 0) hx hb dX1_turned_2 (by decide) ?_
  refine lv_istore_n (lv' := [(3, .int _), (2, .int _), (0, .ref (ad 1)), (1, .int a0)]) hx hb dX1_turned_3 rfl hl (by decide) rfl (fun ls hl => ?_)
  have L4 : ∀ (n4 : Nat) (k : Nat), fg.toNatClampNeg + 1 ≤ k + n4 → (k ≤ fg.toNatClampNeg) → ∀ (ls : Array Slot), lv_has ls 4 [(0, .ref (ad 1)), (1, .int a0), (2, .int (f_turn a0 k)), (3, .int (nI k))] → W p l e { frames := 0, cells := 0, slots := 0, locals := 0 } s m ([.ref (ad 1), .int a0] : List Value).toArray below meth c s.heap [] 0 0 (MQ below (QcRead (f_turn a0 fg.toNatClampNeg)) ([.ref (ad 1), .int a0] : List Value).toArray s 0 0 (fun _ => False)) (F0 m 4 ls []) := by
    intro n4
    induction n4 with
    | zero =>
      intro k hf4 hk
      exact absurd hf4 (by omega)
    | succ n4 ih4 =>
      intro k hf4 hk ls hl
      refine lv_iload_n hx hb dX1_turned_4 rfl (lv_at hl 3 rfl) ?_
      refine lv_aload_n hx hb dX1_turned_5 rfl (lv_at hl 0 rfl) ?_
      refine va_get (D := (dC, dI)) (ci := 1) (C := RX1) (T := TX1) (N := 2) hx hb hts inX1 hown hK hP 1 rfl rfl 1 (by decide) hw0 (fun _ h9 => h9) rfl dX1_turned_6 ?_
      refine lv_icmp_ge (tgt := 28) hx hb dX1_turned_9 (by decide) (fun c_9 => ?_) (fun c_9 => ?_)
      · skip
        refine lv_iload_n hx hb dX1_turned_28 rfl (lv_at hl 2 rfl) ?_
        exact W.iret hx hb hr (fun t ht _ => ri (by rw [cl_end hk c_9]) ht) no_locs dX1_turned_29
      · skip
        refine lv_iload_n hx hb dX1_turned_12 rfl (lv_at hl 2 rfl) ?_
        refine lv_iconst (v := 1) hx hb dX1_turned_13 (by decide) ?_
        refine lv_ishl hx hb dX1_turned_14 ?_
        refine lv_iload_n hx hb dX1_turned_15 rfl (lv_at hl 1 rfl) ?_
        refine lv_iload_n hx hb dX1_turned_16 rfl (lv_at hl 3 rfl) ?_
        refine lv_ishr hx hb dX1_turned_17 ?_
        refine lv_iconst (v := 1) hx hb dX1_turned_18 (by decide) ?_
        refine lv_iand hx hb dX1_turned_19 ?_
        refine lv_ior hx hb dX1_turned_20 ?_
        refine lv_istore_n (lv' := [(2, .int _), (0, .ref (ad 1)), (1, .int a0), (3, .int (nI k))]) hx hb dX1_turned_21 rfl hl (by decide) rfl (fun ls hl => ?_)
        refine lv_iinc (lv' := [(3, .int (nI (k + 1))), (2, .int _), (0, .ref (ad 1)), (1, .int a0)]) hx hb dX1_turned_22 hl (k := 3) rfl (nI_1 _) (by decide) rfl (fun ls hl => ?_)
        refine lv_goto (tgt := 4) hx hb dX1_turned_25 (by decide) ?_
        exact ih4 (k + 1) (by have := cl_go hk c_9; omega) (cl_go hk c_9) ls (lv_sub hl [2, 3, 1, 0] rfl)
  exact L4 (fg.toNatClampNeg + 1) 0 (by omega) (Nat.zero_le _) ls (lv_sub hl [2, 3, 1, 0] rfl)
theorem kd_X1_shifted : yX1_shifted.cls ≠ "java/lang/invoke/MethodHandle" ∧ yX1_shifted.cls ≠ "java/lang/invoke/VarHandle" ∧ (parseMethodDescriptor yX1_shifted.desc).map (fun d => d.parameters.length) = some 2 := by decide +kernel
set_option maxHeartbeats 4000000 in
set_option maxRecDepth 100000 in
theorem c_X1_shifted (l : Launch) {dC : Nat → ClassId} {dI : Nat → Nat → Nat} {ad : Nat → Nat} {cI cJ : ClassId} {ln : Int32} {fg : Int32} {dg : Int32} {sc : Int32} {ms : Int32} {mi : Int32} {mv : Int32} {mw : Int32} {st : (Nat → Int64)} {fr : (Nat → Int64)} {sr : (Nat → Int64)} {pa : (Nat → Int64)} {nu : (Nat → Int32)} {a0 : Int64} {a1 : Int32} : Met l yX1_shifted wsX1_shifted ({ frames := 1, cells := 0, slots := 0, locals := 21 }) (va_Pc ([.ref (ad 1), .long a0, .int a1] : List Value) (gB (dC, dI) (tyw cI cJ) (xw ad cI cJ ln fg dg sc ms mi mv mw st fr sr pa nu))) (qL (f_shifted ln a0 a1)) 0 0 (fun _ => False) := by
  refine Met.ofW (cc := cX1_shifted) (maxL := 5) (ret := (some .long)) (by decide) rfl ?_
  intro p e s m args below meth c s₁ B hml hv
  obtain ⟨rfl, hnw, hK, hP⟩ := hv
  have hx := B.exec
  have hb := B.bytes
  have hr := B.returns
  have hts := atoms_spec (ws := wsX1_shifted) B.pre
  have hown : s.vm.findClass RX1 = some m.cls := findClass_of_methodNamed B.named
  have hlocks := B.notSynchronized
  have hw0 := hts (.fieldLink RX1 9 "BitStreams$Rows" "length" "I") (by decide +kernel)
  have hw1 := hts (.initialized RX2) (by decide +kernel)
  have hw2 := hts (.static yX2_lowBits) (by decide +kernel)
  have inX1 : ∀ w ∈ wsX10, w ∈ wsX1_shifted := by decide +kernel
  have hl := lv_entry ([.ref (ad 1), .long a0, .int a1] : List Value) (n := 5) (Nat.le_of_ble_eq_true rfl)
  rw [lg_entry_eq]
  generalize (lg_sl ([.ref (ad 1), .long a0, .int a1] : List Value) ++ List.replicate (5 - (lg_sl ([.ref (ad 1), .long a0, .int a1] : List Value)).length) Slot.unset).toArray = ls at hl ⊢
  have hl : lv_has ls 5 [(0, .ref (ad 1)), (1, .long a0), (3, .int a1)] := hl
  refine lv_aload_n hx hb dX1_shifted_0 rfl (lv_at hl 0 rfl) ?_
  refine lv_iload_n hx hb dX1_shifted_1 rfl (lv_at hl 2 rfl) ?_
  refine ro_i (va_runV ⟨hx, hb, hml, hown, hts⟩ (c_X1_round l ) (cwV 1 hts gX1_shifted_X1_round rfl rfl rfl ⟨rfl, kd_X1_round⟩ ⟨Nat.le_of_ble_eq_true rfl, Nat.le_of_ble_eq_true rfl⟩) (preV1 hnw hK hP 1 1 rfl rfl) rfl rfl hl.1 rfl (lv_room (Nat.le_of_ble_eq_true rfl)) dX1_shifted_2 ⟨Nat.zero_le _, Nat.zero_le _⟩) ?_
  refine lv_istore (lv' := [(4, .int _), (0, .ref (ad 1)), (1, .long a0), (3, .int a1)]) hx hb dX1_shifted_5 hl (by decide) rfl (fun ls hl => ?_)
  refine lv_lload_n hx hb dX1_shifted_7 rfl (lv_at hl 2 rfl) ?_
  refine lv_iload hx hb dX1_shifted_8 (lv_at hl 0 rfl) ?_
  refine lv_lushr hx hb dX1_shifted_10 rfl ?_
  refine lv_lload_n hx hb dX1_shifted_11 rfl (lv_at hl 2 rfl) ?_
  refine lv_aload_n hx hb dX1_shifted_12 rfl (lv_at hl 1 rfl) ?_
  refine va_get (D := (dC, dI)) (ci := 1) (C := RX1) (T := TX1) (N := 2) hx hb hts inX1 hown hK hP 1 rfl rfl 0 (by decide) hw0 (fun _ h9 => h9) rfl dX1_shifted_13 ?_
  refine lv_iload hx hb dX1_shifted_16 (lv_at hl 0 rfl) ?_
  refine lv_isub hx hb dX1_shifted_18 ?_
  refine lv_lshl hx hb dX1_shifted_19 rfl ?_
  refine lv_lor hx hb dX1_shifted_20 ?_
  refine lv_aload_n hx hb dX1_shifted_21 rfl (lv_at hl 1 rfl) ?_
  refine va_get (D := (dC, dI)) (ci := 1) (C := RX1) (T := TX1) (N := 2) hx hb hts inX1 hown hK hP 1 rfl rfl 0 (by decide) hw0 (fun _ h9 => h9) rfl dX1_shifted_22 ?_
  refine ro_l (va_runSN ⟨hx, hb, hml, hown, hts⟩ (c_X2_lowBits l ) ⟨va_cnB 1 hts gX1_shifted_X2_lowBits_n27 rfl rfl rfl (hnw.at 8 rfl) hw1 kd_X2_lowBits ⟨Nat.le_of_ble_eq_true rfl, Nat.le_of_ble_eq_true rfl⟩, hw2, trivial⟩ preS0 rfl rfl hl.1 rfl (lv_room (Nat.le_of_ble_eq_true rfl)) dX1_shifted_25 ⟨Nat.zero_le _, Nat.zero_le _⟩) ?_
  refine lv_land hx hb dX1_shifted_28 ?_
  exact W.lret hx hb hr (fun t ht _ => rl rfl ht) no_locs dX1_shifted_29
theorem kd_X1_turnedRow : yX1_turnedRow.cls ≠ "java/lang/invoke/MethodHandle" ∧ yX1_turnedRow.cls ≠ "java/lang/invoke/VarHandle" ∧ (parseMethodDescriptor yX1_turnedRow.desc).map (fun d => d.parameters.length) = some 1 := by decide +kernel
set_option maxHeartbeats 4000000 in
set_option maxRecDepth 100000 in
theorem c_X1_turnedRow (l : Launch) {dC : Nat → ClassId} {dI : Nat → Nat → Nat} {ad : Nat → Nat} {cI cJ : ClassId} {ln : Int32} {fg : Int32} {dg : Int32} {sc : Int32} {ms : Int32} {mi : Int32} {mv : Int32} {mw : Int32} {st : (Nat → Int64)} {fr : (Nat → Int64)} {sr : (Nat → Int64)} {pa : (Nat → Int64)} {nu : (Nat → Int32)} {a0 : Int32} : Met l yX1_turnedRow wsX1_turnedRow ({ frames := 1, cells := 0, slots := 0, locals := 23 }) (va_Pc ([.ref (ad 1), .int a0] : List Value) (gB (dC, dI) (tyw cI cJ) (xw ad cI cJ ln fg dg sc ms mi mv mw st fr sr pa nu))) (qL (f_tRow fg a0.toNatClampNeg)) 0 0 (fun _ => False) := by
  refine Met.ofW (cc := cX1_turnedRow) (maxL := 5) (ret := (some .long)) (by decide) rfl ?_
  intro p e s m args below meth c s₁ B hml hv
  obtain ⟨rfl, hnw, hK, hP⟩ := hv
  have hx := B.exec
  have hb := B.bytes
  have hr := B.returns
  have hts := atoms_spec (ws := wsX1_turnedRow) B.pre
  have hown : s.vm.findClass RX1 = some m.cls := findClass_of_methodNamed B.named
  have hlocks := B.notSynchronized
  have hl := lv_entry ([.ref (ad 1), .int a0] : List Value) (n := 5) (Nat.le_of_ble_eq_true rfl)
  rw [lg_entry_eq]
  generalize (lg_sl ([.ref (ad 1), .int a0] : List Value) ++ List.replicate (5 - (lg_sl ([.ref (ad 1), .int a0] : List Value)).length) Slot.unset).toArray = ls at hl ⊢
  have hl : lv_has ls 5 [(0, .ref (ad 1)), (1, .int a0)] := hl
  refine lv_lconst (v := 0) hx hb dX1_turnedRow_0 (by decide) ?_
  refine lv_lstore_n (lv' := [(2, .long _), (0, .ref (ad 1)), (1, .int a0)]) hx hb dX1_turnedRow_1 rfl hl (by decide) rfl (fun ls hl => ?_)
  refine lv_iconst (v := 0) hx hb dX1_turnedRow_2 (by decide) ?_
  refine lv_istore (lv' := [(4, .int _), (2, .long _), (0, .ref (ad 1)), (1, .int a0)]) hx hb dX1_turnedRow_3 hl (by decide) rfl (fun ls hl => ?_)
  have L5 : ∀ (n5 : Nat) (k : Nat), a0.toNatClampNeg + 1 ≤ k + n5 → (k ≤ a0.toNatClampNeg) → ∀ (ls : Array Slot), lv_has ls 5 [(0, .ref (ad 1)), (1, .int a0), (2, .long (f_tRow fg k)), (4, .int (nI k))] → W p l e { frames := 1, cells := 0, slots := 0, locals := 23 } s m ([.ref (ad 1), .int a0] : List Value).toArray below meth c s.heap [] 0 0 (MQ below (qL (f_tRow fg a0.toNatClampNeg)) ([.ref (ad 1), .int a0] : List Value).toArray s 0 0 (fun _ => False)) (F0 m 5 ls []) := by
    intro n5
    induction n5 with
    | zero =>
      intro k hf5 hk
      exact absurd hf5 (by omega)
    | succ n5 ih5 =>
      intro k hf5 hk ls hl
      refine lv_iload hx hb dX1_turnedRow_5 (lv_at hl 3 rfl) ?_
      refine lv_iload_n hx hb dX1_turnedRow_7 rfl (lv_at hl 1 rfl) ?_
      refine lv_icmp_ge (tgt := 28) hx hb dX1_turnedRow_8 (by decide) (fun c_8 => ?_) (fun c_8 => ?_)
      · skip
        refine lv_lload_n hx hb dX1_turnedRow_28 rfl (lv_at hl 2 rfl) ?_
        exact W.lret hx hb hr (fun t ht _ => rl (by rw [cl_end hk c_8]) ht) no_locs dX1_turnedRow_29
      · skip
        refine lv_lload_n hx hb dX1_turnedRow_11 rfl (lv_at hl 2 rfl) ?_
        refine lv_lconst (v := 1) hx hb dX1_turnedRow_12 (by decide) ?_
        refine lv_aload_n hx hb dX1_turnedRow_13 rfl (lv_at hl 0 rfl) ?_
        refine lv_iload hx hb dX1_turnedRow_14 (lv_at hl 3 rfl) ?_
        refine ro_i (va_runV ⟨hx, hb, hml, hown, hts⟩ (c_X1_turned l ) (cwV 1 hts gX1_turnedRow_X1_turned rfl rfl rfl ⟨rfl, kd_X1_turned⟩ ⟨Nat.le_of_ble_eq_true rfl, Nat.le_of_ble_eq_true rfl⟩) (preV1 hnw hK hP 1 1 rfl rfl) rfl rfl hl.1 rfl (lv_room (Nat.le_of_ble_eq_true rfl)) dX1_turnedRow_16 ⟨Nat.zero_le _, Nat.zero_le _⟩) ?_
        refine lv_lshl hx hb dX1_turnedRow_19 rfl ?_
        refine lv_lor hx hb dX1_turnedRow_20 ?_
        refine lv_lstore_n (lv' := [(2, .long _), (0, .ref (ad 1)), (1, .int a0), (4, .int (nI k))]) hx hb dX1_turnedRow_21 rfl hl (by decide) rfl (fun ls hl => ?_)
        refine lv_iinc (lv' := [(4, .int (nI (k + 1))), (2, .long _), (0, .ref (ad 1)), (1, .int a0)]) hx hb dX1_turnedRow_22 hl (k := 3) rfl (nI_1 _) (by decide) rfl (fun ls hl => ?_)
        refine lv_goto (tgt := 5) hx hb dX1_turnedRow_25 (by decide) ?_
        exact ih5 (k + 1) (by have := cl_go hk c_8; omega) (cl_go hk c_8) ls (lv_sub hl [2, 3, 1, 0] rfl)
  exact L5 (a0.toNatClampNeg + 1) 0 (by omega) (Nat.zero_le _) ls (lv_sub hl [2, 3, 1, 0] rfl)
theorem kd_X1_spreadRow : yX1_spreadRow.cls ≠ "java/lang/invoke/MethodHandle" ∧ yX1_spreadRow.cls ≠ "java/lang/invoke/VarHandle" ∧ (parseMethodDescriptor yX1_spreadRow.desc).map (fun d => d.parameters.length) = some 1 := by decide +kernel
set_option maxHeartbeats 4000000 in
set_option maxRecDepth 100000 in
theorem c_X1_spreadRow (l : Launch) {dC : Nat → ClassId} {dI : Nat → Nat → Nat} {ad : Nat → Nat} {cI cJ : ClassId} {ln : Int32} {fg : Int32} {dg : Int32} {sc : Int32} {ms : Int32} {mi : Int32} {mv : Int32} {mw : Int32} {st : (Nat → Int64)} {fr : (Nat → Int64)} {sr : (Nat → Int64)} {pa : (Nat → Int64)} {nu : (Nat → Int32)} {a0 : Int32} : Met l yX1_spreadRow wsX1_spreadRow ({ frames := 0, cells := 0, slots := 0, locals := 0 }) (va_Pc ([.ref (ad 1), .int a0] : List Value) (gB (dC, dI) (tyw cI cJ) (xw ad cI cJ ln fg dg sc ms mi mv mw st fr sr pa nu))) (qL (f_sRow fg a0 ln.toNatClampNeg)) 0 0 (fun _ => False) := by
  refine Met.ofW (cc := cX1_spreadRow) (maxL := 5) (ret := (some .long)) (by decide) rfl ?_
  intro p e s m args below meth c s₁ B hml hv
  obtain ⟨rfl, hnw, hK, hP⟩ := hv
  have hx := B.exec
  have hb := B.bytes
  have hr := B.returns
  have hts := atoms_spec (ws := wsX1_spreadRow) B.pre
  have hown : s.vm.findClass RX1 = some m.cls := findClass_of_methodNamed B.named
  have hlocks := B.notSynchronized
  have hw0 := hts (.fieldLink RX1 9 "BitStreams$Rows" "length" "I") (by decide +kernel)
  have hw1 := hts (.fieldLink RX1 21 "BitStreams$Rows" "figures" "I") (by decide +kernel)
  have inX1 : ∀ w ∈ wsX10, w ∈ wsX1_spreadRow := by decide +kernel
  have hl := lv_entry ([.ref (ad 1), .int a0] : List Value) (n := 5) (Nat.le_of_ble_eq_true rfl)
  rw [lg_entry_eq]
  generalize (lg_sl ([.ref (ad 1), .int a0] : List Value) ++ List.replicate (5 - (lg_sl ([.ref (ad 1), .int a0] : List Value)).length) Slot.unset).toArray = ls at hl ⊢
  have hl : lv_has ls 5 [(0, .ref (ad 1)), (1, .int a0)] := hl
  refine lv_lconst (v := 0) hx hb dX1_spreadRow_0 (by decide) ?_
  refine lv_lstore_n (lv' := [(2, .long _), (0, .ref (ad 1)), (1, .int a0)]) hx hb dX1_spreadRow_1 rfl hl (by decide) rfl (fun ls hl => ?_)
  refine lv_iconst (v := 0) hx hb dX1_spreadRow_2 (by decide) ?_
  refine lv_istore (lv' := [(4, .int _), (2, .long _), (0, .ref (ad 1)), (1, .int a0)]) hx hb dX1_spreadRow_3 hl (by decide) rfl (fun ls hl => ?_)
  have L5 : ∀ (n5 : Nat) (k : Nat) (row : Int64), ln.toNatClampNeg + 1 ≤ k + n5 → (k ≤ ln.toNatClampNeg) → (row = f_sRow fg a0 k) → ∀ (ls : Array Slot), lv_has ls 5 [(0, .ref (ad 1)), (1, .int a0), (2, .long row), (4, .int (nI k))] → W p l e { frames := 0, cells := 0, slots := 0, locals := 0 } s m ([.ref (ad 1), .int a0] : List Value).toArray below meth c s.heap [] 0 0 (MQ below (qL (f_sRow fg a0 ln.toNatClampNeg)) ([.ref (ad 1), .int a0] : List Value).toArray s 0 0 (fun _ => False)) (F0 m 5 ls []) := by
    intro n5
    induction n5 with
    | zero =>
      intro k row hf5 hk hrow
      exact absurd hf5 (by omega)
    | succ n5 ih5 =>
      intro k row hf5 hk hrow ls hl
      refine lv_iload hx hb dX1_spreadRow_5 (lv_at hl 3 rfl) ?_
      refine lv_aload_n hx hb dX1_spreadRow_7 rfl (lv_at hl 0 rfl) ?_
      refine va_get (D := (dC, dI)) (ci := 1) (C := RX1) (T := TX1) (N := 2) hx hb hts inX1 hown hK hP 1 rfl rfl 0 (by decide) hw0 (fun _ h9 => h9) rfl dX1_spreadRow_8 ?_
      refine lv_icmp_ge (tgt := 50) hx hb dX1_spreadRow_11 (by decide) (fun c_11 => ?_) (fun c_11 => ?_)
      · skip
        refine lv_lload_n hx hb dX1_spreadRow_50 rfl (lv_at hl 2 rfl) ?_
        exact W.lret hx hb hr (fun t ht _ => rl (by rw [cl_end hk c_11]; exact hrow) ht) no_locs dX1_spreadRow_51
      · skip
        refine lv_iload_n hx hb dX1_spreadRow_14 rfl (lv_at hl 1 rfl) ?_
        refine lv_iload hx hb dX1_spreadRow_15 (lv_at hl 3 rfl) ?_
        refine lv_iconst (v := 1) hx hb dX1_spreadRow_17 (by decide) ?_
        refine lv_iadd hx hb dX1_spreadRow_18 ?_
        refine lv_imul hx hb dX1_spreadRow_19 ?_
        refine lv_aload_n hx hb dX1_spreadRow_20 rfl (lv_at hl 0 rfl) ?_
        refine va_get (D := (dC, dI)) (ci := 1) (C := RX1) (T := TX1) (N := 2) hx hb hts inX1 hown hK hP 1 rfl rfl 1 (by decide) hw1 (fun _ h9 => h9) rfl dX1_spreadRow_21 ?_
        refine lv_ishr hx hb dX1_spreadRow_24 ?_
        refine lv_iload_n hx hb dX1_spreadRow_25 rfl (lv_at hl 1 rfl) ?_
        refine lv_iload hx hb dX1_spreadRow_26 (lv_at hl 3 rfl) ?_
        refine lv_imul hx hb dX1_spreadRow_28 ?_
        refine lv_aload_n hx hb dX1_spreadRow_29 rfl (lv_at hl 0 rfl) ?_
        refine va_get (D := (dC, dI)) (ci := 1) (C := RX1) (T := TX1) (N := 2) hx hb hts inX1 hown hK hP 1 rfl rfl 1 (by decide) hw1 (fun _ h9 => h9) rfl dX1_spreadRow_30 ?_
        refine lv_ishr hx hb dX1_spreadRow_33 ?_
        refine lv_icmp_le (tgt := 44) hx hb dX1_spreadRow_34 (by decide) (fun c_34 => ?_) (fun c_34 => ?_)
        · skip
          refine lv_iinc (lv' := [(4, .int (nI (k + 1))), (0, .ref (ad 1)), (1, .int a0), (2, .long row)]) hx hb dX1_spreadRow_44 hl (k := 3) rfl (nI_1 _) (by decide) rfl (fun ls hl => ?_)
          refine lv_goto (tgt := 5) hx hb dX1_spreadRow_47 (by decide) ?_
          exact ih5 (k + 1) _ (by have := cl_go hk c_11; omega) (cl_go hk c_11) (by rw [f_sRow]; first | (rw [if_pos c_34]; exact hrow) | (rw [if_neg c_34, hrow]; rfl)) ls (lv_sub hl [1, 2, 3, 0] rfl)
        · skip
          refine lv_lload_n hx hb dX1_spreadRow_37 rfl (lv_at hl 2 rfl) ?_
          refine lv_lconst (v := 1) hx hb dX1_spreadRow_38 (by decide) ?_
          refine lv_iload hx hb dX1_spreadRow_39 (lv_at hl 3 rfl) ?_
          refine lv_lshl hx hb dX1_spreadRow_41 rfl ?_
          refine lv_lor hx hb dX1_spreadRow_42 ?_
          refine lv_lstore_n (lv' := [(2, .long _), (0, .ref (ad 1)), (1, .int a0), (4, .int (nI k))]) hx hb dX1_spreadRow_43 rfl hl (by decide) rfl (fun ls hl => ?_)
          refine lv_iinc (lv' := [(4, .int (nI (k + 1))), (2, .long _), (0, .ref (ad 1)), (1, .int a0)]) hx hb dX1_spreadRow_44 hl (k := 3) rfl (nI_1 _) (by decide) rfl (fun ls hl => ?_)
          refine lv_goto (tgt := 5) hx hb dX1_spreadRow_47 (by decide) ?_
          exact ih5 (k + 1) _ (by have := cl_go hk c_11; omega) (cl_go hk c_11) (by rw [f_sRow]; first | (rw [if_pos c_34]; exact hrow) | (rw [if_neg c_34, hrow]; rfl)) ls (lv_sub hl [2, 3, 1, 0] rfl)
  exact L5 (ln.toNatClampNeg + 1) 0 _ (by omega) (Nat.zero_le _) rfl ls (lv_sub hl [2, 3, 1, 0] rfl)
theorem kd_X1_tapsOfLength : yX1_tapsOfLength.cls ≠ "java/lang/invoke/MethodHandle" ∧ yX1_tapsOfLength.cls ≠ "java/lang/invoke/VarHandle" ∧ (parseMethodDescriptor yX1_tapsOfLength.desc).map (fun d => d.parameters.length) = some 0 := by decide +kernel
set_option maxHeartbeats 4000000 in
set_option maxRecDepth 100000 in
theorem c_X1_tapsOfLength (l : Launch) {dC : Nat → ClassId} {dI : Nat → Nat → Nat} {ad : Nat → Nat} {cI cJ : ClassId} {ln : Int32} {fg : Int32} {dg : Int32} {sc : Int32} {ms : Int32} {mi : Int32} {mv : Int32} {mw : Int32} {st : (Nat → Int64)} {fr : (Nat → Int64)} {sr : (Nat → Int64)} {pa : (Nat → Int64)} {nu : (Nat → Int32)}  : Met l yX1_tapsOfLength wsX1_tapsOfLength ({ frames := 0, cells := 0, slots := 0, locals := 0 }) (va_Pc ([.ref (ad 1)] : List Value) (gB (dC, dI) (tyw cI cJ) (xw ad cI cJ ln fg dg sc ms mi mv mw st fr sr pa nu))) (QcRead (f_taps ln)) 0 0 (fun _ => False) := by
  refine Met.ofW (cc := cX1_tapsOfLength) (maxL := 1) (ret := (some .int)) (by decide) rfl ?_
  intro p e s m args below meth c s₁ B hml hv
  obtain ⟨rfl, hnw, hK, hP⟩ := hv
  have hx := B.exec
  have hb := B.bytes
  have hr := B.returns
  have hts := atoms_spec (ws := wsX1_tapsOfLength) B.pre
  have hown : s.vm.findClass RX1 = some m.cls := findClass_of_methodNamed B.named
  have hlocks := B.notSynchronized
  have hw0 := hts (.fieldLink RX1 9 "BitStreams$Rows" "length" "I") (by decide +kernel)
  have inX1 : ∀ w ∈ wsX10, w ∈ wsX1_tapsOfLength := by decide +kernel
  have hl := lv_entry ([.ref (ad 1)] : List Value) (n := 1) (Nat.le_of_ble_eq_true rfl)
  rw [lg_entry_eq]
  generalize (lg_sl ([.ref (ad 1)] : List Value) ++ List.replicate (1 - (lg_sl ([.ref (ad 1)] : List Value)).length) Slot.unset).toArray = ls at hl ⊢
  have hl : lv_has ls 1 [(0, .ref (ad 1))] := hl
  refine lv_aload_n hx hb dX1_tapsOfLength_0 rfl (lv_at hl 0 rfl) ?_
  refine va_get (D := (dC, dI)) (ci := 1) (C := RX1) (T := TX1) (N := 2) hx hb hts inX1 hown hK hP 1 rfl rfl 0 (by decide) hw0 (fun _ h9 => h9) rfl dX1_tapsOfLength_1 ?_
  refine lv_topi (fun z_4 e_4 => ?_)
  by_cases n_4_8 : z_4 = 8
  · subst n_4_8
    refine lv_lookup (off := 36) (tgt := 40) hx hb dX1_tapsOfLength_4 (by decide) (by decide) (by decide) ?_
    refine lv_bipush (v := 6) hx hb dX1_tapsOfLength_40 (by decide) ?_
    exact W.iret hx hb hr (fun t ht _ => ri (by rw [← e_4]; first | rfl | (unfold f_taps; rw [if_neg n_4_8, if_neg n_4_16, if_neg n_4_32])) ht) no_locs dX1_tapsOfLength_42
  by_cases n_4_16 : z_4 = 16
  · subst n_4_16
    refine lv_lookup (off := 39) (tgt := 43) hx hb dX1_tapsOfLength_4 (by decide) (by decide) (by decide) ?_
    refine lv_bipush (v := 12) hx hb dX1_tapsOfLength_43 (by decide) ?_
    exact W.iret hx hb hr (fun t ht _ => ri (by rw [← e_4]; first | rfl | (unfold f_taps; rw [if_neg n_4_8, if_neg n_4_16, if_neg n_4_32])) ht) no_locs dX1_tapsOfLength_45
  by_cases n_4_32 : z_4 = 32
  · subst n_4_32
    refine lv_lookup (off := 42) (tgt := 46) hx hb dX1_tapsOfLength_4 (by decide) (by decide) (by decide) ?_
    refine lv_bipush (v := 20) hx hb dX1_tapsOfLength_46 (by decide) ?_
    exact W.iret hx hb hr (fun t ht _ => ri (by rw [← e_4]; first | rfl | (unfold f_taps; rw [if_neg n_4_8, if_neg n_4_16, if_neg n_4_32])) ht) no_locs dX1_tapsOfLength_48
  refine lv_lookup (off := 45) (tgt := 49) hx hb dX1_tapsOfLength_4 (by decide) (by rw [lv_osw n_4_8 (by decide)]; rw [lv_osw n_4_16 (by decide)]; rw [lv_osw n_4_32 (by decide)]; rfl) (by decide) ?_
  refine lv_bipush (v := 48) hx hb dX1_tapsOfLength_49 (by decide) ?_
  exact W.iret hx hb hr (fun t ht _ => ri (by rw [← e_4]; first | rfl | (unfold f_taps; rw [if_neg n_4_8, if_neg n_4_16, if_neg n_4_32])) ht) no_locs dX1_tapsOfLength_51
theorem kd_X1_registerRow : yX1_registerRow.cls ≠ "java/lang/invoke/MethodHandle" ∧ yX1_registerRow.cls ≠ "java/lang/invoke/VarHandle" ∧ (parseMethodDescriptor yX1_registerRow.desc).map (fun d => d.parameters.length) = some 1 := by decide +kernel
set_option maxHeartbeats 4000000 in
set_option maxRecDepth 100000 in
theorem c_X1_registerRow (l : Launch) {dC : Nat → ClassId} {dI : Nat → Nat → Nat} {ad : Nat → Nat} {cI cJ : ClassId} {ln : Int32} {fg : Int32} {dg : Int32} {sc : Int32} {ms : Int32} {mi : Int32} {mv : Int32} {mw : Int32} {st : (Nat → Int64)} {fr : (Nat → Int64)} {sr : (Nat → Int64)} {pa : (Nat → Int64)} {nu : (Nat → Int32)} {a0 : Int32} : Met l yX1_registerRow wsX1_registerRow ({ frames := 1, cells := 0, slots := 0, locals := 20 }) (va_Pc ([.ref (ad 1), .int a0] : List Value) (gB (dC, dI) (tyw cI cJ) (xw ad cI cJ ln fg dg sc ms mi mv mw st fr sr pa nu))) (qL (f_register ln a0)) 0 0 (fun _ => False) := by
  refine Met.ofW (cc := cX1_registerRow) (maxL := 7) (ret := (some .long)) (by decide) rfl ?_
  intro p e s m args below meth c s₁ B hml hv
  obtain ⟨rfl, hnw, hK, hP⟩ := hv
  have hx := B.exec
  have hb := B.bytes
  have hr := B.returns
  have hts := atoms_spec (ws := wsX1_registerRow) B.pre
  have hown : s.vm.findClass RX1 = some m.cls := findClass_of_methodNamed B.named
  have hlocks := B.notSynchronized
  have hw0 := hts (.fieldLink RX1 9 "BitStreams$Rows" "length" "I") (by decide +kernel)
  have inX1 : ∀ w ∈ wsX10, w ∈ wsX1_registerRow := by decide +kernel
  have hl := lv_entry ([.ref (ad 1), .int a0] : List Value) (n := 7) (Nat.le_of_ble_eq_true rfl)
  rw [lg_entry_eq]
  generalize (lg_sl ([.ref (ad 1), .int a0] : List Value) ++ List.replicate (7 - (lg_sl ([.ref (ad 1), .int a0] : List Value)).length) Slot.unset).toArray = ls at hl ⊢
  have hl : lv_has ls 7 [(0, .ref (ad 1)), (1, .int a0)] := hl
  refine lv_aload_n hx hb dX1_registerRow_0 rfl (lv_at hl 0 rfl) ?_
  refine ro_i (va_runV ⟨hx, hb, hml, hown, hts⟩ (c_X1_tapsOfLength l ) (cwV 0 hts gX1_registerRow_X1_tapsOfLength rfl rfl rfl ⟨rfl, kd_X1_tapsOfLength⟩ ⟨Nat.le_of_ble_eq_true rfl, Nat.le_of_ble_eq_true rfl⟩) (preV1 hnw hK hP 1 1 rfl rfl) rfl rfl hl.1 rfl (lv_room (Nat.le_of_ble_eq_true rfl)) dX1_registerRow_1 ⟨Nat.zero_le _, Nat.zero_le _⟩) ?_
  refine lv_istore_n (lv' := [(2, .int _), (0, .ref (ad 1)), (1, .int a0)]) hx hb dX1_registerRow_4 rfl hl (by decide) rfl (fun ls hl => ?_)
  refine lv_iconst (v := 1) hx hb dX1_registerRow_5 (by decide) ?_
  refine lv_istore_n (lv' := [(3, .int _), (2, .int _), (0, .ref (ad 1)), (1, .int a0)]) hx hb dX1_registerRow_6 rfl hl (by decide) rfl (fun ls hl => ?_)
  refine lv_lconst (v := 0) hx hb dX1_registerRow_7 (by decide) ?_
  refine lv_lstore (lv' := [(4, .long _), (3, .int _), (2, .int _), (0, .ref (ad 1)), (1, .int a0)]) hx hb dX1_registerRow_8 hl (by decide) rfl (fun ls hl => ?_)
  refine lv_iconst (v := 0) hx hb dX1_registerRow_10 (by decide) ?_
  refine lv_istore (lv' := [(6, .int _), (4, .long _), (3, .int _), (2, .int _), (0, .ref (ad 1)), (1, .int a0)]) hx hb dX1_registerRow_11 hl (by decide) rfl (fun ls hl => ?_)
  have L13 : ∀ (n13 : Nat) (k : Nat) (row : Int64) (r : Int32), (ln - 1).toNatClampNeg + 1 ≤ k + n13 → (k ≤ (ln - 1).toNatClampNeg) → (row = f_rRow (f_taps ln) a0 k) → (r = f_reg (f_taps ln) k) → ∀ (ls : Array Slot), lv_has ls 7 [(0, .ref (ad 1)), (1, .int a0), (2, .int (f_taps ln)), (3, .int r), (4, .long row), (6, .int (nI k))] → W p l e { frames := 1, cells := 0, slots := 0, locals := 20 } s m ([.ref (ad 1), .int a0] : List Value).toArray below meth c s.heap [] 0 0 (MQ below (qL (f_register ln a0)) ([.ref (ad 1), .int a0] : List Value).toArray s 0 0 (fun _ => False)) (F0 m 13 ls []) := by
    intro n13
    induction n13 with
    | zero =>
      intro k row r hf13 hk hrow hrr
      exact absurd hf13 (by omega)
    | succ n13 ih13 =>
      intro k row r hf13 hk hrow hrr ls hl
      refine lv_iload hx hb dX1_registerRow_13 (lv_at hl 5 rfl) ?_
      refine lv_aload_n hx hb dX1_registerRow_15 rfl (lv_at hl 0 rfl) ?_
      refine va_get (D := (dC, dI)) (ci := 1) (C := RX1) (T := TX1) (N := 2) hx hb hts inX1 hown hK hP 1 rfl rfl 0 (by decide) hw0 (fun _ h9 => h9) rfl dX1_registerRow_16 ?_
      refine lv_iconst (v := 1) hx hb dX1_registerRow_19 (by decide) ?_
      refine lv_isub hx hb dX1_registerRow_20 ?_
      refine lv_icmp_ge (tgt := 63) hx hb dX1_registerRow_21 (by decide) (fun c_21 => ?_) (fun c_21 => ?_)
      · skip
        refine lv_aload_n hx hb dX1_registerRow_63 rfl (lv_at hl 0 rfl) ?_
        refine va_get (D := (dC, dI)) (ci := 1) (C := RX1) (T := TX1) (N := 2) hx hb hts inX1 hown hK hP 1 rfl rfl 0 (by decide) hw0 (fun _ h9 => h9) rfl dX1_registerRow_64 ?_
        refine lv_iload_n hx hb dX1_registerRow_67 rfl (lv_at hl 1 rfl) ?_
        refine lv_icmp_gt (tgt := 85) hx hb dX1_registerRow_68 (by decide) (fun c_68 => ?_) (fun c_68 => ?_)
        · skip
          refine lv_lload hx hb dX1_registerRow_85 (lv_at hl 4 rfl) ?_
          exact W.lret hx hb hr (fun t ht _ => rl (by unfold f_register; rw [cl_end hk c_21, ← hrow]; first | (rw [if_pos c_68]) | (rw [if_neg c_68]; rfl)) ht) no_locs dX1_registerRow_87
        · skip
          refine lv_lload hx hb dX1_registerRow_71 (lv_at hl 4 rfl) ?_
          refine lv_lconst (v := 1) hx hb dX1_registerRow_73 (by decide) ?_
          refine lv_aload_n hx hb dX1_registerRow_74 rfl (lv_at hl 0 rfl) ?_
          refine va_get (D := (dC, dI)) (ci := 1) (C := RX1) (T := TX1) (N := 2) hx hb hts inX1 hown hK hP 1 rfl rfl 0 (by decide) hw0 (fun _ h9 => h9) rfl dX1_registerRow_75 ?_
          refine lv_iconst (v := 1) hx hb dX1_registerRow_78 (by decide) ?_
          refine lv_isub hx hb dX1_registerRow_79 ?_
          refine lv_lshl hx hb dX1_registerRow_80 rfl ?_
          refine lv_lor hx hb dX1_registerRow_81 ?_
          refine lv_goto (tgt := 87) hx hb dX1_registerRow_82 (by decide) ?_
          exact W.lret hx hb hr (fun t ht _ => rl (by unfold f_register; rw [cl_end hk c_21, ← hrow]; first | (rw [if_pos c_68]) | (rw [if_neg c_68]; rfl)) ht) no_locs dX1_registerRow_87
      · skip
        refine lv_iload_n hx hb dX1_registerRow_24 rfl (lv_at hl 3 rfl) ?_
        refine lv_iload_n hx hb dX1_registerRow_25 rfl (lv_at hl 1 rfl) ?_
        refine lv_icmp_gt (tgt := 38) hx hb dX1_registerRow_26 (by decide) (fun c_26 => ?_) (fun c_26 => ?_)
        · skip
          refine lv_iload_n hx hb dX1_registerRow_38 rfl (lv_at hl 3 rfl) ?_
          refine lv_iconst (v := 1) hx hb dX1_registerRow_39 (by decide) ?_
          refine lv_iand hx hb dX1_registerRow_40 ?_
          refine lv_iconst (v := 1) hx hb dX1_registerRow_41 (by decide) ?_
          refine lv_icmp_ne (tgt := 53) hx hb dX1_registerRow_42 (by decide) (fun c_42 => ?_) (fun c_42 => ?_)
          · skip
            refine lv_iload_n hx hb dX1_registerRow_53 rfl (lv_at hl 3 rfl) ?_
            refine lv_iconst (v := 1) hx hb dX1_registerRow_54 (by decide) ?_
            refine lv_ishr hx hb dX1_registerRow_55 ?_
            refine lv_istore_n (lv' := [(3, .int _), (0, .ref (ad 1)), (1, .int a0), (2, .int (f_taps ln)), (4, .long row), (6, .int (nI k))]) hx hb dX1_registerRow_56 rfl hl (by decide) rfl (fun ls hl => ?_)
            refine lv_iinc (lv' := [(6, .int (nI (k + 1))), (3, .int _), (0, .ref (ad 1)), (1, .int a0), (2, .int (f_taps ln)), (4, .long row)]) hx hb dX1_registerRow_57 hl (k := 5) rfl (nI_1 _) (by decide) rfl (fun ls hl => ?_)
            refine lv_goto (tgt := 13) hx hb dX1_registerRow_60 (by decide) ?_
            exact ih13 (k + 1) _ _ (by have := cl_go hk c_21; omega) (cl_go hk c_21) (by rw [f_rRow, ← hrr]; first | (rw [if_pos c_26]; exact hrow) | (rw [if_neg c_26, hrow]; rfl)) (by rw [f_reg, ← hrr]; unfold f_regn; first | rw [if_pos c_42] | rw [if_neg c_42]) ls (lv_sub hl [2, 3, 4, 1, 5, 0] rfl)
          · skip
            refine lv_iload_n hx hb dX1_registerRow_45 rfl (lv_at hl 3 rfl) ?_
            refine lv_iconst (v := 1) hx hb dX1_registerRow_46 (by decide) ?_
            refine lv_ishr hx hb dX1_registerRow_47 ?_
            refine lv_iload_n hx hb dX1_registerRow_48 rfl (lv_at hl 2 rfl) ?_
            refine lv_ixor hx hb dX1_registerRow_49 ?_
            refine lv_goto (tgt := 56) hx hb dX1_registerRow_50 (by decide) ?_
            refine lv_istore_n (lv' := [(3, .int _), (0, .ref (ad 1)), (1, .int a0), (2, .int (f_taps ln)), (4, .long row), (6, .int (nI k))]) hx hb dX1_registerRow_56 rfl hl (by decide) rfl (fun ls hl => ?_)
            refine lv_iinc (lv' := [(6, .int (nI (k + 1))), (3, .int _), (0, .ref (ad 1)), (1, .int a0), (2, .int (f_taps ln)), (4, .long row)]) hx hb dX1_registerRow_57 hl (k := 5) rfl (nI_1 _) (by decide) rfl (fun ls hl => ?_)
            refine lv_goto (tgt := 13) hx hb dX1_registerRow_60 (by decide) ?_
            exact ih13 (k + 1) _ _ (by have := cl_go hk c_21; omega) (cl_go hk c_21) (by rw [f_rRow, ← hrr]; first | (rw [if_pos c_26]; exact hrow) | (rw [if_neg c_26, hrow]; rfl)) (by rw [f_reg, ← hrr]; unfold f_regn; first | rw [if_pos c_42] | rw [if_neg c_42]) ls (lv_sub hl [2, 3, 4, 1, 5, 0] rfl)
        · skip
          refine lv_lload hx hb dX1_registerRow_29 (lv_at hl 4 rfl) ?_
          refine lv_lconst (v := 1) hx hb dX1_registerRow_31 (by decide) ?_
          refine lv_iload hx hb dX1_registerRow_32 (lv_at hl 5 rfl) ?_
          refine lv_lshl hx hb dX1_registerRow_34 rfl ?_
          refine lv_lor hx hb dX1_registerRow_35 ?_
          refine lv_lstore (lv' := [(4, .long _), (0, .ref (ad 1)), (1, .int a0), (2, .int (f_taps ln)), (3, .int r), (6, .int (nI k))]) hx hb dX1_registerRow_36 hl (by decide) rfl (fun ls hl => ?_)
          refine lv_iload_n hx hb dX1_registerRow_38 rfl (lv_at hl 4 rfl) ?_
          refine lv_iconst (v := 1) hx hb dX1_registerRow_39 (by decide) ?_
          refine lv_iand hx hb dX1_registerRow_40 ?_
          refine lv_iconst (v := 1) hx hb dX1_registerRow_41 (by decide) ?_
          refine lv_icmp_ne (tgt := 53) hx hb dX1_registerRow_42 (by decide) (fun c_42 => ?_) (fun c_42 => ?_)
          · skip
            refine lv_iload_n hx hb dX1_registerRow_53 rfl (lv_at hl 4 rfl) ?_
            refine lv_iconst (v := 1) hx hb dX1_registerRow_54 (by decide) ?_
            refine lv_ishr hx hb dX1_registerRow_55 ?_
            refine lv_istore_n (lv' := [(3, .int _), (4, .long _), (0, .ref (ad 1)), (1, .int a0), (2, .int (f_taps ln)), (6, .int (nI k))]) hx hb dX1_registerRow_56 rfl hl (by decide) rfl (fun ls hl => ?_)
            refine lv_iinc (lv' := [(6, .int (nI (k + 1))), (3, .int _), (4, .long _), (0, .ref (ad 1)), (1, .int a0), (2, .int (f_taps ln))]) hx hb dX1_registerRow_57 hl (k := 5) rfl (nI_1 _) (by decide) rfl (fun ls hl => ?_)
            refine lv_goto (tgt := 13) hx hb dX1_registerRow_60 (by decide) ?_
            exact ih13 (k + 1) _ _ (by have := cl_go hk c_21; omega) (cl_go hk c_21) (by rw [f_rRow, ← hrr]; first | (rw [if_pos c_26]; exact hrow) | (rw [if_neg c_26, hrow]; rfl)) (by rw [f_reg, ← hrr]; unfold f_regn; first | rw [if_pos c_42] | rw [if_neg c_42]) ls (lv_sub hl [3, 4, 5, 1, 2, 0] rfl)
          · skip
            refine lv_iload_n hx hb dX1_registerRow_45 rfl (lv_at hl 4 rfl) ?_
            refine lv_iconst (v := 1) hx hb dX1_registerRow_46 (by decide) ?_
            refine lv_ishr hx hb dX1_registerRow_47 ?_
            refine lv_iload_n hx hb dX1_registerRow_48 rfl (lv_at hl 3 rfl) ?_
            refine lv_ixor hx hb dX1_registerRow_49 ?_
            refine lv_goto (tgt := 56) hx hb dX1_registerRow_50 (by decide) ?_
            refine lv_istore_n (lv' := [(3, .int _), (4, .long _), (0, .ref (ad 1)), (1, .int a0), (2, .int (f_taps ln)), (6, .int (nI k))]) hx hb dX1_registerRow_56 rfl hl (by decide) rfl (fun ls hl => ?_)
            refine lv_iinc (lv' := [(6, .int (nI (k + 1))), (3, .int _), (4, .long _), (0, .ref (ad 1)), (1, .int a0), (2, .int (f_taps ln))]) hx hb dX1_registerRow_57 hl (k := 5) rfl (nI_1 _) (by decide) rfl (fun ls hl => ?_)
            refine lv_goto (tgt := 13) hx hb dX1_registerRow_60 (by decide) ?_
            exact ih13 (k + 1) _ _ (by have := cl_go hk c_21; omega) (cl_go hk c_21) (by rw [f_rRow, ← hrr]; first | (rw [if_pos c_26]; exact hrow) | (rw [if_neg c_26, hrow]; rfl)) (by rw [f_reg, ← hrr]; unfold f_regn; first | rw [if_pos c_42] | rw [if_neg c_42]) ls (lv_sub hl [3, 4, 5, 1, 2, 0] rfl)
  exact L13 ((ln - 1).toNatClampNeg + 1) 0 _ _ (by omega) (Nat.zero_le _) rfl rfl ls (lv_sub hl [4, 5, 3, 2, 1, 0] rfl)
theorem kd_X1_ofSource : yX1_ofSource.cls ≠ "java/lang/invoke/MethodHandle" ∧ yX1_ofSource.cls ≠ "java/lang/invoke/VarHandle" ∧ (parseMethodDescriptor yX1_ofSource.desc).map (fun d => d.parameters.length) = some 2 := by decide +kernel
set_option maxHeartbeats 4000000 in
set_option maxRecDepth 100000 in
theorem c_X1_ofSource (l : Launch) {dC : Nat → ClassId} {dI : Nat → Nat → Nat} {ad : Nat → Nat} {cI cJ : ClassId} {ln : Int32} {fg : Int32} {dg : Int32} {sc : Int32} {ms : Int32} {mi : Int32} {mv : Int32} {mw : Int32} {st : (Nat → Int64)} {fr : (Nat → Int64)} {sr : (Nat → Int64)} {pa : (Nat → Int64)} {nu : (Nat → Int32)} {a0 a1 : Int32} : Met l yX1_ofSource wsX1_ofSource ({ frames := 2, cells := 0, slots := 0, locals := 47 }) (va_Pc ([.ref (ad 1), .int a0, .int a1] : List Value) (gB (dC, dI) (tyw cI cJ) (xw ad cI cJ ln fg dg sc ms mi mv mw st fr sr pa nu))) (qL (f_src ln fg a0 a1)) 0 0 (fun _ => False) := by
  refine Met.ofW (cc := cX1_ofSource) (maxL := 3) (ret := (some .long)) (by decide) rfl ?_
  intro p e s m args below meth c s₁ B hml hv
  obtain ⟨rfl, hnw, hK, hP⟩ := hv
  have hx := B.exec
  have hb := B.bytes
  have hr := B.returns
  have hts := atoms_spec (ws := wsX1_ofSource) B.pre
  have hown : s.vm.findClass RX1 = some m.cls := findClass_of_methodNamed B.named
  have hlocks := B.notSynchronized
  have hw0 := hts (.initialized RX2) (by decide +kernel)
  have hw1 := hts (.static yX2_lowBits) (by decide +kernel)
  have hl := lv_entry ([.ref (ad 1), .int a0, .int a1] : List Value) (n := 3) (Nat.le_of_ble_eq_true rfl)
  rw [lg_entry_eq]
  generalize (lg_sl ([.ref (ad 1), .int a0, .int a1] : List Value) ++ List.replicate (3 - (lg_sl ([.ref (ad 1), .int a0, .int a1] : List Value)).length) Slot.unset).toArray = ls at hl ⊢
  have hl : lv_has ls 3 [(0, .ref (ad 1)), (1, .int a0), (2, .int a1)] := hl
  refine lv_iload_n hx hb dX1_ofSource_0 rfl (lv_at hl 1 rfl) ?_
  refine lv_topi (fun z_1 e_1 => ?_)
  by_cases n_1_0 : z_1 = 0
  · subst n_1_0
    refine lv_tableIn (off := 27) (tgt := 28) hx hb dX1_ofSource_1 (by decide) (by decide) (by decide) (by decide) ?_
    refine lv_iload_n hx hb dX1_ofSource_28 rfl (lv_at hl 2 rfl) ?_
    refine ro_l (va_runSN ⟨hx, hb, hml, hown, hts⟩ (c_X2_lowBits l ) ⟨va_cnB 1 hts gX1_ofSource_X2_lowBits_n27 rfl rfl rfl (hnw.at 8 rfl) hw0 kd_X2_lowBits ⟨Nat.le_of_ble_eq_true rfl, Nat.le_of_ble_eq_true rfl⟩, hw1, trivial⟩ preS0 rfl rfl hl.1 rfl (lv_room (Nat.le_of_ble_eq_true rfl)) dX1_ofSource_29 ⟨Nat.zero_le _, Nat.zero_le _⟩) ?_
    exact W.lret hx hb hr (fun t ht _ => rl (by rw [← e_1]; first | rfl | (unfold f_src; rw [if_neg n_1_0, if_neg n_1_1, if_neg n_1_2])) ht) no_locs dX1_ofSource_32
  by_cases n_1_1 : z_1 = 1
  · subst n_1_1
    refine lv_tableIn (off := 32) (tgt := 33) hx hb dX1_ofSource_1 (by decide) (by decide) (by decide) (by decide) ?_
    refine lv_aload_n hx hb dX1_ofSource_33 rfl (lv_at hl 0 rfl) ?_
    refine lv_iload_n hx hb dX1_ofSource_34 rfl (lv_at hl 2 rfl) ?_
    refine ro_l (va_runV ⟨hx, hb, hml, hown, hts⟩ (c_X1_turnedRow l ) (cwV 1 hts gX1_ofSource_X1_turnedRow rfl rfl rfl ⟨rfl, kd_X1_turnedRow⟩ ⟨Nat.le_of_ble_eq_true rfl, Nat.le_of_ble_eq_true rfl⟩) (preV1 hnw hK hP 1 1 rfl rfl) rfl rfl hl.1 rfl (lv_room (Nat.le_of_ble_eq_true rfl)) dX1_ofSource_35 ⟨Nat.zero_le _, Nat.zero_le _⟩) ?_
    exact W.lret hx hb hr (fun t ht _ => rl (by rw [← e_1]; first | rfl | (unfold f_src; rw [if_neg n_1_0, if_neg n_1_1, if_neg n_1_2])) ht) no_locs dX1_ofSource_38
  by_cases n_1_2 : z_1 = 2
  · subst n_1_2
    refine lv_tableIn (off := 38) (tgt := 39) hx hb dX1_ofSource_1 (by decide) (by decide) (by decide) (by decide) ?_
    refine lv_aload_n hx hb dX1_ofSource_39 rfl (lv_at hl 0 rfl) ?_
    refine lv_iload_n hx hb dX1_ofSource_40 rfl (lv_at hl 2 rfl) ?_
    refine ro_l (va_runV ⟨hx, hb, hml, hown, hts⟩ (c_X1_spreadRow l ) (cwV 1 hts gX1_ofSource_X1_spreadRow rfl rfl rfl ⟨rfl, kd_X1_spreadRow⟩ ⟨Nat.le_of_ble_eq_true rfl, Nat.le_of_ble_eq_true rfl⟩) (preV1 hnw hK hP 1 1 rfl rfl) rfl rfl hl.1 rfl (lv_room (Nat.le_of_ble_eq_true rfl)) dX1_ofSource_41 ⟨Nat.zero_le _, Nat.zero_le _⟩) ?_
    exact W.lret hx hb hr (fun t ht _ => rl (by rw [← e_1]; first | rfl | (unfold f_src; rw [if_neg n_1_0, if_neg n_1_1, if_neg n_1_2])) ht) no_locs dX1_ofSource_44
  have nb_1 : z_1.toInt < 0 ∨ 2 < z_1.toInt := by
    have q0 := lv_neT (a := 0) n_1_0 (by decide)
    have q1 := lv_neT (a := 1) n_1_1 (by decide)
    have q2 := lv_neT (a := 2) n_1_2 (by decide)
    omega
  refine lv_tableOut (tgt := 45) hx hb dX1_ofSource_1 nb_1 (by decide) ?_
  refine lv_aload_n hx hb dX1_ofSource_45 rfl (lv_at hl 0 rfl) ?_
  refine lv_iload_n hx hb dX1_ofSource_46 rfl (lv_at hl 2 rfl) ?_
  refine ro_l (va_runV ⟨hx, hb, hml, hown, hts⟩ (c_X1_registerRow l ) (cwV 1 hts gX1_ofSource_X1_registerRow rfl rfl rfl ⟨rfl, kd_X1_registerRow⟩ ⟨Nat.le_of_ble_eq_true rfl, Nat.le_of_ble_eq_true rfl⟩) (preV1 hnw hK hP 1 1 rfl rfl) rfl rfl hl.1 rfl (lv_room (Nat.le_of_ble_eq_true rfl)) dX1_ofSource_47 ⟨Nat.zero_le _, Nat.zero_le _⟩) ?_
  exact W.lret hx hb hr (fun t ht _ => rl (by rw [← e_1]; first | rfl | (unfold f_src; rw [if_neg n_1_0, if_neg n_1_1, if_neg n_1_2])) ht) no_locs dX1_ofSource_50
theorem kd_X0_waysBut : yX0_waysBut.cls ≠ "java/lang/invoke/MethodHandle" ∧ yX0_waysBut.cls ≠ "java/lang/invoke/VarHandle" ∧ (parseMethodDescriptor yX0_waysBut.desc).map (fun d => d.parameters.length) = some 2 := by decide +kernel
set_option maxHeartbeats 4000000 in
set_option maxRecDepth 100000 in
theorem c_X0_waysBut (l : Launch) {dC : Nat → ClassId} {dI : Nat → Nat → Nat} {ad : Nat → Nat} {cI cJ : ClassId} {ln : Int32} {fg : Int32} {sc : Int32} {ms : Int32} {mi : Int32} {mv : Int32} {mw : Int32} {st : (Nat → Int64)} {fr : (Nat → Int64)} {sr : (Nat → Int64)} {pa : (Nat → Int64)} {nu : (Nat → Int32)} {a0 a1 : Int32} {d : Nat} (hd : d ≤ 4) : Met l yX0_waysBut wsX0_waysBut ({ frames := 1, cells := 0, slots := 0, locals := 24 }) (va_Pc ([.ref (ad 2), .int a0, .int a1] : List Value) (gB (dC, dI) (tyw cI cJ) (xw ad cI cJ ln fg (nI d) sc ms mi mv mw st fr sr pa nu))) (qL (f_wb a0 a1 (d + 1))) 0 0 (fun _ => False) := by
  refine Met.ofW (cc := cX0_waysBut) (maxL := 6) (ret := (some .long)) (by decide) rfl ?_
  intro p e s m args below meth c s₁ B hml hv
  obtain ⟨rfl, hnw, hK, hP⟩ := hv
  have hx := B.exec
  have hb := B.bytes
  have hr := B.returns
  have hts := atoms_spec (ws := wsX0_waysBut) B.pre
  have hown : s.vm.findClass RX0 = some m.cls := findClass_of_methodNamed B.named
  have hlocks := B.notSynchronized
  have hw0 := hts (.fieldLink RX0 15 "BitStreams$Form" "degree" "I") (by decide +kernel)
  have inX0 : ∀ w ∈ wsX00, w ∈ wsX0_waysBut := by decide +kernel
  have hl := lv_entry ([.ref (ad 2), .int a0, .int a1] : List Value) (n := 6) (Nat.le_of_ble_eq_true rfl)
  rw [lg_entry_eq]
  generalize (lg_sl ([.ref (ad 2), .int a0, .int a1] : List Value) ++ List.replicate (6 - (lg_sl ([.ref (ad 2), .int a0, .int a1] : List Value)).length) Slot.unset).toArray = ls at hl ⊢
  have hl : lv_has ls 6 [(0, .ref (ad 2)), (1, .int a0), (2, .int a1)] := hl
  refine lv_lconst (v := 1) hx hb dX0_waysBut_0 (by decide) ?_
  refine lv_lstore_n (lv' := [(3, .long _), (0, .ref (ad 2)), (1, .int a0), (2, .int a1)]) hx hb dX0_waysBut_1 rfl hl (by decide) rfl (fun ls hl => ?_)
  refine lv_iconst (v := 0) hx hb dX0_waysBut_2 (by decide) ?_
  refine lv_istore (lv' := [(5, .int _), (3, .long _), (0, .ref (ad 2)), (1, .int a0), (2, .int a1)]) hx hb dX0_waysBut_3 hl (by decide) rfl (fun ls hl => ?_)
  have L5 : ∀ (n5 : Nat) (k : Nat) (w : Int64), d + 2 ≤ k + n5 → (k ≤ d + 1) → (w = f_wb a0 a1 k) → ∀ (ls : Array Slot), lv_has ls 6 [(0, .ref (ad 2)), (1, .int a0), (2, .int a1), (3, .long w), (5, .int (nI k))] → W p l e { frames := 1, cells := 0, slots := 0, locals := 24 } s m ([.ref (ad 2), .int a0, .int a1] : List Value).toArray below meth c s.heap [] 0 0 (MQ below (qL (f_wb a0 a1 (d + 1))) ([.ref (ad 2), .int a0, .int a1] : List Value).toArray s 0 0 (fun _ => False)) (F0 m 5 ls []) := by
    intro n5
    induction n5 with
    | zero =>
      intro k w hf5 hk hw
      exact absurd hf5 (by omega)
    | succ n5 ih5 =>
      intro k w hf5 hk hw ls hl
      refine lv_iload hx hb dX0_waysBut_5 (lv_at hl 4 rfl) ?_
      refine lv_aload_n hx hb dX0_waysBut_7 rfl (lv_at hl 0 rfl) ?_
      refine va_get (D := (dC, dI)) (ci := 0) (C := RX0) (T := TX0) (N := 3) hx hb hts inX0 hown hK hP 2 rfl rfl 1 (by decide) hw0 (fun _ h9 => h9) rfl dX0_waysBut_8 ?_
      refine lv_icmp_gt (tgt := 35) hx hb dX0_waysBut_11 (by decide) (fun c_11 => ?_) (fun c_11 => ?_)
      · skip
        have hz := nI_nlt_end hk (by omega) c_11
        refine lv_lload_n hx hb dX0_waysBut_35 rfl (lv_at hl 3 rfl) ?_
        exact W.lret hx hb hr (fun t ht _ => rl (by rw [hw, hz]) ht) no_locs dX0_waysBut_36
      · skip
        have hz := nI_nlt_go hk (by omega) c_11
        refine lv_iload hx hb dX0_waysBut_14 (lv_at hl 4 rfl) ?_
        refine lv_iload_n hx hb dX0_waysBut_16 rfl (lv_at hl 2 rfl) ?_
        refine lv_icmp_eq (tgt := 29) hx hb dX0_waysBut_17 (by decide) (fun c_17 => ?_) (fun c_17 => ?_)
        · skip
          refine lv_iinc (lv' := [(5, .int (nI (k + 1))), (0, .ref (ad 2)), (1, .int a0), (2, .int a1), (3, .long w)]) hx hb dX0_waysBut_29 hl (k := 4) rfl (nI_1 _) (by decide) rfl (fun ls hl => ?_)
          refine lv_goto (tgt := 5) hx hb dX0_waysBut_32 (by decide) ?_
          exact ih5 (k + 1) _ (by omega) (by omega) (by rw [f_wb]; first | (rw [if_pos c_17]; exact hw) | (rw [if_neg c_17, hw, nI_cl (by omega)])) ls (lv_sub hl [1, 2, 3, 4, 0] rfl)
        · skip
          refine lv_lload_n hx hb dX0_waysBut_20 rfl (lv_at hl 3 rfl) ?_
          refine lv_iload_n hx hb dX0_waysBut_21 rfl (lv_at hl 1 rfl) ?_
          refine lv_iload hx hb dX0_waysBut_22 (lv_at hl 4 rfl) ?_
          refine ro_l (va_runS ⟨hx, hb, hml, hown, hts⟩ (c_X0_ways l (by rw [nI_cl (by omega)]; omega)) (va_cwS 2 hts gX0_waysBut_X0_ways rfl rfl rfl kd_X0_ways ⟨Nat.le_of_ble_eq_true rfl, Nat.le_of_ble_eq_true rfl⟩) preS0 rfl rfl hl.1 rfl (lv_room (Nat.le_of_ble_eq_true rfl)) dX0_waysBut_24 ⟨Nat.zero_le _, Nat.zero_le _⟩) ?_
          refine lv_lmul hx hb dX0_waysBut_27 ?_
          refine lv_lstore_n (lv' := [(3, .long _), (0, .ref (ad 2)), (1, .int a0), (2, .int a1), (5, .int (nI k))]) hx hb dX0_waysBut_28 rfl hl (by decide) rfl (fun ls hl => ?_)
          refine lv_iinc (lv' := [(5, .int (nI (k + 1))), (3, .long _), (0, .ref (ad 2)), (1, .int a0), (2, .int a1)]) hx hb dX0_waysBut_29 hl (k := 4) rfl (nI_1 _) (by decide) rfl (fun ls hl => ?_)
          refine lv_goto (tgt := 5) hx hb dX0_waysBut_32 (by decide) ?_
          exact ih5 (k + 1) _ (by omega) (by omega) (by rw [f_wb]; first | (rw [if_pos c_17]; exact hw) | (rw [if_neg c_17, hw, nI_cl (by omega)])) ls (lv_sub hl [2, 3, 4, 1, 0] rfl)
  exact L5 (d + 2) 0 _ (by omega) (Nat.zero_le _) rfl ls (lv_sub hl [2, 3, 4, 1, 0] rfl)
theorem kd_X0_partBelow : yX0_partBelow.cls ≠ "java/lang/invoke/MethodHandle" ∧ yX0_partBelow.cls ≠ "java/lang/invoke/VarHandle" ∧ (parseMethodDescriptor yX0_partBelow.desc).map (fun d => d.parameters.length) = some 1 := by decide +kernel
set_option maxHeartbeats 4000000 in
set_option maxRecDepth 100000 in
theorem c_X0_partBelow (l : Launch) {dC : Nat → ClassId} {dI : Nat → Nat → Nat} {ad : Nat → Nat} {cI cJ : ClassId} {ln : Int32} {fg : Int32} {sc : Int32} {ms : Int32} {mi : Int32} {mv : Int32} {mw : Int32} {st : (Nat → Int64)} {fr : (Nat → Int64)} {sr : (Nat → Int64)} {pa : (Nat → Int64)} {nu : (Nat → Int32)} {a0 : Int32} {d : Nat} (hd : d ≤ 4) : Met l yX0_partBelow wsX0_partBelow ({ frames := 2, cells := 0, slots := 0, locals := 49 }) (va_Pc ([.ref (ad 2), .int a0] : List Value) (gB (dC, dI) (tyw cI cJ) (xw ad cI cJ ln fg (nI d) sc ms mi mv mw st fr sr pa nu))) (qL (f_pb d sc a0)) 0 0 (fun _ => False) := by
  refine Met.ofW (cc := cX0_partBelow) (maxL := 2) (ret := (some .long)) (by decide) rfl ?_
  intro p e s m args below meth c s₁ B hml hv
  obtain ⟨rfl, hnw, hK, hP⟩ := hv
  have hx := B.exec
  have hb := B.bytes
  have hr := B.returns
  have hts := atoms_spec (ws := wsX0_partBelow) B.pre
  have hown : s.vm.findClass RX0 = some m.cls := findClass_of_methodNamed B.named
  have hlocks := B.notSynchronized
  have hw0 := hts (.fieldLink RX0 19 "BitStreams$Form" "scale" "I") (by decide +kernel)
  have inX0 : ∀ w ∈ wsX00, w ∈ wsX0_partBelow := by decide +kernel
  have hl := lv_entry ([.ref (ad 2), .int a0] : List Value) (n := 2) (Nat.le_of_ble_eq_true rfl)
  rw [lg_entry_eq]
  generalize (lg_sl ([.ref (ad 2), .int a0] : List Value) ++ List.replicate (2 - (lg_sl ([.ref (ad 2), .int a0] : List Value)).length) Slot.unset).toArray = ls at hl ⊢
  have hl : lv_has ls 2 [(0, .ref (ad 2)), (1, .int a0)] := hl
  refine lv_aload_n hx hb dX0_partBelow_0 rfl (lv_at hl 0 rfl) ?_
  refine va_get (D := (dC, dI)) (ci := 0) (C := RX0) (T := TX0) (N := 3) hx hb hts inX0 hown hK hP 2 rfl rfl 2 (by decide) hw0 (fun _ h9 => h9) rfl dX0_partBelow_1 ?_
  refine lv_i2l hx hb dX0_partBelow_4 rfl ?_
  refine lv_aload_n hx hb dX0_partBelow_5 rfl (lv_at hl 0 rfl) ?_
  refine lv_iload_n hx hb dX0_partBelow_6 rfl (lv_at hl 1 rfl) ?_
  refine lv_iconst (v := (-1)) hx hb dX0_partBelow_7 (by decide) ?_
  refine ro_l (va_runV ⟨hx, hb, hml, hown, hts⟩ (c_X0_waysBut l hd) (cwV 2 hts gX0_partBelow_X0_waysBut rfl rfl rfl ⟨rfl, kd_X0_waysBut⟩ ⟨Nat.le_of_ble_eq_true rfl, Nat.le_of_ble_eq_true rfl⟩) (preV1 hnw hK hP 2 0 rfl rfl) rfl rfl hl.1 rfl (lv_room (Nat.le_of_ble_eq_true rfl)) dX0_partBelow_8 ⟨Nat.zero_le _, Nat.zero_le _⟩) ?_
  refine lv_lmul hx hb dX0_partBelow_11 ?_
  exact W.lret hx hb hr (fun t ht _ => rl rfl ht) no_locs dX0_partBelow_12
theorem kd_X0_partAbove : yX0_partAbove.cls ≠ "java/lang/invoke/MethodHandle" ∧ yX0_partAbove.cls ≠ "java/lang/invoke/VarHandle" ∧ (parseMethodDescriptor yX0_partAbove.desc).map (fun d => d.parameters.length) = some 2 := by decide +kernel
set_option maxHeartbeats 4000000 in
set_option maxRecDepth 100000 in
theorem c_X0_partAbove (l : Launch) {dC : Nat → ClassId} {dI : Nat → Nat → Nat} {ad : Nat → Nat} {cI cJ : ClassId} {ln : Int32} {fg : Int32} {sc : Int32} {ms : Int32} {mi : Int32} {mv : Int32} {mw : Int32} {st : (Nat → Int64)} {fr : (Nat → Int64)} {sr : (Nat → Int64)} {pa : (Nat → Int64)} {nu : (Nat → Int32)} {a0 : Int32} {d j : Nat} (hd : d ≤ 4) (hj : j ≤ 10) : Met l yX0_partAbove wsX0_partAbove ({ frames := 2, cells := 0, slots := 0, locals := 49 }) (va_Pc ([.ref (ad 2), .int a0, .int (nI j)] : List Value) (gB (dC, dI) (tyw cI cJ) (xw ad cI cJ ln fg (nI d) sc ms mi mv mw st fr sr pa nu))) (qL (f_up d nu a0 j)) 0 0 (fun _ => False) := by
  refine Met.ofW (cc := cX0_partAbove) (maxL := 6) (ret := (some .long)) (by decide) rfl ?_
  intro p e s m args below meth c s₁ B hml hv
  obtain ⟨rfl, hnw, hK, hP⟩ := hv
  have hx := B.exec
  have hb := B.bytes
  have hr := B.returns
  have hts := atoms_spec (ws := wsX0_partAbove) B.pre
  have hown : s.vm.findClass RX0 = some m.cls := findClass_of_methodNamed B.named
  have hlocks := B.notSynchronized
  have hw0 := hts (.fieldLink RX0 15 "BitStreams$Form" "degree" "I") (by decide +kernel)
  have hw1 := hts (.fieldLink RX0 9 "BitStreams$Form" "numbers" "[I") (by decide +kernel)
  have inX0 : ∀ w ∈ wsX00, w ∈ wsX0_partAbove := by decide +kernel
  have hl := lv_entry ([.ref (ad 2), .int a0, .int (nI j)] : List Value) (n := 6) (Nat.le_of_ble_eq_true rfl)
  rw [lg_entry_eq]
  generalize (lg_sl ([.ref (ad 2), .int a0, .int (nI j)] : List Value) ++ List.replicate (6 - (lg_sl ([.ref (ad 2), .int a0, .int (nI j)] : List Value)).length) Slot.unset).toArray = ls at hl ⊢
  have hl : lv_has ls 6 [(0, .ref (ad 2)), (1, .int a0), (2, .int (nI j))] := hl
  refine lv_lconst (v := 0) hx hb dX0_partAbove_0 (by decide) ?_
  refine lv_lstore_n (lv' := [(3, .long _), (0, .ref (ad 2)), (1, .int a0), (2, .int (nI j))]) hx hb dX0_partAbove_1 rfl hl (by decide) rfl (fun ls hl => ?_)
  refine lv_iconst (v := 0) hx hb dX0_partAbove_2 (by decide) ?_
  refine lv_istore (lv' := [(5, .int _), (3, .long _), (0, .ref (ad 2)), (1, .int a0), (2, .int (nI j))]) hx hb dX0_partAbove_3 hl (by decide) rfl (fun ls hl => ?_)
  have L5 : ∀ (n5 : Nat) (k : Nat) (w : Int64), min d j + 2 ≤ k + n5 → (k ≤ min d j + 1) → (w = f_pa d nu a0 (nI j) k) → ∀ (ls : Array Slot), lv_has ls 6 [(0, .ref (ad 2)), (1, .int a0), (2, .int (nI j)), (3, .long w), (5, .int (nI k))] → W p l e { frames := 2, cells := 0, slots := 0, locals := 49 } s m ([.ref (ad 2), .int a0, .int (nI j)] : List Value).toArray below meth c s.heap [] 0 0 (MQ below (qL (f_up d nu a0 j)) ([.ref (ad 2), .int a0, .int (nI j)] : List Value).toArray s 0 0 (fun _ => False)) (F0 m 5 ls []) := by
    intro n5
    induction n5 with
    | zero =>
      intro k w hf5 hk hw
      exact absurd hf5 (by omega)
    | succ n5 ih5 =>
      intro k w hf5 hk hw ls hl
      refine lv_iload hx hb dX0_partAbove_5 (lv_at hl 4 rfl) ?_
      refine lv_aload_n hx hb dX0_partAbove_7 rfl (lv_at hl 0 rfl) ?_
      refine va_get (D := (dC, dI)) (ci := 0) (C := RX0) (T := TX0) (N := 3) hx hb hts inX0 hown hK hP 2 rfl rfl 1 (by decide) hw0 (fun _ h9 => h9) rfl dX0_partAbove_8 ?_
      refine lv_icmp_gt (tgt := 52) hx hb dX0_partAbove_11 (by decide) (fun c_11 => ?_) (fun c_11 => ?_)
      · skip
        have hz : min d j + 1 = k := by have := nI_nlt_end (k := k) (n := d) (by omega) (by omega) c_11; omega
        refine lv_lload_n hx hb dX0_partAbove_52 rfl (lv_at hl 3 rfl) ?_
        exact W.lret hx hb hr (fun t ht _ => rl (by unfold f_up; rw [hw, hz]) ht) no_locs dX0_partAbove_53
      · skip
        have hz1 := nI_nlt_go (k := k) (n := d) (by omega) (by omega) c_11
        refine lv_iload hx hb dX0_partAbove_14 (lv_at hl 4 rfl) ?_
        refine lv_iload_n hx hb dX0_partAbove_16 rfl (lv_at hl 2 rfl) ?_
        refine lv_icmp_gt (tgt := 52) hx hb dX0_partAbove_17 (by decide) (fun c_17 => ?_) (fun c_17 => ?_)
        · skip
          have hz : min d j + 1 = k := by have := nI_nlt_end (k := k) (n := j) (by omega) (by omega) c_17; omega
          refine lv_lload_n hx hb dX0_partAbove_52 rfl (lv_at hl 3 rfl) ?_
          exact W.lret hx hb hr (fun t ht _ => rl (by unfold f_up; rw [hw, hz]) ht) no_locs dX0_partAbove_53
        · skip
          have hz2 := nI_nlt_go (k := k) (n := j) (by omega) (by omega) c_17
          refine lv_lload_n hx hb dX0_partAbove_20 rfl (lv_at hl 3 rfl) ?_
          refine lv_iload_n hx hb dX0_partAbove_21 rfl (lv_at hl 2 rfl) ?_
          refine lv_iload hx hb dX0_partAbove_22 (lv_at hl 4 rfl) ?_
          refine ro_l (va_runS ⟨hx, hb, hml, hown, hts⟩ (c_X0_ways l (by rw [nI_cl (by omega)]; omega)) (va_cwS 2 hts gX0_partAbove_X0_ways rfl rfl rfl kd_X0_ways ⟨Nat.le_of_ble_eq_true rfl, Nat.le_of_ble_eq_true rfl⟩) preS0 rfl rfl hl.1 rfl (lv_room (Nat.le_of_ble_eq_true rfl)) dX0_partAbove_24 ⟨Nat.zero_le _, Nat.zero_le _⟩) ?_
          refine lv_aload_n hx hb dX0_partAbove_27 rfl (lv_at hl 0 rfl) ?_
          refine va_get (D := (dC, dI)) (ci := 0) (C := RX0) (T := TX0) (N := 3) hx hb hts inX0 hown hK hP 2 rfl rfl 0 (by decide) hw1 (fun _ h9 => h9) rfl dX0_partAbove_28 ?_
          refine lv_iload hx hb dX0_partAbove_31 (lv_at hl 4 rfl) ?_
          refine va_iald hx hb hK hP 7 0 rfl rfl (vp_in_nI (by omega) (by omega)) dX0_partAbove_33 ?_
          refine st_i (v := nu k) (by rw [nI_cl (by omega)]) ?_
          refine lv_i2l hx hb dX0_partAbove_34 rfl ?_
          refine lv_lmul hx hb dX0_partAbove_35 ?_
          refine lv_aload_n hx hb dX0_partAbove_36 rfl (lv_at hl 0 rfl) ?_
          refine lv_iload_n hx hb dX0_partAbove_37 rfl (lv_at hl 1 rfl) ?_
          refine lv_iload hx hb dX0_partAbove_38 (lv_at hl 4 rfl) ?_
          refine ro_l (va_runV ⟨hx, hb, hml, hown, hts⟩ (c_X0_waysBut l hd) (cwV 2 hts gX0_partAbove_X0_waysBut rfl rfl rfl ⟨rfl, kd_X0_waysBut⟩ ⟨Nat.le_of_ble_eq_true rfl, Nat.le_of_ble_eq_true rfl⟩) (preV1 hnw hK hP 2 0 rfl rfl) rfl rfl hl.1 rfl (lv_room (Nat.le_of_ble_eq_true rfl)) dX0_partAbove_40 ⟨Nat.zero_le _, Nat.zero_le _⟩) ?_
          refine lv_lmul hx hb dX0_partAbove_43 ?_
          refine lv_ladd hx hb dX0_partAbove_44 ?_
          refine lv_lstore_n (lv' := [(3, .long _), (0, .ref (ad 2)), (1, .int a0), (2, .int (nI j)), (5, .int (nI k))]) hx hb dX0_partAbove_45 rfl hl (by decide) rfl (fun ls hl => ?_)
          refine lv_iinc (lv' := [(5, .int (nI (k + 1))), (3, .long _), (0, .ref (ad 2)), (1, .int a0), (2, .int (nI j))]) hx hb dX0_partAbove_46 hl (k := 4) rfl (nI_1 _) (by decide) rfl (fun ls hl => ?_)
          refine lv_goto (tgt := 5) hx hb dX0_partAbove_49 (by decide) ?_
          exact ih5 (k + 1) _ (by omega) (by omega) (by rw [f_pa, hw, nI_cl (by omega)]) ls (lv_sub hl [2, 3, 4, 1, 0] rfl)
  exact L5 (min d j + 2) 0 _ (by omega) (Nat.zero_le _) rfl ls (lv_sub hl [2, 3, 4, 1, 0] rfl)
theorem kd_X0_mayBeMade : yX0_mayBeMade.cls ≠ "java/lang/invoke/MethodHandle" ∧ yX0_mayBeMade.cls ≠ "java/lang/invoke/VarHandle" ∧ (parseMethodDescriptor yX0_mayBeMade.desc).map (fun d => d.parameters.length) = some 1 := by decide +kernel
set_option maxHeartbeats 4000000 in
set_option maxRecDepth 100000 in
theorem c_X0_mayBeMade (l : Launch) {dC : Nat → ClassId} {dI : Nat → Nat → Nat} {ad : Nat → Nat} {cI cJ : ClassId} {ln : Int32} {fg : Int32} {sc : Int32} {ms : Int32} {mi : Int32} {mv : Int32} {mw : Int32} {st : (Nat → Int64)} {fr : (Nat → Int64)} {sr : (Nat → Int64)} {pa : (Nat → Int64)} {nu : (Nat → Int32)} {d mm : Nat} (hd : d ≤ 4) (hm : mm ≤ 10) : Met l yX0_mayBeMade wsX0_mayBeMade ({ frames := 3, cells := 0, slots := 0, locals := 74 }) (va_Pc ([.ref (ad 2), .int (nI mm)] : List Value) (gB (dC, dI) (tyw cI cJ) (xw ad cI cJ ln fg (nI d) sc ms mi mv mw st fr sr pa nu))) (QcRead (bI (∀ j, j < mm + 1 → f_ok d nu sc (nI mm) j))) 0 0 (fun _ => False) := by
  refine Met.ofW (cc := cX0_mayBeMade) (maxL := 7) (ret := (some .boolean)) (by decide) rfl ?_
  intro p e s m args below meth c s₁ B hml hv
  obtain ⟨rfl, hnw, hK, hP⟩ := hv
  have hx := B.exec
  have hb := B.bytes
  have hr := B.returns
  have hts := atoms_spec (ws := wsX0_mayBeMade) B.pre
  have hown : s.vm.findClass RX0 = some m.cls := findClass_of_methodNamed B.named
  have hlocks := B.notSynchronized
  have hl := lv_entry ([.ref (ad 2), .int (nI mm)] : List Value) (n := 7) (Nat.le_of_ble_eq_true rfl)
  rw [lg_entry_eq]
  generalize (lg_sl ([.ref (ad 2), .int (nI mm)] : List Value) ++ List.replicate (7 - (lg_sl ([.ref (ad 2), .int (nI mm)] : List Value)).length) Slot.unset).toArray = ls at hl ⊢
  have hl : lv_has ls 7 [(0, .ref (ad 2)), (1, .int (nI mm))] := hl
  refine lv_aload_n hx hb dX0_mayBeMade_0 rfl (lv_at hl 0 rfl) ?_
  refine lv_iload_n hx hb dX0_mayBeMade_1 rfl (lv_at hl 1 rfl) ?_
  refine ro_l (va_runV ⟨hx, hb, hml, hown, hts⟩ (c_X0_partBelow l hd) (cwV 1 hts gX0_mayBeMade_X0_partBelow rfl rfl rfl ⟨rfl, kd_X0_partBelow⟩ ⟨Nat.le_of_ble_eq_true rfl, Nat.le_of_ble_eq_true rfl⟩) (preV1 hnw hK hP 2 0 rfl rfl) rfl rfl hl.1 rfl (lv_room (Nat.le_of_ble_eq_true rfl)) dX0_mayBeMade_2 ⟨Nat.zero_le _, Nat.zero_le _⟩) ?_
  refine lv_lstore_n (lv' := [(2, .long _), (0, .ref (ad 2)), (1, .int (nI mm))]) hx hb dX0_mayBeMade_5 rfl hl (by decide) rfl (fun ls hl => ?_)
  refine lv_iconst (v := 0) hx hb dX0_mayBeMade_6 (by decide) ?_
  refine lv_istore (lv' := [(4, .int _), (2, .long _), (0, .ref (ad 2)), (1, .int (nI mm))]) hx hb dX0_mayBeMade_7 hl (by decide) rfl (fun ls hl => ?_)
  have L9 : ∀ (n9 : Nat) (k : Nat), mm + 2 ≤ k + n9 → (k ≤ mm + 1) → (∀ j, j < k → f_ok d nu sc (nI mm) j) → ∀ (ls : Array Slot), lv_has ls 7 [(0, .ref (ad 2)), (1, .int (nI mm)), (2, .long (f_pb d sc (nI mm))), (4, .int (nI k))] → W p l e { frames := 3, cells := 0, slots := 0, locals := 74 } s m ([.ref (ad 2), .int (nI mm)] : List Value).toArray below meth c s.heap [] 0 0 (MQ below (QcRead (bI (∀ j, j < mm + 1 → f_ok d nu sc (nI mm) j))) ([.ref (ad 2), .int (nI mm)] : List Value).toArray s 0 0 (fun _ => False)) (F0 m 9 ls []) := by
    intro n9
    induction n9 with
    | zero =>
      intro k hf9 hk hall
      exact absurd hf9 (by omega)
    | succ n9 ih9 =>
      intro k hf9 hk hall ls hl
      refine lv_iload hx hb dX0_mayBeMade_9 (lv_at hl 3 rfl) ?_
      refine lv_iload_n hx hb dX0_mayBeMade_11 rfl (lv_at hl 1 rfl) ?_
      refine lv_icmp_gt (tgt := 46) hx hb dX0_mayBeMade_12 (by decide) (fun c_12 => ?_) (fun c_12 => ?_)
      · skip
        have hz := nI_nlt_end (k := k) (n := mm) hk (by omega) c_12
        refine lv_iconst (v := 1) hx hb dX0_mayBeMade_46 (by decide) ?_
        exact W.zret hx hb hr (by first | rfl | exact bI_nar) (fun t ht _ => ri (by exact (bI_t (by rw [← hz]; exact hall)).symm) ht) no_locs dX0_mayBeMade_47
      · skip
        have hz := nI_nlt_go (k := k) (n := mm) hk (by omega) c_12
        refine lv_aload_n hx hb dX0_mayBeMade_15 rfl (lv_at hl 0 rfl) ?_
        refine lv_iload_n hx hb dX0_mayBeMade_16 rfl (lv_at hl 1 rfl) ?_
        refine lv_iload hx hb dX0_mayBeMade_17 (lv_at hl 3 rfl) ?_
        refine ro_l (va_runV ⟨hx, hb, hml, hown, hts⟩ (c_X0_partAbove l hd (by omega)) (cwV 2 hts gX0_mayBeMade_X0_partAbove rfl rfl rfl ⟨rfl, kd_X0_partAbove⟩ ⟨Nat.le_of_ble_eq_true rfl, Nat.le_of_ble_eq_true rfl⟩) (preV1 hnw hK hP 2 0 rfl rfl) rfl rfl hl.1 rfl (lv_room (Nat.le_of_ble_eq_true rfl)) dX0_mayBeMade_19 ⟨Nat.zero_le _, Nat.zero_le _⟩) ?_
        refine lv_lstore (lv' := [(5, .long _), (0, .ref (ad 2)), (1, .int (nI mm)), (2, .long (f_pb d sc (nI mm))), (4, .int (nI k))]) hx hb dX0_mayBeMade_22 hl (by decide) rfl (fun ls hl => ?_)
        refine lv_lload hx hb dX0_mayBeMade_24 (lv_at hl 0 rfl) ?_
        refine lv_lconst (v := 0) hx hb dX0_mayBeMade_26 (by decide) ?_
        refine W.lcmp hx hb dX0_mayBeMade_27 ?_
        refine lv_if_lt (tgt := 38) hx hb dX0_mayBeMade_28 (by decide) (fun c_28 => ?_) (fun c_28 => ?_)
        · skip
          have c_28 := (lg_cmp_lt _ _).mp c_28
          have hbad : ¬ f_ok d nu sc (nI mm) k := fun h => h.1 c_28
          refine lv_iconst (v := 0) hx hb dX0_mayBeMade_38 (by decide) ?_
          exact W.zret hx hb hr (by first | rfl | exact bI_nar) (fun t ht _ => ri (by exact (bI_f (fun h => hbad (h k (by omega)))).symm) ht) no_locs dX0_mayBeMade_39
        · skip
          have c_28 := fun h => c_28 ((lg_cmp_lt _ _).mpr h)
          refine lv_lload hx hb dX0_mayBeMade_31 (lv_at hl 0 rfl) ?_
          refine lv_lload_n hx hb dX0_mayBeMade_33 rfl (lv_at hl 3 rfl) ?_
          refine W.lcmp hx hb dX0_mayBeMade_34 ?_
          refine lv_if_le (tgt := 40) hx hb dX0_mayBeMade_35 (by decide) (fun c_35 => ?_) (fun c_35 => ?_)
          · skip
            have c_35 := (lg_cmp_le _ _).mp c_35
            refine lv_iinc (lv' := [(4, .int (nI (k + 1))), (5, .long _), (0, .ref (ad 2)), (1, .int (nI mm)), (2, .long (f_pb d sc (nI mm)))]) hx hb dX0_mayBeMade_40 hl (k := 4) rfl (nI_1 _) (by decide) rfl (fun ls hl => ?_)
            refine lv_goto (tgt := 9) hx hb dX0_mayBeMade_43 (by decide) ?_
            exact ih9 (k + 1) (by omega) (by omega) (fun j h => by rcases Nat.lt_or_ge j k with q | q; exact hall j q; rw [show j = k by omega]; exact ⟨c_28, c_35⟩) ls (lv_sub hl [2, 3, 4, 0] rfl)
          · skip
            have c_35 := fun h => c_35 ((lg_cmp_le _ _).mpr h)
            have hbad : ¬ f_ok d nu sc (nI mm) k := fun h => c_35 h.2
            refine lv_iconst (v := 0) hx hb dX0_mayBeMade_38 (by decide) ?_
            exact W.zret hx hb hr (by first | rfl | exact bI_nar) (fun t ht _ => ri (by exact (bI_f (fun h => hbad (h k (by omega)))).symm) ht) no_locs dX0_mayBeMade_39
  exact L9 (mm + 2) 0 (by omega) (Nat.zero_le _) (fun j h => absurd h (Nat.not_lt_zero j)) ls (lv_sub hl [2, 3, 1, 0] rfl)
theorem kd_X0_thousandthsAt : yX0_thousandthsAt.cls ≠ "java/lang/invoke/MethodHandle" ∧ yX0_thousandthsAt.cls ≠ "java/lang/invoke/VarHandle" ∧ (parseMethodDescriptor yX0_thousandthsAt.desc).map (fun d => d.parameters.length) = some 2 := by decide +kernel
set_option maxHeartbeats 4000000 in
set_option maxRecDepth 100000 in
theorem c_X0_thousandthsAt (l : Launch) {dC : Nat → ClassId} {dI : Nat → Nat → Nat} {ad : Nat → Nat} {cI cJ : ClassId} {ln : Int32} {fg : Int32} {sc : Int32} {ms : Int32} {mi : Int32} {mv : Int32} {mw : Int32} {st : (Nat → Int64)} {fr : (Nat → Int64)} {sr : (Nat → Int64)} {pa : (Nat → Int64)} {nu : (Nat → Int32)} {a0 a1 : Int32} {d : Nat} (hd : d ≤ 4) : Met l yX0_thousandthsAt wsX0_thousandthsAt ({ frames := 1, cells := 0, slots := 0, locals := 25 }) (va_Pc ([.ref (ad 2), .int a0, .int a1] : List Value) (gB (dC, dI) (tyw cI cJ) (xw ad cI cJ ln fg (nI d) sc ms mi mv mw st fr sr pa nu))) (QcRead (f_at d nu sc a0 a1)) 0 0 (fun _ => False) := by
  refine Met.ofW (cc := cX0_thousandthsAt) (maxL := 7) (ret := (some .int)) (by decide) rfl ?_
  intro p e s m args below meth c s₁ B hml hv
  obtain ⟨rfl, hnw, hK, hP⟩ := hv
  have hx := B.exec
  have hb := B.bytes
  have hr := B.returns
  have hts := atoms_spec (ws := wsX0_thousandthsAt) B.pre
  have hown : s.vm.findClass RX0 = some m.cls := findClass_of_methodNamed B.named
  have hlocks := B.notSynchronized
  have hw0 := hts (.fieldLink RX0 15 "BitStreams$Form" "degree" "I") (by decide +kernel)
  have hw1 := hts (.fieldLink RX0 19 "BitStreams$Form" "scale" "I") (by decide +kernel)
  have hw2 := hts (.initialized RX2) (by decide +kernel)
  have hw3 := hts (.static yX2_power) (by decide +kernel)
  have hw4 := hts (.methodLink RX0 40 Lib.MathLoose.max_long.x) (by decide +kernel)
  have hw5 := hts (.static Lib.MathLoose.max_long.x) (by decide +kernel)
  have hw6 := hts (.initialized "java/lang/Math") (by decide +kernel)
  have hw7 := hts (.code Lib.MathLoose.max_long.x Lib.MathLoose.max_long.code 4 (some .long)) (by decide +kernel)
  have hw8 := hts (.constantLong RX0 46 (1000)) (by decide +kernel)
  have hw9 := hts (.fieldLink RX0 9 "BitStreams$Form" "numbers" "[I") (by decide +kernel)
  have inX0 : ∀ w ∈ wsX00, w ∈ wsX0_thousandthsAt := by decide +kernel
  have hl := lv_entry ([.ref (ad 2), .int a0, .int a1] : List Value) (n := 7) (Nat.le_of_ble_eq_true rfl)
  rw [lg_entry_eq]
  generalize (lg_sl ([.ref (ad 2), .int a0, .int a1] : List Value) ++ List.replicate (7 - (lg_sl ([.ref (ad 2), .int a0, .int a1] : List Value)).length) Slot.unset).toArray = ls at hl ⊢
  have hl : lv_has ls 7 [(0, .ref (ad 2)), (1, .int a0), (2, .int a1)] := hl
  refine lv_lconst (v := 0) hx hb dX0_thousandthsAt_0 (by decide) ?_
  refine lv_lstore_n (lv' := [(3, .long _), (0, .ref (ad 2)), (1, .int a0), (2, .int a1)]) hx hb dX0_thousandthsAt_1 rfl hl (by decide) rfl (fun ls hl => ?_)
  refine lv_iconst (v := 0) hx hb dX0_thousandthsAt_2 (by decide) ?_
  refine lv_istore (lv' := [(5, .int _), (3, .long _), (0, .ref (ad 2)), (1, .int a0), (2, .int a1)]) hx hb dX0_thousandthsAt_3 hl (by decide) rfl (fun ls hl => ?_)
  have L5 : ∀ (n5 : Nat) (k : Nat) (w : Int64), d + 2 ≤ k + n5 → (k ≤ d + 1) → (w = f_th d nu a0 a1 k) → ∀ (ls : Array Slot), lv_has ls 7 [(0, .ref (ad 2)), (1, .int a0), (2, .int a1), (3, .long w), (5, .int (nI k))] → W p l e { frames := 1, cells := 0, slots := 0, locals := 25 } s m ([.ref (ad 2), .int a0, .int a1] : List Value).toArray below meth c s.heap [] 0 0 (MQ below (QcRead (f_at d nu sc a0 a1)) ([.ref (ad 2), .int a0, .int a1] : List Value).toArray s 0 0 (fun _ => False)) (F0 m 5 ls []) := by
    intro n5
    induction n5 with
    | zero =>
      intro k w hf5 hk hw
      exact absurd hf5 (by omega)
    | succ n5 ih5 =>
      intro k w hf5 hk hw ls hl
      refine lv_iload hx hb dX0_thousandthsAt_5 (lv_at hl 4 rfl) ?_
      refine lv_aload_n hx hb dX0_thousandthsAt_7 rfl (lv_at hl 0 rfl) ?_
      refine va_get (D := (dC, dI)) (ci := 0) (C := RX0) (T := TX0) (N := 3) hx hb hts inX0 hown hK hP 2 rfl rfl 1 (by decide) hw0 (fun _ h9 => h9) rfl dX0_thousandthsAt_8 ?_
      refine lv_icmp_gt (tgt := 52) hx hb dX0_thousandthsAt_11 (by decide) (fun c_11 => ?_) (fun c_11 => ?_)
      · skip
        have hz := nI_nlt_end hk (by omega) c_11
        refine lv_aload_n hx hb dX0_thousandthsAt_52 rfl (lv_at hl 0 rfl) ?_
        refine va_get (D := (dC, dI)) (ci := 0) (C := RX0) (T := TX0) (N := 3) hx hb hts inX0 hown hK hP 2 rfl rfl 2 (by decide) hw1 (fun _ h9 => h9) rfl dX0_thousandthsAt_53 ?_
        refine lv_i2l hx hb dX0_thousandthsAt_56 rfl ?_
        refine lv_iload_n hx hb dX0_thousandthsAt_57 rfl (lv_at hl 2 rfl) ?_
        refine lv_i2l hx hb dX0_thousandthsAt_58 rfl ?_
        refine lv_aload_n hx hb dX0_thousandthsAt_59 rfl (lv_at hl 0 rfl) ?_
        refine va_get (D := (dC, dI)) (ci := 0) (C := RX0) (T := TX0) (N := 3) hx hb hts inX0 hown hK hP 2 rfl rfl 1 (by decide) hw0 (fun _ h9 => h9) rfl dX0_thousandthsAt_60 ?_
        refine ro_l (va_runSN ⟨hx, hb, hml, hown, hts⟩ (c_X2_power l ) ⟨va_cnB 2 hts gX0_thousandthsAt_X2_power_n36 rfl rfl rfl (hnw.at 15 rfl) hw2 kd_X2_power ⟨Nat.le_of_ble_eq_true rfl, Nat.le_of_ble_eq_true rfl⟩, hw3, trivial⟩ preS0 rfl rfl hl.1 rfl (lv_room (Nat.le_of_ble_eq_true rfl)) dX0_thousandthsAt_63 ⟨Nat.zero_le _, Nat.zero_le _⟩) ?_
        refine lv_lmul hx hb dX0_thousandthsAt_66 ?_
        refine lv_lconst (v := 1) hx hb dX0_thousandthsAt_67 (by decide) ?_
        refine va_mmax_long hx hb (by rw [hml]; exact hl.1.symm) hown hw4 hw5 hw6 hw7 (Nat.le_of_ble_eq_true rfl) (Nat.le_of_ble_eq_true rfl) (Nat.zero_le _) (Nat.zero_le _) dX0_thousandthsAt_68 ?_
        refine st_l (v := f_max1 (sc.toInt64 * f_power a1.toInt64 d)) (by rw [nI_cl (by omega)]; rfl) ?_
        refine lv_lstore (lv' := [(5, .long _), (0, .ref (ad 2)), (1, .int a0), (2, .int a1), (3, .long w)]) hx hb dX0_thousandthsAt_71 hl (by decide) rfl (fun ls hl => ?_)
        refine lv_ldc2 (v := 1000) hx hb hown hw8 dX0_thousandthsAt_73 ?_
        refine lv_lload_n hx hb dX0_thousandthsAt_76 rfl (lv_at hl 4 rfl) ?_
        refine lv_lmul hx hb dX0_thousandthsAt_77 ?_
        refine lv_lload hx hb dX0_thousandthsAt_78 (lv_at hl 0 rfl) ?_
        refine ro_l (va_runS ⟨hx, hb, hml, hown, hts⟩ (c_J9_floorDiv_f86c9 l (f_max1_ne _)) (va_cwS 2 hts gX0_thousandthsAt_J9_floorDiv_f86c9 rfl rfl rfl kd_J9_floorDiv_f86c9 ⟨Nat.le_of_ble_eq_true rfl, Nat.le_of_ble_eq_true rfl⟩) preS0 rfl rfl hl.1 rfl (lv_room (Nat.le_of_ble_eq_true rfl)) dX0_thousandthsAt_80 ⟨Nat.zero_le _, Nat.zero_le _⟩) ?_
        refine lv_l2i hx hb dX0_thousandthsAt_83 rfl ?_
        exact W.iret hx hb hr (fun t ht _ => ri (by unfold f_at; rw [hw, hz]) ht) no_locs dX0_thousandthsAt_84
      · skip
        have hz := nI_nlt_go hk (by omega) c_11
        refine lv_lload_n hx hb dX0_thousandthsAt_14 rfl (lv_at hl 3 rfl) ?_
        refine lv_aload_n hx hb dX0_thousandthsAt_15 rfl (lv_at hl 0 rfl) ?_
        refine va_get (D := (dC, dI)) (ci := 0) (C := RX0) (T := TX0) (N := 3) hx hb hts inX0 hown hK hP 2 rfl rfl 0 (by decide) hw9 (fun _ h9 => h9) rfl dX0_thousandthsAt_16 ?_
        refine lv_iload hx hb dX0_thousandthsAt_19 (lv_at hl 4 rfl) ?_
        refine va_iald hx hb hK hP 7 0 rfl rfl (vp_in_nI (by omega) (by omega)) dX0_thousandthsAt_21 ?_
        refine st_i (v := nu k) (by rw [nI_cl (by omega)]) ?_
        refine lv_i2l hx hb dX0_thousandthsAt_22 rfl ?_
        refine lv_iload_n hx hb dX0_thousandthsAt_23 rfl (lv_at hl 1 rfl) ?_
        refine lv_i2l hx hb dX0_thousandthsAt_24 rfl ?_
        refine lv_iload hx hb dX0_thousandthsAt_25 (lv_at hl 4 rfl) ?_
        refine ro_l (va_runSN ⟨hx, hb, hml, hown, hts⟩ (c_X2_power l ) ⟨va_cnB 2 hts gX0_thousandthsAt_X2_power_n36 rfl rfl rfl (hnw.at 15 rfl) hw2 kd_X2_power ⟨Nat.le_of_ble_eq_true rfl, Nat.le_of_ble_eq_true rfl⟩, hw3, trivial⟩ preS0 rfl rfl hl.1 rfl (lv_room (Nat.le_of_ble_eq_true rfl)) dX0_thousandthsAt_27 ⟨Nat.zero_le _, Nat.zero_le _⟩) ?_
        refine lv_lmul hx hb dX0_thousandthsAt_30 ?_
        refine lv_iload_n hx hb dX0_thousandthsAt_31 rfl (lv_at hl 2 rfl) ?_
        refine lv_i2l hx hb dX0_thousandthsAt_32 rfl ?_
        refine lv_aload_n hx hb dX0_thousandthsAt_33 rfl (lv_at hl 0 rfl) ?_
        refine va_get (D := (dC, dI)) (ci := 0) (C := RX0) (T := TX0) (N := 3) hx hb hts inX0 hown hK hP 2 rfl rfl 1 (by decide) hw0 (fun _ h9 => h9) rfl dX0_thousandthsAt_34 ?_
        refine lv_iload hx hb dX0_thousandthsAt_37 (lv_at hl 4 rfl) ?_
        refine lv_isub hx hb dX0_thousandthsAt_39 ?_
        refine ro_l (va_runSN ⟨hx, hb, hml, hown, hts⟩ (c_X2_power l ) ⟨va_cnB 2 hts gX0_thousandthsAt_X2_power_n36 rfl rfl rfl (hnw.at 15 rfl) hw2 kd_X2_power ⟨Nat.le_of_ble_eq_true rfl, Nat.le_of_ble_eq_true rfl⟩, hw3, trivial⟩ preS0 rfl rfl hl.1 rfl (lv_room (Nat.le_of_ble_eq_true rfl)) dX0_thousandthsAt_40 ⟨Nat.zero_le _, Nat.zero_le _⟩) ?_
        refine lv_lmul hx hb dX0_thousandthsAt_43 ?_
        refine lv_ladd hx hb dX0_thousandthsAt_44 ?_
        refine lv_lstore_n (lv' := [(3, .long _), (0, .ref (ad 2)), (1, .int a0), (2, .int a1), (5, .int (nI k))]) hx hb dX0_thousandthsAt_45 rfl hl (by decide) rfl (fun ls hl => ?_)
        refine lv_iinc (lv' := [(5, .int (nI (k + 1))), (3, .long _), (0, .ref (ad 2)), (1, .int a0), (2, .int a1)]) hx hb dX0_thousandthsAt_46 hl (k := 4) rfl (nI_1 _) (by decide) rfl (fun ls hl => ?_)
        refine lv_goto (tgt := 5) hx hb dX0_thousandthsAt_49 (by decide) ?_
        exact ih5 (k + 1) _ (by omega) (by omega) (by rw [f_th, hw, nI_cl (by omega)]) ls (lv_sub hl [2, 3, 4, 1, 0] rfl)
  exact L5 (d + 2) 0 _ (by omega) (Nat.zero_le _) rfl ls (lv_sub hl [2, 3, 4, 1, 0] rfl)
end
section
theorem kd_X2_isBit : yX2_isBit.cls ≠ "java/lang/invoke/MethodHandle" ∧ yX2_isBit.cls ≠ "java/lang/invoke/VarHandle" ∧ (parseMethodDescriptor yX2_isBit.desc).map (fun d => d.parameters.length) = some 1 := by decide +kernel
set_option maxHeartbeats 4000000 in
set_option maxRecDepth 100000 in
theorem c_X2_isBit (l : Launch) {dC : Nat → ClassId} {dI : Nat → Nat → Nat} {ad : Nat → Nat} {cI cJ : ClassId} {ln : Int32} {fg : Int32} {dg : Int32} {sc : Int32} {ms : Int32} {mi : Int32} {mv : Int32} {mw : Int32} {st : (Nat → Int64)} {fr : (Nat → Int64)} {sr : (Nat → Int64)} {pa : (Nat → Int64)} {nu : (Nat → Int32)} {a0 : Int32} : Met l yX2_isBit wsX2_isBit ({ frames := 1, cells := 0, slots := 0, locals := 22 }) (va_Pc ([.ref (ad 0), .int a0] : List Value) (gB (dC, dI) (tyw cI cJ) (xw ad cI cJ ln fg dg sc ms mi mv mw st fr sr pa nu))) (QcRead (bI (0 ≤ a0 ∧ a0 ≤ ln - 1))) 0 0 (fun _ => False) := by
  refine Met.ofW (cc := cX2_isBit) (maxL := 2) (ret := (some .boolean)) (by decide) rfl ?_
  intro p e s m args below meth c s₁ B hml hv
  obtain ⟨rfl, hnw, hK, hP⟩ := hv
  have hx := B.exec
  have hb := B.bytes
  have hr := B.returns
  have hts := atoms_spec (ws := wsX2_isBit) B.pre
  have hown : s.vm.findClass RX2 = some m.cls := findClass_of_methodNamed B.named
  have hlocks := B.notSynchronized
  have hw0 := hts (.fieldLink RX2 10 "BitStreams" "rows" "LBitStreams$Rows;") (by decide +kernel)
  have inX1 : ∀ w ∈ wsX10, w ∈ wsX2_isBit := by decide +kernel
  have inX2 : ∀ w ∈ wsX20, w ∈ wsX2_isBit := by decide +kernel
  have hl := lv_entry ([.ref (ad 0), .int a0] : List Value) (n := 2) (Nat.le_of_ble_eq_true rfl)
  rw [lg_entry_eq]
  generalize (lg_sl ([.ref (ad 0), .int a0] : List Value) ++ List.replicate (2 - (lg_sl ([.ref (ad 0), .int a0] : List Value)).length) Slot.unset).toArray = ls at hl ⊢
  have hl : lv_has ls 2 [(0, .ref (ad 0)), (1, .int a0)] := hl
  refine lv_iload_n hx hb dX2_isBit_0 rfl (lv_at hl 1 rfl) ?_
  refine lv_iconst (v := 0) hx hb dX2_isBit_1 (by decide) ?_
  refine lv_aload_n hx hb dX2_isBit_2 rfl (lv_at hl 0 rfl) ?_
  refine va_get (D := (dC, dI)) (ci := 2) (C := RX2) (T := TX2) (N := 10) hx hb hts inX2 hown hK hP 0 rfl rfl 0 (by decide) hw0 (fun _ h9 => h9) rfl dX2_isBit_3 ?_
  refine va_getN (D := (dC, dI)) (ci := 1) (C := RX1) (T := TX1) (N := 2) hx hb hts inX1 hown hK hP 1 rfl rfl 0 (by decide) (hnw.use 1 rfl) (fun _ h9 => h9) rfl dX2_isBit_6 ?_
  refine lv_iconst (v := 1) hx hb dX2_isBit_9 (by decide) ?_
  refine lv_isub hx hb dX2_isBit_10 ?_
  refine ro_i (va_runS ⟨hx, hb, hml, hown, hts⟩ (c_X2_isWithin l ) (va_cwS 3 hts gX2_isBit_X2_isWithin rfl rfl rfl kd_X2_isWithin ⟨Nat.le_of_ble_eq_true rfl, Nat.le_of_ble_eq_true rfl⟩) preS0 rfl rfl hl.1 rfl (lv_room (Nat.le_of_ble_eq_true rfl)) dX2_isBit_11 ⟨Nat.zero_le _, Nat.zero_le _⟩) ?_
  exact W.zret hx hb hr (by first | rfl | exact bI_nar) (fun t ht _ => ri rfl ht) no_locs dX2_isBit_14
theorem kd_X2_isValue : yX2_isValue.cls ≠ "java/lang/invoke/MethodHandle" ∧ yX2_isValue.cls ≠ "java/lang/invoke/VarHandle" ∧ (parseMethodDescriptor yX2_isValue.desc).map (fun d => d.parameters.length) = some 1 := by decide +kernel
set_option maxHeartbeats 4000000 in
set_option maxRecDepth 100000 in
theorem c_X2_isValue (l : Launch) {dC : Nat → ClassId} {dI : Nat → Nat → Nat} {ad : Nat → Nat} {cI cJ : ClassId} {ln : Int32} {fg : Int32} {dg : Int32} {sc : Int32} {ms : Int32} {mi : Int32} {mv : Int32} {mw : Int32} {st : (Nat → Int64)} {fr : (Nat → Int64)} {sr : (Nat → Int64)} {pa : (Nat → Int64)} {nu : (Nat → Int32)} {a0 : Int32} : Met l yX2_isValue wsX2_isValue ({ frames := 1, cells := 0, slots := 0, locals := 22 }) (va_Pc ([.ref (ad 0), .int a0] : List Value) (gB (dC, dI) (tyw cI cJ) (xw ad cI cJ ln fg dg sc ms mi mv mw st fr sr pa nu))) (QcRead (bI (0 ≤ a0 ∧ a0 ≤ ln))) 0 0 (fun _ => False) := by
  refine Met.ofW (cc := cX2_isValue) (maxL := 2) (ret := (some .boolean)) (by decide) rfl ?_
  intro p e s m args below meth c s₁ B hml hv
  obtain ⟨rfl, hnw, hK, hP⟩ := hv
  have hx := B.exec
  have hb := B.bytes
  have hr := B.returns
  have hts := atoms_spec (ws := wsX2_isValue) B.pre
  have hown : s.vm.findClass RX2 = some m.cls := findClass_of_methodNamed B.named
  have hlocks := B.notSynchronized
  have hw0 := hts (.fieldLink RX2 10 "BitStreams" "rows" "LBitStreams$Rows;") (by decide +kernel)
  have inX1 : ∀ w ∈ wsX10, w ∈ wsX2_isValue := by decide +kernel
  have inX2 : ∀ w ∈ wsX20, w ∈ wsX2_isValue := by decide +kernel
  have hl := lv_entry ([.ref (ad 0), .int a0] : List Value) (n := 2) (Nat.le_of_ble_eq_true rfl)
  rw [lg_entry_eq]
  generalize (lg_sl ([.ref (ad 0), .int a0] : List Value) ++ List.replicate (2 - (lg_sl ([.ref (ad 0), .int a0] : List Value)).length) Slot.unset).toArray = ls at hl ⊢
  have hl : lv_has ls 2 [(0, .ref (ad 0)), (1, .int a0)] := hl
  refine lv_iload_n hx hb dX2_isValue_0 rfl (lv_at hl 1 rfl) ?_
  refine lv_iconst (v := 0) hx hb dX2_isValue_1 (by decide) ?_
  refine lv_aload_n hx hb dX2_isValue_2 rfl (lv_at hl 0 rfl) ?_
  refine va_get (D := (dC, dI)) (ci := 2) (C := RX2) (T := TX2) (N := 10) hx hb hts inX2 hown hK hP 0 rfl rfl 0 (by decide) hw0 (fun _ h9 => h9) rfl dX2_isValue_3 ?_
  refine va_getN (D := (dC, dI)) (ci := 1) (C := RX1) (T := TX1) (N := 2) hx hb hts inX1 hown hK hP 1 rfl rfl 0 (by decide) (hnw.use 1 rfl) (fun _ h9 => h9) rfl dX2_isValue_6 ?_
  refine ro_i (va_runS ⟨hx, hb, hml, hown, hts⟩ (c_X2_isWithin l ) (va_cwS 3 hts gX2_isValue_X2_isWithin rfl rfl rfl kd_X2_isWithin ⟨Nat.le_of_ble_eq_true rfl, Nat.le_of_ble_eq_true rfl⟩) preS0 rfl rfl hl.1 rfl (lv_room (Nat.le_of_ble_eq_true rfl)) dX2_isValue_9 ⟨Nat.zero_le _, Nat.zero_le _⟩) ?_
  exact W.zret hx hb hr (by first | rfl | exact bI_nar) (fun t ht _ => ri rfl ht) no_locs dX2_isValue_12
theorem kd_X2_onesOfSort : yX2_onesOfSort.cls ≠ "java/lang/invoke/MethodHandle" ∧ yX2_onesOfSort.cls ≠ "java/lang/invoke/VarHandle" ∧ (parseMethodDescriptor yX2_onesOfSort.desc).map (fun d => d.parameters.length) = some 3 := by decide +kernel
set_option maxHeartbeats 4000000 in
set_option maxRecDepth 100000 in
theorem c_X2_onesOfSort (l : Launch) {dC : Nat → ClassId} {dI : Nat → Nat → Nat} {ad : Nat → Nat} {cI cJ : ClassId} {ln : Int32} {fg : Int32} {dg : Int32} {sc : Int32} {ms : Int32} {mi : Int32} {mv : Int32} {mw : Int32} {st : (Nat → Int64)} {fr : (Nat → Int64)} {sr : (Nat → Int64)} {pa : (Nat → Int64)} {nu : (Nat → Int32)} {a0 a1 : Int64} {a2 : Int32} : Met l yX2_onesOfSort wsX2_onesOfSort ({ frames := 1, cells := 0, slots := 0, locals := 21 }) (va_Pc ([.ref (ad 0), .long a0, .long a1, .int a2] : List Value) (gB (dC, dI) (tyw cI cJ) (xw ad cI cJ ln fg dg sc ms mi mv mw st fr sr pa nu))) (QcRead (f_sort ln a0 a1 a2)) 0 0 (fun _ => False) := by
  refine Met.ofW (cc := cX2_onesOfSort) (maxL := 10) (ret := (some .int)) (by decide) rfl ?_
  intro p e s m args below meth c s₁ B hml hv
  obtain ⟨rfl, hnw, hK, hP⟩ := hv
  have hx := B.exec
  have hb := B.bytes
  have hr := B.returns
  have hts := atoms_spec (ws := wsX2_onesOfSort) B.pre
  have hown : s.vm.findClass RX2 = some m.cls := findClass_of_methodNamed B.named
  have hlocks := B.notSynchronized
  have hw0 := hts (.fieldLink RX2 10 "BitStreams" "rows" "LBitStreams$Rows;") (by decide +kernel)
  have hw1 := hts (.constantLong RX2 81 (-1)) (by decide +kernel)
  have inX1 : ∀ w ∈ wsX10, w ∈ wsX2_onesOfSort := by decide +kernel
  have inX2 : ∀ w ∈ wsX20, w ∈ wsX2_onesOfSort := by decide +kernel
  have hl := lv_entry ([.ref (ad 0), .long a0, .long a1, .int a2] : List Value) (n := 10) (Nat.le_of_ble_eq_true rfl)
  rw [lg_entry_eq]
  generalize (lg_sl ([.ref (ad 0), .long a0, .long a1, .int a2] : List Value) ++ List.replicate (10 - (lg_sl ([.ref (ad 0), .long a0, .long a1, .int a2] : List Value)).length) Slot.unset).toArray = ls at hl ⊢
  have hl : lv_has ls 10 [(0, .ref (ad 0)), (1, .long a0), (3, .long a1), (5, .int a2)] := hl
  refine lv_iload hx hb dX2_onesOfSort_0 (lv_at hl 3 rfl) ?_
  refine lv_if_eq (tgt := 11) hx hb dX2_onesOfSort_2 (by decide) (fun c_2 => ?_) (fun c_2 => ?_)
  · skip
    have hs1 : a2 = 0 ∨ a2 = 1 := Or.inl c_2
    refine lv_lload_n hx hb dX2_onesOfSort_11 rfl (lv_at hl 1 rfl) ?_
    refine lv_goto (tgt := 20) hx hb dX2_onesOfSort_12 (by decide) ?_
    refine lv_lstore (lv' := [(6, .long _), (0, .ref (ad 0)), (1, .long a0), (3, .long a1), (5, .int a2)]) hx hb dX2_onesOfSort_20 hl (by decide) rfl (fun ls hl => ?_)
    refine lv_iload hx hb dX2_onesOfSort_22 (lv_at hl 4 rfl) ?_
    refine lv_if_eq (tgt := 33) hx hb dX2_onesOfSort_24 (by decide) (fun c_24 => ?_) (fun c_24 => ?_)
    · skip
      have hs2 : a2 = 0 ∨ a2 = 2 := Or.inl c_24
      refine lv_lload_n hx hb dX2_onesOfSort_33 rfl (lv_at hl 3 rfl) ?_
      refine lv_goto (tgt := 42) hx hb dX2_onesOfSort_34 (by decide) ?_
      refine lv_lstore (lv' := [(8, .long _), (6, .long _), (0, .ref (ad 0)), (1, .long a0), (3, .long a1), (5, .int a2)]) hx hb dX2_onesOfSort_42 hl (by decide) rfl (fun ls hl => ?_)
      refine lv_lload hx hb dX2_onesOfSort_44 (lv_at hl 1 rfl) ?_
      refine lv_lload hx hb dX2_onesOfSort_46 (lv_at hl 0 rfl) ?_
      refine lv_land hx hb dX2_onesOfSort_48 ?_
      refine lv_aload_n hx hb dX2_onesOfSort_49 rfl (lv_at hl 2 rfl) ?_
      refine va_get (D := (dC, dI)) (ci := 2) (C := RX2) (T := TX2) (N := 10) hx hb hts inX2 hown hK hP 0 rfl rfl 0 (by decide) hw0 (fun _ h9 => h9) rfl dX2_onesOfSort_50 ?_
      refine va_getN (D := (dC, dI)) (ci := 1) (C := RX1) (T := TX1) (N := 2) hx hb hts inX1 hown hK hP 1 rfl rfl 0 (by decide) (hnw.use 1 rfl) (fun _ h9 => h9) rfl dX2_onesOfSort_53 ?_
      refine ro_l (va_runS ⟨hx, hb, hml, hown, hts⟩ (c_X2_lowBits l ) (va_cwS 1 hts gX2_onesOfSort_X2_lowBits rfl rfl rfl kd_X2_lowBits ⟨Nat.le_of_ble_eq_true rfl, Nat.le_of_ble_eq_true rfl⟩) preS0 rfl rfl hl.1 rfl (lv_room (Nat.le_of_ble_eq_true rfl)) dX2_onesOfSort_56 ⟨Nat.zero_le _, Nat.zero_le _⟩) ?_
      refine lv_land hx hb dX2_onesOfSort_59 ?_
      refine ro_i (va_runS ⟨hx, hb, hml, hown, hts⟩ (c_J13_bitCount_95d88 l ) (va_cwS 1 hts gX2_onesOfSort_J13_bitCount_95d88 rfl rfl rfl kd_J13_bitCount_95d88 ⟨Nat.le_of_ble_eq_true rfl, Nat.le_of_ble_eq_true rfl⟩) preS0 rfl rfl hl.1 rfl (lv_room (Nat.le_of_ble_eq_true rfl)) dX2_onesOfSort_60 ⟨Nat.zero_le _, Nat.zero_le _⟩) ?_
      exact W.iret hx hb hr (fun t ht _ => ri (by unfold f_sort; first | rw [if_pos hs1, if_pos hs2] | rw [if_pos hs1, if_neg hs2] | rw [if_neg hs1, if_pos hs2] | rw [if_neg hs1, if_neg hs2]) ht) no_locs dX2_onesOfSort_63
    · skip
      refine lv_iload hx hb dX2_onesOfSort_27 (lv_at hl 4 rfl) ?_
      refine lv_iconst (v := 2) hx hb dX2_onesOfSort_29 (by decide) ?_
      refine lv_icmp_ne (tgt := 37) hx hb dX2_onesOfSort_30 (by decide) (fun c_30 => ?_) (fun c_30 => ?_)
      · skip
        have hs2 : ¬ (a2 = 0 ∨ a2 = 2) := fun h => h.elim c_24 c_30
        refine lv_lload_n hx hb dX2_onesOfSort_37 rfl (lv_at hl 3 rfl) ?_
        refine lv_ldc2 (v := (-1)) hx hb hown hw1 dX2_onesOfSort_38 ?_
        refine lv_lxor hx hb dX2_onesOfSort_41 ?_
        refine lv_lstore (lv' := [(8, .long _), (6, .long _), (0, .ref (ad 0)), (1, .long a0), (3, .long a1), (5, .int a2)]) hx hb dX2_onesOfSort_42 hl (by decide) rfl (fun ls hl => ?_)
        refine lv_lload hx hb dX2_onesOfSort_44 (lv_at hl 1 rfl) ?_
        refine lv_lload hx hb dX2_onesOfSort_46 (lv_at hl 0 rfl) ?_
        refine lv_land hx hb dX2_onesOfSort_48 ?_
        refine lv_aload_n hx hb dX2_onesOfSort_49 rfl (lv_at hl 2 rfl) ?_
        refine va_get (D := (dC, dI)) (ci := 2) (C := RX2) (T := TX2) (N := 10) hx hb hts inX2 hown hK hP 0 rfl rfl 0 (by decide) hw0 (fun _ h9 => h9) rfl dX2_onesOfSort_50 ?_
        refine va_getN (D := (dC, dI)) (ci := 1) (C := RX1) (T := TX1) (N := 2) hx hb hts inX1 hown hK hP 1 rfl rfl 0 (by decide) (hnw.use 1 rfl) (fun _ h9 => h9) rfl dX2_onesOfSort_53 ?_
        refine ro_l (va_runS ⟨hx, hb, hml, hown, hts⟩ (c_X2_lowBits l ) (va_cwS 1 hts gX2_onesOfSort_X2_lowBits rfl rfl rfl kd_X2_lowBits ⟨Nat.le_of_ble_eq_true rfl, Nat.le_of_ble_eq_true rfl⟩) preS0 rfl rfl hl.1 rfl (lv_room (Nat.le_of_ble_eq_true rfl)) dX2_onesOfSort_56 ⟨Nat.zero_le _, Nat.zero_le _⟩) ?_
        refine lv_land hx hb dX2_onesOfSort_59 ?_
        refine ro_i (va_runS ⟨hx, hb, hml, hown, hts⟩ (c_J13_bitCount_95d88 l ) (va_cwS 1 hts gX2_onesOfSort_J13_bitCount_95d88 rfl rfl rfl kd_J13_bitCount_95d88 ⟨Nat.le_of_ble_eq_true rfl, Nat.le_of_ble_eq_true rfl⟩) preS0 rfl rfl hl.1 rfl (lv_room (Nat.le_of_ble_eq_true rfl)) dX2_onesOfSort_60 ⟨Nat.zero_le _, Nat.zero_le _⟩) ?_
        exact W.iret hx hb hr (fun t ht _ => ri (by unfold f_sort; first | rw [if_pos hs1, if_pos hs2] | rw [if_pos hs1, if_neg hs2] | rw [if_neg hs1, if_pos hs2] | rw [if_neg hs1, if_neg hs2]) ht) no_locs dX2_onesOfSort_63
      · skip
        have hs2 : a2 = 0 ∨ a2 = 2 := Or.inr c_30
        refine lv_lload_n hx hb dX2_onesOfSort_33 rfl (lv_at hl 3 rfl) ?_
        refine lv_goto (tgt := 42) hx hb dX2_onesOfSort_34 (by decide) ?_
        refine lv_lstore (lv' := [(8, .long _), (6, .long _), (0, .ref (ad 0)), (1, .long a0), (3, .long a1), (5, .int a2)]) hx hb dX2_onesOfSort_42 hl (by decide) rfl (fun ls hl => ?_)
        refine lv_lload hx hb dX2_onesOfSort_44 (lv_at hl 1 rfl) ?_
        refine lv_lload hx hb dX2_onesOfSort_46 (lv_at hl 0 rfl) ?_
        refine lv_land hx hb dX2_onesOfSort_48 ?_
        refine lv_aload_n hx hb dX2_onesOfSort_49 rfl (lv_at hl 2 rfl) ?_
        refine va_get (D := (dC, dI)) (ci := 2) (C := RX2) (T := TX2) (N := 10) hx hb hts inX2 hown hK hP 0 rfl rfl 0 (by decide) hw0 (fun _ h9 => h9) rfl dX2_onesOfSort_50 ?_
        refine va_getN (D := (dC, dI)) (ci := 1) (C := RX1) (T := TX1) (N := 2) hx hb hts inX1 hown hK hP 1 rfl rfl 0 (by decide) (hnw.use 1 rfl) (fun _ h9 => h9) rfl dX2_onesOfSort_53 ?_
        refine ro_l (va_runS ⟨hx, hb, hml, hown, hts⟩ (c_X2_lowBits l ) (va_cwS 1 hts gX2_onesOfSort_X2_lowBits rfl rfl rfl kd_X2_lowBits ⟨Nat.le_of_ble_eq_true rfl, Nat.le_of_ble_eq_true rfl⟩) preS0 rfl rfl hl.1 rfl (lv_room (Nat.le_of_ble_eq_true rfl)) dX2_onesOfSort_56 ⟨Nat.zero_le _, Nat.zero_le _⟩) ?_
        refine lv_land hx hb dX2_onesOfSort_59 ?_
        refine ro_i (va_runS ⟨hx, hb, hml, hown, hts⟩ (c_J13_bitCount_95d88 l ) (va_cwS 1 hts gX2_onesOfSort_J13_bitCount_95d88 rfl rfl rfl kd_J13_bitCount_95d88 ⟨Nat.le_of_ble_eq_true rfl, Nat.le_of_ble_eq_true rfl⟩) preS0 rfl rfl hl.1 rfl (lv_room (Nat.le_of_ble_eq_true rfl)) dX2_onesOfSort_60 ⟨Nat.zero_le _, Nat.zero_le _⟩) ?_
        exact W.iret hx hb hr (fun t ht _ => ri (by unfold f_sort; first | rw [if_pos hs1, if_pos hs2] | rw [if_pos hs1, if_neg hs2] | rw [if_neg hs1, if_pos hs2] | rw [if_neg hs1, if_neg hs2]) ht) no_locs dX2_onesOfSort_63
  · skip
    refine lv_iload hx hb dX2_onesOfSort_5 (lv_at hl 3 rfl) ?_
    refine lv_iconst (v := 1) hx hb dX2_onesOfSort_7 (by decide) ?_
    refine lv_icmp_ne (tgt := 15) hx hb dX2_onesOfSort_8 (by decide) (fun c_8 => ?_) (fun c_8 => ?_)
    · skip
      have hs1 : ¬ (a2 = 0 ∨ a2 = 1) := fun h => h.elim c_2 c_8
      refine lv_lload_n hx hb dX2_onesOfSort_15 rfl (lv_at hl 1 rfl) ?_
      refine lv_ldc2 (v := (-1)) hx hb hown hw1 dX2_onesOfSort_16 ?_
      refine lv_lxor hx hb dX2_onesOfSort_19 ?_
      refine lv_lstore (lv' := [(6, .long _), (0, .ref (ad 0)), (1, .long a0), (3, .long a1), (5, .int a2)]) hx hb dX2_onesOfSort_20 hl (by decide) rfl (fun ls hl => ?_)
      refine lv_iload hx hb dX2_onesOfSort_22 (lv_at hl 4 rfl) ?_
      refine lv_if_eq (tgt := 33) hx hb dX2_onesOfSort_24 (by decide) (fun c_24 => ?_) (fun c_24 => ?_)
      · skip
        have hs2 : a2 = 0 ∨ a2 = 2 := Or.inl c_24
        refine lv_lload_n hx hb dX2_onesOfSort_33 rfl (lv_at hl 3 rfl) ?_
        refine lv_goto (tgt := 42) hx hb dX2_onesOfSort_34 (by decide) ?_
        refine lv_lstore (lv' := [(8, .long _), (6, .long _), (0, .ref (ad 0)), (1, .long a0), (3, .long a1), (5, .int a2)]) hx hb dX2_onesOfSort_42 hl (by decide) rfl (fun ls hl => ?_)
        refine lv_lload hx hb dX2_onesOfSort_44 (lv_at hl 1 rfl) ?_
        refine lv_lload hx hb dX2_onesOfSort_46 (lv_at hl 0 rfl) ?_
        refine lv_land hx hb dX2_onesOfSort_48 ?_
        refine lv_aload_n hx hb dX2_onesOfSort_49 rfl (lv_at hl 2 rfl) ?_
        refine va_get (D := (dC, dI)) (ci := 2) (C := RX2) (T := TX2) (N := 10) hx hb hts inX2 hown hK hP 0 rfl rfl 0 (by decide) hw0 (fun _ h9 => h9) rfl dX2_onesOfSort_50 ?_
        refine va_getN (D := (dC, dI)) (ci := 1) (C := RX1) (T := TX1) (N := 2) hx hb hts inX1 hown hK hP 1 rfl rfl 0 (by decide) (hnw.use 1 rfl) (fun _ h9 => h9) rfl dX2_onesOfSort_53 ?_
        refine ro_l (va_runS ⟨hx, hb, hml, hown, hts⟩ (c_X2_lowBits l ) (va_cwS 1 hts gX2_onesOfSort_X2_lowBits rfl rfl rfl kd_X2_lowBits ⟨Nat.le_of_ble_eq_true rfl, Nat.le_of_ble_eq_true rfl⟩) preS0 rfl rfl hl.1 rfl (lv_room (Nat.le_of_ble_eq_true rfl)) dX2_onesOfSort_56 ⟨Nat.zero_le _, Nat.zero_le _⟩) ?_
        refine lv_land hx hb dX2_onesOfSort_59 ?_
        refine ro_i (va_runS ⟨hx, hb, hml, hown, hts⟩ (c_J13_bitCount_95d88 l ) (va_cwS 1 hts gX2_onesOfSort_J13_bitCount_95d88 rfl rfl rfl kd_J13_bitCount_95d88 ⟨Nat.le_of_ble_eq_true rfl, Nat.le_of_ble_eq_true rfl⟩) preS0 rfl rfl hl.1 rfl (lv_room (Nat.le_of_ble_eq_true rfl)) dX2_onesOfSort_60 ⟨Nat.zero_le _, Nat.zero_le _⟩) ?_
        exact W.iret hx hb hr (fun t ht _ => ri (by unfold f_sort; first | rw [if_pos hs1, if_pos hs2] | rw [if_pos hs1, if_neg hs2] | rw [if_neg hs1, if_pos hs2] | rw [if_neg hs1, if_neg hs2]) ht) no_locs dX2_onesOfSort_63
      · skip
        refine lv_iload hx hb dX2_onesOfSort_27 (lv_at hl 4 rfl) ?_
        refine lv_iconst (v := 2) hx hb dX2_onesOfSort_29 (by decide) ?_
        refine lv_icmp_ne (tgt := 37) hx hb dX2_onesOfSort_30 (by decide) (fun c_30 => ?_) (fun c_30 => ?_)
        · skip
          have hs2 : ¬ (a2 = 0 ∨ a2 = 2) := fun h => h.elim c_24 c_30
          refine lv_lload_n hx hb dX2_onesOfSort_37 rfl (lv_at hl 3 rfl) ?_
          refine lv_ldc2 (v := (-1)) hx hb hown hw1 dX2_onesOfSort_38 ?_
          refine lv_lxor hx hb dX2_onesOfSort_41 ?_
          refine lv_lstore (lv' := [(8, .long _), (6, .long _), (0, .ref (ad 0)), (1, .long a0), (3, .long a1), (5, .int a2)]) hx hb dX2_onesOfSort_42 hl (by decide) rfl (fun ls hl => ?_)
          refine lv_lload hx hb dX2_onesOfSort_44 (lv_at hl 1 rfl) ?_
          refine lv_lload hx hb dX2_onesOfSort_46 (lv_at hl 0 rfl) ?_
          refine lv_land hx hb dX2_onesOfSort_48 ?_
          refine lv_aload_n hx hb dX2_onesOfSort_49 rfl (lv_at hl 2 rfl) ?_
          refine va_get (D := (dC, dI)) (ci := 2) (C := RX2) (T := TX2) (N := 10) hx hb hts inX2 hown hK hP 0 rfl rfl 0 (by decide) hw0 (fun _ h9 => h9) rfl dX2_onesOfSort_50 ?_
          refine va_getN (D := (dC, dI)) (ci := 1) (C := RX1) (T := TX1) (N := 2) hx hb hts inX1 hown hK hP 1 rfl rfl 0 (by decide) (hnw.use 1 rfl) (fun _ h9 => h9) rfl dX2_onesOfSort_53 ?_
          refine ro_l (va_runS ⟨hx, hb, hml, hown, hts⟩ (c_X2_lowBits l ) (va_cwS 1 hts gX2_onesOfSort_X2_lowBits rfl rfl rfl kd_X2_lowBits ⟨Nat.le_of_ble_eq_true rfl, Nat.le_of_ble_eq_true rfl⟩) preS0 rfl rfl hl.1 rfl (lv_room (Nat.le_of_ble_eq_true rfl)) dX2_onesOfSort_56 ⟨Nat.zero_le _, Nat.zero_le _⟩) ?_
          refine lv_land hx hb dX2_onesOfSort_59 ?_
          refine ro_i (va_runS ⟨hx, hb, hml, hown, hts⟩ (c_J13_bitCount_95d88 l ) (va_cwS 1 hts gX2_onesOfSort_J13_bitCount_95d88 rfl rfl rfl kd_J13_bitCount_95d88 ⟨Nat.le_of_ble_eq_true rfl, Nat.le_of_ble_eq_true rfl⟩) preS0 rfl rfl hl.1 rfl (lv_room (Nat.le_of_ble_eq_true rfl)) dX2_onesOfSort_60 ⟨Nat.zero_le _, Nat.zero_le _⟩) ?_
          exact W.iret hx hb hr (fun t ht _ => ri (by unfold f_sort; first | rw [if_pos hs1, if_pos hs2] | rw [if_pos hs1, if_neg hs2] | rw [if_neg hs1, if_pos hs2] | rw [if_neg hs1, if_neg hs2]) ht) no_locs dX2_onesOfSort_63
        · skip
          have hs2 : a2 = 0 ∨ a2 = 2 := Or.inr c_30
          refine lv_lload_n hx hb dX2_onesOfSort_33 rfl (lv_at hl 3 rfl) ?_
          refine lv_goto (tgt := 42) hx hb dX2_onesOfSort_34 (by decide) ?_
          refine lv_lstore (lv' := [(8, .long _), (6, .long _), (0, .ref (ad 0)), (1, .long a0), (3, .long a1), (5, .int a2)]) hx hb dX2_onesOfSort_42 hl (by decide) rfl (fun ls hl => ?_)
          refine lv_lload hx hb dX2_onesOfSort_44 (lv_at hl 1 rfl) ?_
          refine lv_lload hx hb dX2_onesOfSort_46 (lv_at hl 0 rfl) ?_
          refine lv_land hx hb dX2_onesOfSort_48 ?_
          refine lv_aload_n hx hb dX2_onesOfSort_49 rfl (lv_at hl 2 rfl) ?_
          refine va_get (D := (dC, dI)) (ci := 2) (C := RX2) (T := TX2) (N := 10) hx hb hts inX2 hown hK hP 0 rfl rfl 0 (by decide) hw0 (fun _ h9 => h9) rfl dX2_onesOfSort_50 ?_
          refine va_getN (D := (dC, dI)) (ci := 1) (C := RX1) (T := TX1) (N := 2) hx hb hts inX1 hown hK hP 1 rfl rfl 0 (by decide) (hnw.use 1 rfl) (fun _ h9 => h9) rfl dX2_onesOfSort_53 ?_
          refine ro_l (va_runS ⟨hx, hb, hml, hown, hts⟩ (c_X2_lowBits l ) (va_cwS 1 hts gX2_onesOfSort_X2_lowBits rfl rfl rfl kd_X2_lowBits ⟨Nat.le_of_ble_eq_true rfl, Nat.le_of_ble_eq_true rfl⟩) preS0 rfl rfl hl.1 rfl (lv_room (Nat.le_of_ble_eq_true rfl)) dX2_onesOfSort_56 ⟨Nat.zero_le _, Nat.zero_le _⟩) ?_
          refine lv_land hx hb dX2_onesOfSort_59 ?_
          refine ro_i (va_runS ⟨hx, hb, hml, hown, hts⟩ (c_J13_bitCount_95d88 l ) (va_cwS 1 hts gX2_onesOfSort_J13_bitCount_95d88 rfl rfl rfl kd_J13_bitCount_95d88 ⟨Nat.le_of_ble_eq_true rfl, Nat.le_of_ble_eq_true rfl⟩) preS0 rfl rfl hl.1 rfl (lv_room (Nat.le_of_ble_eq_true rfl)) dX2_onesOfSort_60 ⟨Nat.zero_le _, Nat.zero_le _⟩) ?_
          exact W.iret hx hb hr (fun t ht _ => ri (by unfold f_sort; first | rw [if_pos hs1, if_pos hs2] | rw [if_pos hs1, if_neg hs2] | rw [if_neg hs1, if_pos hs2] | rw [if_neg hs1, if_neg hs2]) ht) no_locs dX2_onesOfSort_63
    · skip
      have hs1 : a2 = 0 ∨ a2 = 1 := Or.inr c_8
      refine lv_lload_n hx hb dX2_onesOfSort_11 rfl (lv_at hl 1 rfl) ?_
      refine lv_goto (tgt := 20) hx hb dX2_onesOfSort_12 (by decide) ?_
      refine lv_lstore (lv' := [(6, .long _), (0, .ref (ad 0)), (1, .long a0), (3, .long a1), (5, .int a2)]) hx hb dX2_onesOfSort_20 hl (by decide) rfl (fun ls hl => ?_)
      refine lv_iload hx hb dX2_onesOfSort_22 (lv_at hl 4 rfl) ?_
      refine lv_if_eq (tgt := 33) hx hb dX2_onesOfSort_24 (by decide) (fun c_24 => ?_) (fun c_24 => ?_)
      · skip
        have hs2 : a2 = 0 ∨ a2 = 2 := Or.inl c_24
        refine lv_lload_n hx hb dX2_onesOfSort_33 rfl (lv_at hl 3 rfl) ?_
        refine lv_goto (tgt := 42) hx hb dX2_onesOfSort_34 (by decide) ?_
        refine lv_lstore (lv' := [(8, .long _), (6, .long _), (0, .ref (ad 0)), (1, .long a0), (3, .long a1), (5, .int a2)]) hx hb dX2_onesOfSort_42 hl (by decide) rfl (fun ls hl => ?_)
        refine lv_lload hx hb dX2_onesOfSort_44 (lv_at hl 1 rfl) ?_
        refine lv_lload hx hb dX2_onesOfSort_46 (lv_at hl 0 rfl) ?_
        refine lv_land hx hb dX2_onesOfSort_48 ?_
        refine lv_aload_n hx hb dX2_onesOfSort_49 rfl (lv_at hl 2 rfl) ?_
        refine va_get (D := (dC, dI)) (ci := 2) (C := RX2) (T := TX2) (N := 10) hx hb hts inX2 hown hK hP 0 rfl rfl 0 (by decide) hw0 (fun _ h9 => h9) rfl dX2_onesOfSort_50 ?_
        refine va_getN (D := (dC, dI)) (ci := 1) (C := RX1) (T := TX1) (N := 2) hx hb hts inX1 hown hK hP 1 rfl rfl 0 (by decide) (hnw.use 1 rfl) (fun _ h9 => h9) rfl dX2_onesOfSort_53 ?_
        refine ro_l (va_runS ⟨hx, hb, hml, hown, hts⟩ (c_X2_lowBits l ) (va_cwS 1 hts gX2_onesOfSort_X2_lowBits rfl rfl rfl kd_X2_lowBits ⟨Nat.le_of_ble_eq_true rfl, Nat.le_of_ble_eq_true rfl⟩) preS0 rfl rfl hl.1 rfl (lv_room (Nat.le_of_ble_eq_true rfl)) dX2_onesOfSort_56 ⟨Nat.zero_le _, Nat.zero_le _⟩) ?_
        refine lv_land hx hb dX2_onesOfSort_59 ?_
        refine ro_i (va_runS ⟨hx, hb, hml, hown, hts⟩ (c_J13_bitCount_95d88 l ) (va_cwS 1 hts gX2_onesOfSort_J13_bitCount_95d88 rfl rfl rfl kd_J13_bitCount_95d88 ⟨Nat.le_of_ble_eq_true rfl, Nat.le_of_ble_eq_true rfl⟩) preS0 rfl rfl hl.1 rfl (lv_room (Nat.le_of_ble_eq_true rfl)) dX2_onesOfSort_60 ⟨Nat.zero_le _, Nat.zero_le _⟩) ?_
        exact W.iret hx hb hr (fun t ht _ => ri (by unfold f_sort; first | rw [if_pos hs1, if_pos hs2] | rw [if_pos hs1, if_neg hs2] | rw [if_neg hs1, if_pos hs2] | rw [if_neg hs1, if_neg hs2]) ht) no_locs dX2_onesOfSort_63
      · skip
        refine lv_iload hx hb dX2_onesOfSort_27 (lv_at hl 4 rfl) ?_
        refine lv_iconst (v := 2) hx hb dX2_onesOfSort_29 (by decide) ?_
        refine lv_icmp_ne (tgt := 37) hx hb dX2_onesOfSort_30 (by decide) (fun c_30 => ?_) (fun c_30 => ?_)
        · skip
          have hs2 : ¬ (a2 = 0 ∨ a2 = 2) := fun h => h.elim c_24 c_30
          refine lv_lload_n hx hb dX2_onesOfSort_37 rfl (lv_at hl 3 rfl) ?_
          refine lv_ldc2 (v := (-1)) hx hb hown hw1 dX2_onesOfSort_38 ?_
          refine lv_lxor hx hb dX2_onesOfSort_41 ?_
          refine lv_lstore (lv' := [(8, .long _), (6, .long _), (0, .ref (ad 0)), (1, .long a0), (3, .long a1), (5, .int a2)]) hx hb dX2_onesOfSort_42 hl (by decide) rfl (fun ls hl => ?_)
          refine lv_lload hx hb dX2_onesOfSort_44 (lv_at hl 1 rfl) ?_
          refine lv_lload hx hb dX2_onesOfSort_46 (lv_at hl 0 rfl) ?_
          refine lv_land hx hb dX2_onesOfSort_48 ?_
          refine lv_aload_n hx hb dX2_onesOfSort_49 rfl (lv_at hl 2 rfl) ?_
          refine va_get (D := (dC, dI)) (ci := 2) (C := RX2) (T := TX2) (N := 10) hx hb hts inX2 hown hK hP 0 rfl rfl 0 (by decide) hw0 (fun _ h9 => h9) rfl dX2_onesOfSort_50 ?_
          refine va_getN (D := (dC, dI)) (ci := 1) (C := RX1) (T := TX1) (N := 2) hx hb hts inX1 hown hK hP 1 rfl rfl 0 (by decide) (hnw.use 1 rfl) (fun _ h9 => h9) rfl dX2_onesOfSort_53 ?_
          refine ro_l (va_runS ⟨hx, hb, hml, hown, hts⟩ (c_X2_lowBits l ) (va_cwS 1 hts gX2_onesOfSort_X2_lowBits rfl rfl rfl kd_X2_lowBits ⟨Nat.le_of_ble_eq_true rfl, Nat.le_of_ble_eq_true rfl⟩) preS0 rfl rfl hl.1 rfl (lv_room (Nat.le_of_ble_eq_true rfl)) dX2_onesOfSort_56 ⟨Nat.zero_le _, Nat.zero_le _⟩) ?_
          refine lv_land hx hb dX2_onesOfSort_59 ?_
          refine ro_i (va_runS ⟨hx, hb, hml, hown, hts⟩ (c_J13_bitCount_95d88 l ) (va_cwS 1 hts gX2_onesOfSort_J13_bitCount_95d88 rfl rfl rfl kd_J13_bitCount_95d88 ⟨Nat.le_of_ble_eq_true rfl, Nat.le_of_ble_eq_true rfl⟩) preS0 rfl rfl hl.1 rfl (lv_room (Nat.le_of_ble_eq_true rfl)) dX2_onesOfSort_60 ⟨Nat.zero_le _, Nat.zero_le _⟩) ?_
          exact W.iret hx hb hr (fun t ht _ => ri (by unfold f_sort; first | rw [if_pos hs1, if_pos hs2] | rw [if_pos hs1, if_neg hs2] | rw [if_neg hs1, if_pos hs2] | rw [if_neg hs1, if_neg hs2]) ht) no_locs dX2_onesOfSort_63
        · skip
          have hs2 : a2 = 0 ∨ a2 = 2 := Or.inr c_30
          refine lv_lload_n hx hb dX2_onesOfSort_33 rfl (lv_at hl 3 rfl) ?_
          refine lv_goto (tgt := 42) hx hb dX2_onesOfSort_34 (by decide) ?_
          refine lv_lstore (lv' := [(8, .long _), (6, .long _), (0, .ref (ad 0)), (1, .long a0), (3, .long a1), (5, .int a2)]) hx hb dX2_onesOfSort_42 hl (by decide) rfl (fun ls hl => ?_)
          refine lv_lload hx hb dX2_onesOfSort_44 (lv_at hl 1 rfl) ?_
          refine lv_lload hx hb dX2_onesOfSort_46 (lv_at hl 0 rfl) ?_
          refine lv_land hx hb dX2_onesOfSort_48 ?_
          refine lv_aload_n hx hb dX2_onesOfSort_49 rfl (lv_at hl 2 rfl) ?_
          refine va_get (D := (dC, dI)) (ci := 2) (C := RX2) (T := TX2) (N := 10) hx hb hts inX2 hown hK hP 0 rfl rfl 0 (by decide) hw0 (fun _ h9 => h9) rfl dX2_onesOfSort_50 ?_
          refine va_getN (D := (dC, dI)) (ci := 1) (C := RX1) (T := TX1) (N := 2) hx hb hts inX1 hown hK hP 1 rfl rfl 0 (by decide) (hnw.use 1 rfl) (fun _ h9 => h9) rfl dX2_onesOfSort_53 ?_
          refine ro_l (va_runS ⟨hx, hb, hml, hown, hts⟩ (c_X2_lowBits l ) (va_cwS 1 hts gX2_onesOfSort_X2_lowBits rfl rfl rfl kd_X2_lowBits ⟨Nat.le_of_ble_eq_true rfl, Nat.le_of_ble_eq_true rfl⟩) preS0 rfl rfl hl.1 rfl (lv_room (Nat.le_of_ble_eq_true rfl)) dX2_onesOfSort_56 ⟨Nat.zero_le _, Nat.zero_le _⟩) ?_
          refine lv_land hx hb dX2_onesOfSort_59 ?_
          refine ro_i (va_runS ⟨hx, hb, hml, hown, hts⟩ (c_J13_bitCount_95d88 l ) (va_cwS 1 hts gX2_onesOfSort_J13_bitCount_95d88 rfl rfl rfl kd_J13_bitCount_95d88 ⟨Nat.le_of_ble_eq_true rfl, Nat.le_of_ble_eq_true rfl⟩) preS0 rfl rfl hl.1 rfl (lv_room (Nat.le_of_ble_eq_true rfl)) dX2_onesOfSort_60 ⟨Nat.zero_le _, Nat.zero_le _⟩) ?_
          exact W.iret hx hb hr (fun t ht _ => ri (by unfold f_sort; first | rw [if_pos hs1, if_pos hs2] | rw [if_pos hs1, if_neg hs2] | rw [if_neg hs1, if_pos hs2] | rw [if_neg hs1, if_neg hs2]) ht) no_locs dX2_onesOfSort_63
theorem kd_X2_dueOnes : yX2_dueOnes.cls ≠ "java/lang/invoke/MethodHandle" ∧ yX2_dueOnes.cls ≠ "java/lang/invoke/VarHandle" ∧ (parseMethodDescriptor yX2_dueOnes.desc).map (fun d => d.parameters.length) = some 3 := by decide +kernel
set_option maxHeartbeats 4000000 in
set_option maxRecDepth 100000 in
theorem c_X2_dueOnes (l : Launch) {dC : Nat → ClassId} {dI : Nat → Nat → Nat} {ad : Nat → Nat} {cI cJ : ClassId} {ln : Int32} {fg : Int32} {dg : Int32} {sc : Int32} {ms : Int32} {mi : Int32} {mv : Int32} {mw : Int32} {st : (Nat → Int64)} {fr : (Nat → Int64)} {sr : (Nat → Int64)} {pa : (Nat → Int64)} {nu : (Nat → Int32)} {a0 a1 a2 : Int32} : Met l yX2_dueOnes wsX2_dueOnes ({ frames := 0, cells := 0, slots := 0, locals := 0 }) (va_Pc ([.ref (ad 0), .int a0, .int a1, .int a2] : List Value) (gB (dC, dI) (tyw cI cJ) (xw ad cI cJ ln fg dg sc ms mi mv mw st fr sr pa nu))) (QcRead (f_due ln a0 a1 a2)) 0 0 (fun _ => False) := by
  refine Met.ofW (cc := cX2_dueOnes) (maxL := 5) (ret := (some .int)) (by decide) rfl ?_
  intro p e s m args below meth c s₁ B hml hv
  obtain ⟨rfl, hnw, hK, hP⟩ := hv
  have hx := B.exec
  have hb := B.bytes
  have hr := B.returns
  have hts := atoms_spec (ws := wsX2_dueOnes) B.pre
  have hown : s.vm.findClass RX2 = some m.cls := findClass_of_methodNamed B.named
  have hlocks := B.notSynchronized
  have hw0 := hts (.fieldLink RX2 10 "BitStreams" "rows" "LBitStreams$Rows;") (by decide +kernel)
  have inX1 : ∀ w ∈ wsX10, w ∈ wsX2_dueOnes := by decide +kernel
  have inX2 : ∀ w ∈ wsX20, w ∈ wsX2_dueOnes := by decide +kernel
  have hl := lv_entry ([.ref (ad 0), .int a0, .int a1, .int a2] : List Value) (n := 5) (Nat.le_of_ble_eq_true rfl)
  rw [lg_entry_eq]
  generalize (lg_sl ([.ref (ad 0), .int a0, .int a1, .int a2] : List Value) ++ List.replicate (5 - (lg_sl ([.ref (ad 0), .int a0, .int a1, .int a2] : List Value)).length) Slot.unset).toArray = ls at hl ⊢
  have hl : lv_has ls 5 [(0, .ref (ad 0)), (1, .int a0), (2, .int a1), (3, .int a2)] := hl
  refine lv_aload_n hx hb dX2_dueOnes_0 rfl (lv_at hl 0 rfl) ?_
  refine va_get (D := (dC, dI)) (ci := 2) (C := RX2) (T := TX2) (N := 10) hx hb hts inX2 hown hK hP 0 rfl rfl 0 (by decide) hw0 (fun _ h9 => h9) rfl dX2_dueOnes_1 ?_
  refine va_getN (D := (dC, dI)) (ci := 1) (C := RX1) (T := TX1) (N := 2) hx hb hts inX1 hown hK hP 1 rfl rfl 0 (by decide) (hnw.use 1 rfl) (fun _ h9 => h9) rfl dX2_dueOnes_4 ?_
  refine lv_istore (lv' := [(4, .int _), (0, .ref (ad 0)), (1, .int a0), (2, .int a1), (3, .int a2)]) hx hb dX2_dueOnes_7 hl (by decide) rfl (fun ls hl => ?_)
  refine lv_iload_n hx hb dX2_dueOnes_9 rfl (lv_at hl 2 rfl) ?_
  refine lv_topi (fun z_10 e_10 => ?_)
  by_cases n_10_0 : z_10 = 0
  · subst n_10_0
    refine lv_tableIn (off := 26) (tgt := 36) hx hb dX2_dueOnes_10 (by decide) (by decide) (by decide) (by decide) ?_
    refine lv_iload_n hx hb dX2_dueOnes_36 rfl (lv_at hl 3 rfl) ?_
    refine lv_iload_n hx hb dX2_dueOnes_37 rfl (lv_at hl 4 rfl) ?_
    refine lv_imul hx hb dX2_dueOnes_38 ?_
    exact W.iret hx hb hr (fun t ht _ => ri (by rw [← e_10]; first | rfl | (unfold f_due; rw [if_neg n_10_0, if_neg n_10_1, if_neg n_10_2])) ht) no_locs dX2_dueOnes_39
  by_cases n_10_1 : z_10 = 1
  · subst n_10_1
    refine lv_tableIn (off := 30) (tgt := 40) hx hb dX2_dueOnes_10 (by decide) (by decide) (by decide) (by decide) ?_
    refine lv_iload hx hb dX2_dueOnes_40 (lv_at hl 0 rfl) ?_
    refine lv_iload_n hx hb dX2_dueOnes_42 rfl (lv_at hl 3 rfl) ?_
    refine lv_iload_n hx hb dX2_dueOnes_43 rfl (lv_at hl 4 rfl) ?_
    refine lv_iadd hx hb dX2_dueOnes_44 ?_
    refine lv_imul hx hb dX2_dueOnes_45 ?_
    refine lv_iload_n hx hb dX2_dueOnes_46 rfl (lv_at hl 3 rfl) ?_
    refine lv_iload_n hx hb dX2_dueOnes_47 rfl (lv_at hl 4 rfl) ?_
    refine lv_imul hx hb dX2_dueOnes_48 ?_
    refine lv_isub hx hb dX2_dueOnes_49 ?_
    exact W.iret hx hb hr (fun t ht _ => ri (by rw [← e_10]; first | rfl | (unfold f_due; rw [if_neg n_10_0, if_neg n_10_1, if_neg n_10_2])) ht) no_locs dX2_dueOnes_50
  by_cases n_10_2 : z_10 = 2
  · subst n_10_2
    refine lv_tableIn (off := 41) (tgt := 51) hx hb dX2_dueOnes_10 (by decide) (by decide) (by decide) (by decide) ?_
    refine lv_iload hx hb dX2_dueOnes_51 (lv_at hl 0 rfl) ?_
    refine lv_iload_n hx hb dX2_dueOnes_53 rfl (lv_at hl 3 rfl) ?_
    refine lv_iload_n hx hb dX2_dueOnes_54 rfl (lv_at hl 4 rfl) ?_
    refine lv_iadd hx hb dX2_dueOnes_55 ?_
    refine lv_imul hx hb dX2_dueOnes_56 ?_
    refine lv_iconst (v := 2) hx hb dX2_dueOnes_57 (by decide) ?_
    refine lv_iload_n hx hb dX2_dueOnes_58 rfl (lv_at hl 3 rfl) ?_
    refine lv_imul hx hb dX2_dueOnes_59 ?_
    refine lv_iload_n hx hb dX2_dueOnes_60 rfl (lv_at hl 4 rfl) ?_
    refine lv_imul hx hb dX2_dueOnes_61 ?_
    refine lv_isub hx hb dX2_dueOnes_62 ?_
    exact W.iret hx hb hr (fun t ht _ => ri (by rw [← e_10]; first | rfl | (unfold f_due; rw [if_neg n_10_0, if_neg n_10_1, if_neg n_10_2])) ht) no_locs dX2_dueOnes_63
  have nb_10 : z_10.toInt < 0 ∨ 2 < z_10.toInt := by
    have q0 := lv_neT (a := 0) n_10_0 (by decide)
    have q1 := lv_neT (a := 1) n_10_1 (by decide)
    have q2 := lv_neT (a := 2) n_10_2 (by decide)
    omega
  refine lv_tableOut (tgt := 64) hx hb dX2_dueOnes_10 nb_10 (by decide) ?_
  refine lv_iload hx hb dX2_dueOnes_64 (lv_at hl 0 rfl) ?_
  refine lv_iload hx hb dX2_dueOnes_66 (lv_at hl 0 rfl) ?_
  refine lv_imul hx hb dX2_dueOnes_68 ?_
  refine lv_iload hx hb dX2_dueOnes_69 (lv_at hl 0 rfl) ?_
  refine lv_iload_n hx hb dX2_dueOnes_71 rfl (lv_at hl 3 rfl) ?_
  refine lv_iload_n hx hb dX2_dueOnes_72 rfl (lv_at hl 4 rfl) ?_
  refine lv_iadd hx hb dX2_dueOnes_73 ?_
  refine lv_imul hx hb dX2_dueOnes_74 ?_
  refine lv_iconst (v := 2) hx hb dX2_dueOnes_75 (by decide) ?_
  refine lv_iload_n hx hb dX2_dueOnes_76 rfl (lv_at hl 3 rfl) ?_
  refine lv_imul hx hb dX2_dueOnes_77 ?_
  refine lv_iload_n hx hb dX2_dueOnes_78 rfl (lv_at hl 4 rfl) ?_
  refine lv_imul hx hb dX2_dueOnes_79 ?_
  refine lv_isub hx hb dX2_dueOnes_80 ?_
  refine lv_isub hx hb dX2_dueOnes_81 ?_
  exact W.iret hx hb hr (fun t ht _ => ri (by rw [← e_10]; first | rfl | (unfold f_due; rw [if_neg n_10_0, if_neg n_10_1, if_neg n_10_2])) ht) no_locs dX2_dueOnes_82
theorem kd_X1_setLength : yX1_setLength.cls ≠ "java/lang/invoke/MethodHandle" ∧ yX1_setLength.cls ≠ "java/lang/invoke/VarHandle" ∧ (parseMethodDescriptor yX1_setLength.desc).map (fun d => d.parameters.length) = some 1 := by decide +kernel
set_option maxHeartbeats 4000000 in
set_option maxRecDepth 100000 in
theorem c_X1_setLength (l : Launch) {dC : Nat → ClassId} {dI : Nat → Nat → Nat} {ad : Nat → Nat} {cI cJ : ClassId} {ln : Int32} {fg : Int32} {dg : Int32} {sc : Int32} {ms : Int32} {mi : Int32} {mv : Int32} {mw : Int32} {st : (Nat → Int64)} {fr : (Nat → Int64)} {sr : (Nat → Int64)} {pa : (Nat → Int64)} {nu : (Nat → Int32)} {sz : Nat} {a0 : Int32} : Met l yX1_setLength wsX1_setLength ({ frames := 1, cells := 0, slots := 0, locals := 20 }) (va_Pc ([.ref (ad 1), .int a0] : List Value) (gW sz (dC, dI) (tyw cI cJ) (xw ad cI cJ ln fg dg sc ms mi mv mw st fr sr pa nu))) (va_Qv (fun _u : Unit => True) (fun _u t => va_P (dC, dI) vwCl (xw ad cI cJ a0 (f_bci (a0 - 1)) dg sc ms mi mv mw st fr sr pa nu) t.heap) (va_A (xw ad cI cJ ln fg dg sc ms mi mv mw st fr sr pa nu) sz)) 0 0 (va_A (xw ad cI cJ ln fg dg sc ms mi mv mw st fr sr pa nu) sz) := by
  refine Met.ofW (cc := cX1_setLength) (maxL := 2) (ret := none) (by decide) rfl ?_
  intro p e s m args below meth c s₁ B hml hv
  obtain ⟨rfl, hsz, ⟨hnw, hK, hP⟩, hD0⟩ := hv
  have hx := B.exec
  have hb := B.bytes
  have hr := B.returns
  have hts := atoms_spec (ws := wsX1_setLength) B.pre
  have hown : s.vm.findClass RX1 = some m.cls := findClass_of_methodNamed B.named
  have hlocks := B.notSynchronized
  subst hsz
  have hD := hD0.self (sz := s.heap.size)
  generalize hAe : va_A (xw ad cI cJ ln fg dg sc ms mi mv mw st fr sr pa nu) s.heap.size = A at hD ⊢
  have hA : ∀ q : Nat, s.heap.size ≤ q → A q := fun q h => by rw [← hAe]; exact Or.inr h
  have hS : va_S A s.heap s.heap [] := va_S.rf
  have hw0 := hts (.fieldLink RX1 9 "BitStreams$Rows" "length" "I") (by decide +kernel)
  have hw1 := hts (.fieldLink RX1 21 "BitStreams$Rows" "figures" "I") (by decide +kernel)
  have inX1 : ∀ w ∈ wsX10, w ∈ wsX1_setLength := by decide +kernel
  have hl := lv_entry ([.ref (ad 1), .int a0] : List Value) (n := 2) (Nat.le_of_ble_eq_true rfl)
  rw [lg_entry_eq]
  generalize (lg_sl ([.ref (ad 1), .int a0] : List Value) ++ List.replicate (2 - (lg_sl ([.ref (ad 1), .int a0] : List Value)).length) Slot.unset).toArray = ls at hl ⊢
  have hl : lv_has ls 2 [(0, .ref (ad 1)), (1, .int a0)] := hl
  refine lv_aload_n hx hb dX1_setLength_0 rfl (lv_at hl 0 rfl) ?_
  refine lv_iload_n hx hb dX1_setLength_1 rfl (lv_at hl 1 rfl) ?_
  refine va_put (D := (dC, dI)) (ci := 1) (ty := .int) (C := RX1) (T := TX1) (N := 2) hx hb hts inX1 tyX1 tyX1_ok nmX1 hown hK hP hD hS 1 rfl rfl 0 (by decide) hw0 (fun _ h9 => h9) rfl (by decide +kernel) rfl rfl (Nat.le_of_ble_eq_true rfl) dX1_setLength_2 (fun H locs hP hD hS => ?_)
  have hP : va_P (dC, dI) vwCl (xw ad cI cJ _ fg dg sc ms mi mv mw st fr sr pa nu) H := hP
  have hD : va_D A (xw ad cI cJ _ fg dg sc ms mi mv mw st fr sr pa nu) := va_D_addr hD rfl
  refine lv_aload_n hx hb dX1_setLength_5 rfl (lv_at hl 0 rfl) ?_
  refine lv_iload_n hx hb dX1_setLength_6 rfl (lv_at hl 1 rfl) ?_
  refine lv_iconst (v := 1) hx hb dX1_setLength_7 (by decide) ?_
  refine lv_isub hx hb dX1_setLength_8 ?_
  refine ro_i (va_runS ⟨hx, hb, hml, hown, hts⟩ (c_J6_bitCount_0f7a4 l ) (va_cwS 1 hts gX1_setLength_J6_bitCount_0f7a4 rfl rfl rfl kd_J6_bitCount_0f7a4 ⟨Nat.le_of_ble_eq_true rfl, Nat.le_of_ble_eq_true rfl⟩) preS0 rfl rfl hl.1 rfl (lv_room (Nat.le_of_ble_eq_true rfl)) dX1_setLength_9 ⟨Nat.zero_le _, Nat.zero_le _⟩) ?_
  refine va_put (D := (dC, dI)) (ci := 1) (ty := .int) (C := RX1) (T := TX1) (N := 2) hx hb hts inX1 tyX1 tyX1_ok nmX1 hown hK hP hD hS 1 rfl rfl 1 (by decide) hw1 (fun _ h9 => h9) rfl (by decide +kernel) rfl rfl (Nat.le_of_ble_eq_true rfl) dX1_setLength_12 (fun H locs hP hD hS => ?_)
  have hP : va_P (dC, dI) vwCl (xw ad cI cJ _ _ dg sc ms mi mv mw st fr sr pa nu) H := hP
  have hD : va_D A (xw ad cI cJ _ _ dg sc ms mi mv mw st fr sr pa nu) := va_D_addr hD rfl
  exact W.vret hx hb hr (fun t ht _ => ⟨⟨(), rfl, trivial, wpost ht hP⟩, hS.F ht⟩) hS.2.2 dX1_setLength_15
theorem kd_X0_setDegree : yX0_setDegree.cls ≠ "java/lang/invoke/MethodHandle" ∧ yX0_setDegree.cls ≠ "java/lang/invoke/VarHandle" ∧ (parseMethodDescriptor yX0_setDegree.desc).map (fun d => d.parameters.length) = some 2 := by decide +kernel
set_option maxHeartbeats 4000000 in
set_option maxRecDepth 100000 in
theorem c_X0_setDegree (l : Launch) {dC : Nat → ClassId} {dI : Nat → Nat → Nat} {ad : Nat → Nat} {cI cJ : ClassId} {ln : Int32} {fg : Int32} {dg : Int32} {sc : Int32} {ms : Int32} {mi : Int32} {mv : Int32} {mw : Int32} {st : (Nat → Int64)} {fr : (Nat → Int64)} {sr : (Nat → Int64)} {pa : (Nat → Int64)} {nu : (Nat → Int32)} {sz : Nat} {a1 : Int32} {d : Nat} (hd : d ≤ 4) : Met l yX0_setDegree wsX0_setDegree ({ frames := 0, cells := 0, slots := 0, locals := 0 }) (va_Pc ([.ref (ad 2), .int (nI d), .int a1] : List Value) (gW sz (dC, dI) (tyw cI cJ) (xw ad cI cJ ln fg dg sc ms mi mv mw st fr sr pa nu))) (va_Qv (fun u : (Nat → Int32) => ∀ i, u i = if d < i ∧ i < 5 then 0 else nu i) (fun u t => va_P (dC, dI) vwCl (xw ad cI cJ ln fg (nI d) a1 ms mi mv mw st fr sr pa u) t.heap) (va_A (xw ad cI cJ ln fg dg sc ms mi mv mw st fr sr pa nu) sz)) 0 0 (va_A (xw ad cI cJ ln fg dg sc ms mi mv mw st fr sr pa nu) sz) := by
  refine Met.ofW (cc := cX0_setDegree) (maxL := 4) (ret := none) (by decide) rfl ?_
  intro p e s m args below meth c s₁ B hml hv
  obtain ⟨rfl, hsz, ⟨hnw, hK, hP⟩, hD0⟩ := hv
  have hx := B.exec
  have hb := B.bytes
  have hr := B.returns
  have hts := atoms_spec (ws := wsX0_setDegree) B.pre
  have hown : s.vm.findClass RX0 = some m.cls := findClass_of_methodNamed B.named
  have hlocks := B.notSynchronized
  subst hsz
  have hD := hD0.self (sz := s.heap.size)
  generalize hAe : va_A (xw ad cI cJ ln fg dg sc ms mi mv mw st fr sr pa nu) s.heap.size = A at hD ⊢
  have hA : ∀ q : Nat, s.heap.size ≤ q → A q := fun q h => by rw [← hAe]; exact Or.inr h
  have hS : va_S A s.heap s.heap [] := va_S.rf
  have hw0 := hts (.fieldLink RX0 15 "BitStreams$Form" "degree" "I") (by decide +kernel)
  have hw1 := hts (.fieldLink RX0 19 "BitStreams$Form" "scale" "I") (by decide +kernel)
  have hw2 := hts (.fieldLink RX0 9 "BitStreams$Form" "numbers" "[I") (by decide +kernel)
  have inX0 : ∀ w ∈ wsX00, w ∈ wsX0_setDegree := by decide +kernel
  have hl := lv_entry ([.ref (ad 2), .int (nI d), .int a1] : List Value) (n := 4) (Nat.le_of_ble_eq_true rfl)
  rw [lg_entry_eq]
  generalize (lg_sl ([.ref (ad 2), .int (nI d), .int a1] : List Value) ++ List.replicate (4 - (lg_sl ([.ref (ad 2), .int (nI d), .int a1] : List Value)).length) Slot.unset).toArray = ls at hl ⊢
  have hl : lv_has ls 4 [(0, .ref (ad 2)), (1, .int (nI d)), (2, .int a1)] := hl
  refine lv_aload_n hx hb dX0_setDegree_0 rfl (lv_at hl 0 rfl) ?_
  refine lv_iload_n hx hb dX0_setDegree_1 rfl (lv_at hl 1 rfl) ?_
  refine va_put (D := (dC, dI)) (ci := 0) (ty := .int) (C := RX0) (T := TX0) (N := 3) hx hb hts inX0 tyX0 tyX0_ok nmX0 hown hK hP hD hS 2 rfl rfl 1 (by decide) hw0 (fun _ h9 => h9) rfl (by decide +kernel) rfl rfl (Nat.le_of_ble_eq_true rfl) dX0_setDegree_2 (fun H locs hP hD hS => ?_)
  have hP : va_P (dC, dI) vwCl (xw ad cI cJ ln fg (nI d) sc ms mi mv mw st fr sr pa nu) H := hP
  have hD : va_D A (xw ad cI cJ ln fg (nI d) sc ms mi mv mw st fr sr pa nu) := va_D_addr hD rfl
  refine lv_aload_n hx hb dX0_setDegree_5 rfl (lv_at hl 0 rfl) ?_
  refine lv_iload_n hx hb dX0_setDegree_6 rfl (lv_at hl 2 rfl) ?_
  refine va_put (D := (dC, dI)) (ci := 0) (ty := .int) (C := RX0) (T := TX0) (N := 3) hx hb hts inX0 tyX0 tyX0_ok nmX0 hown hK hP hD hS 2 rfl rfl 2 (by decide) hw1 (fun _ h9 => h9) rfl (by decide +kernel) rfl rfl (Nat.le_of_ble_eq_true rfl) dX0_setDegree_7 (fun H locs hP hD hS => ?_)
  have hP : va_P (dC, dI) vwCl (xw ad cI cJ ln fg (nI d) a1 ms mi mv mw st fr sr pa nu) H := hP
  have hD : va_D A (xw ad cI cJ ln fg (nI d) a1 ms mi mv mw st fr sr pa nu) := va_D_addr hD rfl
  refine lv_iload_n hx hb dX0_setDegree_10 rfl (lv_at hl 1 rfl) ?_
  refine lv_iconst (v := 1) hx hb dX0_setDegree_11 (by decide) ?_
  refine lv_iadd hx hb dX0_setDegree_12 ?_
  refine st_i (v := nI (d + 1)) (nI_1 _) ?_
  refine lv_istore_n (lv' := [(3, .int _), (0, .ref (ad 2)), (1, .int (nI d)), (2, .int a1)]) hx hb dX0_setDegree_13 rfl hl (by decide) rfl (fun ls hl => ?_)
  have L14 : ∀ (n14 : Nat) (k : Nat) (u : Nat → Int32), 6 ≤ k + n14 → (k ≤ 5) → (d + 1 ≤ k) → (∀ i, u i = if d < i ∧ i < k then 0 else nu i) → ∀ (H : Heap) (locs : List Loc), va_P (dC, dI) vwCl (xw ad cI cJ ln fg (nI d) a1 ms mi mv mw st fr sr pa u) H → va_S A s.heap H locs → ∀ (ls : Array Slot), lv_has ls 4 [(0, .ref (ad 2)), (1, .int (nI d)), (2, .int a1), (3, .int (nI k))] → W p l e { frames := 0, cells := 0, slots := 0, locals := 0 } s m ([.ref (ad 2), .int (nI d), .int a1] : List Value).toArray below meth c H locs 0 0 (MQ below (va_Qv (fun u : (Nat → Int32) => ∀ i, u i = if d < i ∧ i < 5 then 0 else nu i) (fun u t => va_P (dC, dI) vwCl (xw ad cI cJ ln fg (nI d) a1 ms mi mv mw st fr sr pa u) t.heap) A) ([.ref (ad 2), .int (nI d), .int a1] : List Value).toArray s 0 0 (A)) (F0 m 14 ls []) := by
    intro n14
    induction n14 with
    | zero =>
      intro k u hf14 hk hk0 hu
      exact absurd hf14 (by omega)
    | succ n14 ih14 =>
      intro k u hf14 hk hk0 hu H locs hP hS ls hl
      have hD : va_D A (xw ad cI cJ ln fg (nI d) a1 ms mi mv mw st fr sr pa u) := va_D_addr hD rfl
      refine lv_iload_n hx hb dX0_setDegree_14 rfl (lv_at hl 3 rfl) ?_
      refine lv_iconst (v := 4) hx hb dX0_setDegree_15 (by decide) ?_
      refine lv_icmp_gt (tgt := 32) hx hb dX0_setDegree_16 (by decide) (fun c_16 => ?_) (fun c_16 => ?_)
      · skip
        have hz : k = 5 := nI_nlt_end (k := k) (n := 4) (by omega) (by omega) c_16
        exact W.vret hx hb hr (fun t ht _ => ⟨⟨u, rfl, (by rw [← hz]; exact hu), wpost ht hP⟩, hS.F ht⟩) hS.2.2 dX0_setDegree_32
      · skip
        have hz : k ≤ 4 := nI_nlt_go (k := k) (n := 4) (by omega) (by omega) c_16
        refine lv_aload_n hx hb dX0_setDegree_19 rfl (lv_at hl 0 rfl) ?_
        refine va_get (D := (dC, dI)) (ci := 0) (C := RX0) (T := TX0) (N := 3) hx hb hts inX0 hown hK hP 2 rfl rfl 0 (by decide) hw2 (fun _ h9 => h9) rfl dX0_setDegree_20 ?_
        refine lv_iload_n hx hb dX0_setDegree_23 rfl (lv_at hl 3 rfl) ?_
        refine lv_iconst (v := 0) hx hb dX0_setDegree_24 (by decide) ?_
        refine va_iast hx hb hK hP hD hS 7 0 rfl rfl (vp_in_nI (by omega) (by omega)) dX0_setDegree_25 (fun H locs hP hD hS => ?_)
        have hP : va_P (dC, dI) vwCl (xw ad cI cJ ln fg (nI d) a1 ms mi mv mw st fr sr pa _) H := hP
        have hD : va_D A (xw ad cI cJ ln fg (nI d) a1 ms mi mv mw st fr sr pa _) := va_D_addr hD rfl
        refine lv_iinc (lv' := [(3, .int (nI (k + 1))), (0, .ref (ad 2)), (1, .int (nI d)), (2, .int a1)]) hx hb dX0_setDegree_26 hl (k := 3) rfl (nI_1 _) (by decide) rfl (fun ls hl => ?_)
        refine lv_goto (tgt := 14) hx hb dX0_setDegree_29 (by decide) ?_
        exact ih14 (k + 1) _ (by omega) (by omega) (by omega) (fun i => by rw [nI_cl (by omega)]; exact sd_step (by omega) hu i) _ _ hP hS ls (lv_sub hl [1, 2, 3, 0] rfl)
  exact L14 6 (d + 1) nu (by omega) (by omega) (by omega) (fun i => by rw [if_neg (by omega)]) _ _ hP hS ls (lv_sub hl [1, 2, 3, 0] rfl)
theorem kd_X2_setStream : yX2_setStream.cls ≠ "java/lang/invoke/MethodHandle" ∧ yX2_setStream.cls ≠ "java/lang/invoke/VarHandle" ∧ (parseMethodDescriptor yX2_setStream.desc).map (fun d => d.parameters.length) = some 2 := by decide +kernel
set_option maxHeartbeats 4000000 in
set_option maxRecDepth 100000 in
theorem c_X2_setStream (l : Launch) {dC : Nat → ClassId} {dI : Nat → Nat → Nat} {ad : Nat → Nat} {cI cJ : ClassId} {ln : Int32} {fg : Int32} {dg : Int32} {sc : Int32} {ms : Int32} {mi : Int32} {mv : Int32} {mw : Int32} {st : (Nat → Int64)} {fr : (Nat → Int64)} {sr : (Nat → Int64)} {pa : (Nat → Int64)} {nu : (Nat → Int32)} {sz : Nat} {a0 : Int32} {a1 : Int64} (ht : vp_in a0 12) : Met l yX2_setStream wsX2_setStream ({ frames := 1, cells := 0, slots := 0, locals := 21 }) (va_Pc ([.ref (ad 0), .int a0, .long a1] : List Value) (gW sz (dC, dI) (tyw cI cJ) (xw ad cI cJ ln fg dg sc ms mi mv mw st fr sr pa nu))) (va_Qi (fun r (_u : Unit) => r = f_bc (a1 &&& f_low ln)) (fun _u t => va_P (dC, dI) vwCl (xw ad cI cJ ln fg dg sc ms mi mv mw (vp_updL st a0.toNatClampNeg (a1 &&& f_low ln)) fr sr pa nu) t.heap) (va_A (xw ad cI cJ ln fg dg sc ms mi mv mw st fr sr pa nu) sz)) 0 0 (va_A (xw ad cI cJ ln fg dg sc ms mi mv mw st fr sr pa nu) sz) := by
  refine Met.ofW (cc := cX2_setStream) (maxL := 4) (ret := (some .int)) (by decide) rfl ?_
  intro p e s m args below meth c s₁ B hml hv
  obtain ⟨rfl, hsz, ⟨hnw, hK, hP⟩, hD0⟩ := hv
  have hx := B.exec
  have hb := B.bytes
  have hr := B.returns
  have hts := atoms_spec (ws := wsX2_setStream) B.pre
  have hown : s.vm.findClass RX2 = some m.cls := findClass_of_methodNamed B.named
  have hlocks := B.notSynchronized
  subst hsz
  have hD := hD0.self (sz := s.heap.size)
  generalize hAe : va_A (xw ad cI cJ ln fg dg sc ms mi mv mw st fr sr pa nu) s.heap.size = A at hD ⊢
  have hA : ∀ q : Nat, s.heap.size ≤ q → A q := fun q h => by rw [← hAe]; exact Or.inr h
  have hS : va_S A s.heap s.heap [] := va_S.rf
  have hw0 := hts (.fieldLink RX2 23 "BitStreams" "streams" "[J") (by decide +kernel)
  have hw1 := hts (.fieldLink RX2 10 "BitStreams" "rows" "LBitStreams$Rows;") (by decide +kernel)
  have inX1 : ∀ w ∈ wsX10, w ∈ wsX2_setStream := by decide +kernel
  have inX2 : ∀ w ∈ wsX20, w ∈ wsX2_setStream := by decide +kernel
  have hl := lv_entry ([.ref (ad 0), .int a0, .long a1] : List Value) (n := 4) (Nat.le_of_ble_eq_true rfl)
  rw [lg_entry_eq]
  generalize (lg_sl ([.ref (ad 0), .int a0, .long a1] : List Value) ++ List.replicate (4 - (lg_sl ([.ref (ad 0), .int a0, .long a1] : List Value)).length) Slot.unset).toArray = ls at hl ⊢
  have hl : lv_has ls 4 [(0, .ref (ad 0)), (1, .int a0), (2, .long a1)] := hl
  refine lv_aload_n hx hb dX2_setStream_0 rfl (lv_at hl 0 rfl) ?_
  refine va_get (D := (dC, dI)) (ci := 2) (C := RX2) (T := TX2) (N := 10) hx hb hts inX2 hown hK hP 0 rfl rfl 2 (by decide) hw0 (fun _ h9 => h9) rfl dX2_setStream_1 ?_
  refine lv_iload_n hx hb dX2_setStream_4 rfl (lv_at hl 1 rfl) ?_
  refine lv_lload_n hx hb dX2_setStream_5 rfl (lv_at hl 2 rfl) ?_
  refine lv_aload_n hx hb dX2_setStream_6 rfl (lv_at hl 0 rfl) ?_
  refine va_get (D := (dC, dI)) (ci := 2) (C := RX2) (T := TX2) (N := 10) hx hb hts inX2 hown hK hP 0 rfl rfl 0 (by decide) hw1 (fun _ h9 => h9) rfl dX2_setStream_7 ?_
  refine va_getN (D := (dC, dI)) (ci := 1) (C := RX1) (T := TX1) (N := 2) hx hb hts inX1 hown hK hP 1 rfl rfl 0 (by decide) (hnw.use 1 rfl) (fun _ h9 => h9) rfl dX2_setStream_10 ?_
  refine ro_l (va_runS ⟨hx, hb, hml, hown, hts⟩ (c_X2_lowBits l ) (va_cwS 1 hts gX2_setStream_X2_lowBits rfl rfl rfl kd_X2_lowBits ⟨Nat.le_of_ble_eq_true rfl, Nat.le_of_ble_eq_true rfl⟩) preS0 rfl rfl hl.1 rfl (lv_room (Nat.le_of_ble_eq_true rfl)) dX2_setStream_13 ⟨Nat.zero_le _, Nat.zero_le _⟩) ?_
  refine lv_land hx hb dX2_setStream_16 ?_
  refine va_last hx hb hK hP hD hS 3 1 rfl rfl (ht) dX2_setStream_17 (fun H locs hP hD hS => ?_)
  have hP : va_P (dC, dI) vwCl (xw ad cI cJ ln fg dg sc ms mi mv mw _ fr sr pa nu) H := hP
  have hD : va_D A (xw ad cI cJ ln fg dg sc ms mi mv mw _ fr sr pa nu) := va_D_addr hD rfl
  refine lv_aload_n hx hb dX2_setStream_18 rfl (lv_at hl 0 rfl) ?_
  refine va_get (D := (dC, dI)) (ci := 2) (C := RX2) (T := TX2) (N := 10) hx hb hts inX2 hown hK hP 0 rfl rfl 2 (by decide) hw0 (fun _ h9 => h9) rfl dX2_setStream_19 ?_
  refine lv_iload_n hx hb dX2_setStream_22 rfl (lv_at hl 1 rfl) ?_
  refine va_lald hx hb hK hP 3 1 rfl rfl (ht) dX2_setStream_23 ?_
  refine st_l (v := a1 &&& f_low ln) (pk_uLs) ?_
  refine ro_i (va_runS ⟨hx, hb, hml, hown, hts⟩ (c_J13_bitCount_95d88 l ) (va_cwS 1 hts gX2_setStream_J13_bitCount_95d88 rfl rfl rfl kd_J13_bitCount_95d88 ⟨Nat.le_of_ble_eq_true rfl, Nat.le_of_ble_eq_true rfl⟩) preS0 rfl rfl hl.1 rfl (lv_room (Nat.le_of_ble_eq_true rfl)) dX2_setStream_24 ⟨Nat.zero_le _, Nat.zero_le _⟩) ?_
  exact W.iret hx hb hr (fun t ht _ => ⟨⟨_, (), rfl, rfl, wpost ht hP⟩, hS.F ht⟩) hS.2.2 dX2_setStream_27
theorem kd_X2_ranThrough : yX2_ranThrough.cls ≠ "java/lang/invoke/MethodHandle" ∧ yX2_ranThrough.cls ≠ "java/lang/invoke/VarHandle" ∧ (parseMethodDescriptor yX2_ranThrough.desc).map (fun d => d.parameters.length) = some 2 := by decide +kernel
set_option maxHeartbeats 4000000 in
set_option maxRecDepth 100000 in
theorem c_X2_ranThrough (l : Launch) {dC : Nat → ClassId} {dI : Nat → Nat → Nat} {ad : Nat → Nat} {cI cJ : ClassId} {ln : Int32} {fg : Int32} {dg : Int32} {sc : Int32} {ms : Int32} {mi : Int32} {mv : Int32} {mw : Int32} {st : (Nat → Int64)} {fr : (Nat → Int64)} {sr : (Nat → Int64)} {pa : (Nat → Int64)} {nu : (Nat → Int32)} {sz : Nat} {a0 : Int64} {a1 : Int32} : Met l yX2_ranThrough wsX2_ranThrough ({ frames := 1, cells := 0, slots := 0, locals := 23 }) (va_Pc ([.ref (ad 0), .long a0, .int a1] : List Value) (gW sz (dC, dI) (tyw cI cJ) (xw ad cI cJ ln fg dg sc ms mi mv mw st fr sr pa nu))) (va_Ql (fun r (_u : Unit) => r = f_mrow a0 a1 ln.toNatClampNeg) (fun _u t => va_P (dC, dI) vwCl (xw ad cI cJ ln fg dg sc (f_mst a0 a1 ln.toNatClampNeg) mi mv mw st fr sr pa nu) t.heap) (va_A (xw ad cI cJ ln fg dg sc ms mi mv mw st fr sr pa nu) sz)) 0 0 (va_A (xw ad cI cJ ln fg dg sc ms mi mv mw st fr sr pa nu) sz) := by
  refine Met.ofW (cc := cX2_ranThrough) (maxL := 8) (ret := (some .long)) (by decide) rfl ?_
  intro p e s m args below meth c s₁ B hml hv
  obtain ⟨rfl, hsz, ⟨hnw, hK, hP⟩, hD0⟩ := hv
  have hx := B.exec
  have hb := B.bytes
  have hr := B.returns
  have hts := atoms_spec (ws := wsX2_ranThrough) B.pre
  have hown : s.vm.findClass RX2 = some m.cls := findClass_of_methodNamed B.named
  have hlocks := B.notSynchronized
  subst hsz
  have hD := hD0.self (sz := s.heap.size)
  generalize hAe : va_A (xw ad cI cJ ln fg dg sc ms mi mv mw st fr sr pa nu) s.heap.size = A at hD ⊢
  have hA : ∀ q : Nat, s.heap.size ≤ q → A q := fun q h => by rw [← hAe]; exact Or.inr h
  have hS : va_S A s.heap s.heap [] := va_S.rf
  have hw0 := hts (.fieldLink RX2 10 "BitStreams" "rows" "LBitStreams$Rows;") (by decide +kernel)
  have hw1 := hts (.fieldLink RX2 36 "BitStreams" "machineState" "I") (by decide +kernel)
  have hw2 := hts (.methodLink RX2 116 Lib.Math.max.name) (by decide +kernel)
  have hw3 := hts (.static Lib.Math.max.name) (by decide +kernel)
  have hw4 := hts (.initialized "java/lang/Math") (by decide +kernel)
  have hw5 := hts (.code Lib.Math.max.name Lib.Math.max.code 2 (some .int)) (by decide +kernel)
  have hw6 := hts (.methodLink RX2 110 Lib.Math.min.name) (by decide +kernel)
  have hw7 := hts (.static Lib.Math.min.name) (by decide +kernel)
  have hw8 := hts (.code Lib.Math.min.name Lib.Math.min.code 2 (some .int)) (by decide +kernel)
  have inX1 : ∀ w ∈ wsX10, w ∈ wsX2_ranThrough := by decide +kernel
  have inX2 : ∀ w ∈ wsX20, w ∈ wsX2_ranThrough := by decide +kernel
  have hl := lv_entry ([.ref (ad 0), .long a0, .int a1] : List Value) (n := 8) (Nat.le_of_ble_eq_true rfl)
  rw [lg_entry_eq]
  generalize (lg_sl ([.ref (ad 0), .long a0, .int a1] : List Value) ++ List.replicate (8 - (lg_sl ([.ref (ad 0), .long a0, .int a1] : List Value)).length) Slot.unset).toArray = ls at hl ⊢
  have hl : lv_has ls 8 [(0, .ref (ad 0)), (1, .long a0), (3, .int a1)] := hl
  refine lv_iload_n hx hb dX2_ranThrough_0 rfl (lv_at hl 2 rfl) ?_
  refine lv_iconst (v := 2) hx hb dX2_ranThrough_1 (by decide) ?_
  refine lv_idiv hx hb dX2_ranThrough_2 (by decide) ?_
  refine lv_iconst (v := 1) hx hb dX2_ranThrough_3 (by decide) ?_
  refine lv_isub hx hb dX2_ranThrough_4 ?_
  refine lv_istore (lv' := [(4, .int _), (0, .ref (ad 0)), (1, .long a0), (3, .int a1)]) hx hb dX2_ranThrough_5 hl (by decide) rfl (fun ls hl => ?_)
  refine lv_lconst (v := 0) hx hb dX2_ranThrough_7 (by decide) ?_
  refine lv_lstore (lv' := [(5, .long _), (4, .int _), (0, .ref (ad 0)), (1, .long a0), (3, .int a1)]) hx hb dX2_ranThrough_8 hl (by decide) rfl (fun ls hl => ?_)
  refine lv_iconst (v := 0) hx hb dX2_ranThrough_10 (by decide) ?_
  refine lv_istore (lv' := [(7, .int _), (5, .long _), (4, .int _), (0, .ref (ad 0)), (1, .long a0), (3, .int a1)]) hx hb dX2_ranThrough_11 hl (by decide) rfl (fun ls hl => ?_)
  have L13 : ∀ (n13 : Nat) (k : Nat) (now : Int32) (own : Int64), ln.toNatClampNeg + 1 ≤ k + n13 → (k ≤ ln.toNatClampNeg) → (now = f_mst a0 a1 k) → (own = f_mrow a0 a1 k) → ∀ (H : Heap) (locs : List Loc), va_P (dC, dI) vwCl (xw ad cI cJ ln fg dg sc ms mi mv mw st fr sr pa nu) H → va_S A s.heap H locs → ∀ (ls : Array Slot), lv_has ls 8 [(0, .ref (ad 0)), (1, .long a0), (3, .int a1), (4, .int now), (5, .long own), (7, .int (nI k))] → W p l e { frames := 1, cells := 0, slots := 0, locals := 23 } s m ([.ref (ad 0), .long a0, .int a1] : List Value).toArray below meth c H locs 0 0 (MQ below (va_Ql (fun r (_u : Unit) => r = f_mrow a0 a1 ln.toNatClampNeg) (fun _u t => va_P (dC, dI) vwCl (xw ad cI cJ ln fg dg sc (f_mst a0 a1 ln.toNatClampNeg) mi mv mw st fr sr pa nu) t.heap) A) ([.ref (ad 0), .long a0, .int a1] : List Value).toArray s 0 0 (A)) (F0 m 13 ls []) := by
    intro n13
    induction n13 with
    | zero =>
      intro k now own hf13 hk hnow hwn
      exact absurd hf13 (by omega)
    | succ n13 ih13 =>
      intro k now own hf13 hk hnow hwn H locs hP hS ls hl
      have hD : va_D A (xw ad cI cJ ln fg dg sc ms mi mv mw st fr sr pa nu) := va_D_addr hD rfl
      refine lv_iload hx hb dX2_ranThrough_13 (lv_at hl 5 rfl) ?_
      refine lv_aload_n hx hb dX2_ranThrough_15 rfl (lv_at hl 0 rfl) ?_
      refine va_get (D := (dC, dI)) (ci := 2) (C := RX2) (T := TX2) (N := 10) hx hb hts inX2 hown hK hP 0 rfl rfl 0 (by decide) hw0 (fun _ h9 => h9) rfl dX2_ranThrough_16 ?_
      refine va_getN (D := (dC, dI)) (ci := 1) (C := RX1) (T := TX1) (N := 2) hx hb hts inX1 hown hK hP 1 rfl rfl 0 (by decide) (hnw.use 1 rfl) (fun _ h9 => h9) rfl dX2_ranThrough_19 ?_
      refine lv_icmp_ge (tgt := 82) hx hb dX2_ranThrough_22 (by decide) (fun c_22 => ?_) (fun c_22 => ?_)
      · skip
        have hz := cl_end hk c_22
        refine lv_aload_n hx hb dX2_ranThrough_82 rfl (lv_at hl 0 rfl) ?_
        refine lv_iload hx hb dX2_ranThrough_83 (lv_at hl 3 rfl) ?_
        refine st_i (v := f_mst a0 a1 ln.toNatClampNeg) (by rw [hz]; exact hnow) ?_
        refine va_put (D := (dC, dI)) (ci := 2) (ty := .int) (C := RX2) (T := TX2) (N := 10) hx hb hts inX2 tyX2 tyX2_ok nmX2 hown hK hP hD hS 0 rfl rfl 6 (by decide) hw1 (fun _ h9 => h9) rfl (by decide +kernel) rfl rfl (Nat.le_of_ble_eq_true rfl) dX2_ranThrough_85 (fun H locs hP hD hS => ?_)
        have hP : va_P (dC, dI) vwCl (xw ad cI cJ ln fg dg sc (f_mst a0 a1 ln.toNatClampNeg) mi mv mw st fr sr pa nu) H := hP
        have hD : va_D A (xw ad cI cJ ln fg dg sc (f_mst a0 a1 ln.toNatClampNeg) mi mv mw st fr sr pa nu) := va_D_addr hD rfl
        refine lv_lload hx hb dX2_ranThrough_88 (lv_at hl 4 rfl) ?_
        exact W.lret hx hb hr (fun t ht _ => ⟨⟨_, (), rfl, (by rw [hz]; exact hwn), wpost ht hP⟩, hS.F ht⟩) hS.2.2 dX2_ranThrough_90
      · skip
        refine lv_lload_n hx hb dX2_ranThrough_25 rfl (lv_at hl 1 rfl) ?_
        refine lv_iload hx hb dX2_ranThrough_26 (lv_at hl 5 rfl) ?_
        refine ro_i (va_runS ⟨hx, hb, hml, hown, hts⟩ (c_X2_bitOf l ) (va_cwS 2 hts gX2_ranThrough_X2_bitOf rfl rfl rfl kd_X2_bitOf ⟨Nat.le_of_ble_eq_true rfl, Nat.le_of_ble_eq_true rfl⟩) preS0 rfl rfl hl.1 rfl (lv_room (Nat.le_of_ble_eq_true rfl)) dX2_ranThrough_28 ⟨Nat.zero_le _, Nat.zero_le _⟩) ?_
        refine lv_iconst (v := 1) hx hb dX2_ranThrough_31 (by decide) ?_
        refine lv_icmp_ne (tgt := 48) hx hb dX2_ranThrough_32 (by decide) (fun c_32 => ?_) (fun c_32 => ?_)
        · skip
          refine lv_iload hx hb dX2_ranThrough_48 (lv_at hl 3 rfl) ?_
          refine lv_iconst (v := 1) hx hb dX2_ranThrough_50 (by decide) ?_
          refine lv_isub hx hb dX2_ranThrough_51 ?_
          refine lv_iconst (v := 0) hx hb dX2_ranThrough_52 (by decide) ?_
          refine va_mmax hx hb (by rw [hml]; exact hl.1.symm) hown hw2 hw3 hw4 hw5 (Nat.le_of_ble_eq_true rfl) (Nat.le_of_ble_eq_true rfl) (Nat.zero_le _) (Nat.zero_le _) dX2_ranThrough_53 ?_
          refine lv_topi (fun now1 en => ?_)
          have hn1 : now1 = f_mst a0 a1 (k + 1) := by rw [en, f_mst, hnow]; first | (rw [if_pos c_32]) | (rw [if_neg c_32])
          refine lv_istore (lv' := [(4, .int _), (0, .ref (ad 0)), (1, .long a0), (3, .int a1), (5, .long own), (7, .int (nI k))]) hx hb dX2_ranThrough_56 hl (by decide) rfl (fun ls hl => ?_)
          refine lv_iload hx hb dX2_ranThrough_58 (lv_at hl 0 rfl) ?_
          refine lv_iload_n hx hb dX2_ranThrough_60 rfl (lv_at hl 3 rfl) ?_
          refine ro_i (va_runS ⟨hx, hb, hml, hown, hts⟩ (c_X2_isUpper l ) (va_cwS 2 hts gX2_ranThrough_X2_isUpper rfl rfl rfl kd_X2_isUpper ⟨Nat.le_of_ble_eq_true rfl, Nat.le_of_ble_eq_true rfl⟩) preS0 rfl rfl hl.1 rfl (lv_room (Nat.le_of_ble_eq_true rfl)) dX2_ranThrough_61 ⟨Nat.zero_le _, Nat.zero_le _⟩) ?_
          refine lv_if_eq (tgt := 76) hx hb dX2_ranThrough_64 (by decide) (fun c_64 => ?_) (fun c_64 => ?_)
          · skip
            have c_64 := bI_eq.mp c_64
            refine lv_iinc (lv' := [(7, .int (nI (k + 1))), (4, .int _), (0, .ref (ad 0)), (1, .long a0), (3, .int a1), (5, .long own)]) hx hb dX2_ranThrough_76 hl (k := 5) rfl (nI_1 _) (by decide) rfl (fun ls hl => ?_)
            refine lv_goto (tgt := 13) hx hb dX2_ranThrough_79 (by decide) ?_
            exact ih13 (k + 1) _ _ (by have := cl_go hk c_22; omega) (cl_go hk c_22) hn1 (by rw [f_mrow, ← hn1]; first | (rw [if_pos c_64, hwn]; rfl) | (rw [if_neg c_64]; exact hwn)) _ _ hP hS ls (lv_sub hl [2, 3, 4, 1, 5, 0] rfl)
          · skip
            have c_64 := bI_ne.mp c_64
            refine lv_lload hx hb dX2_ranThrough_67 (lv_at hl 4 rfl) ?_
            refine lv_lconst (v := 1) hx hb dX2_ranThrough_69 (by decide) ?_
            refine lv_iload hx hb dX2_ranThrough_70 (lv_at hl 5 rfl) ?_
            refine lv_lshl hx hb dX2_ranThrough_72 rfl ?_
            refine lv_lor hx hb dX2_ranThrough_73 ?_
            refine lv_lstore (lv' := [(5, .long _), (4, .int _), (0, .ref (ad 0)), (1, .long a0), (3, .int a1), (7, .int (nI k))]) hx hb dX2_ranThrough_74 hl (by decide) rfl (fun ls hl => ?_)
            refine lv_iinc (lv' := [(7, .int (nI (k + 1))), (5, .long _), (4, .int _), (0, .ref (ad 0)), (1, .long a0), (3, .int a1)]) hx hb dX2_ranThrough_76 hl (k := 5) rfl (nI_1 _) (by decide) rfl (fun ls hl => ?_)
            refine lv_goto (tgt := 13) hx hb dX2_ranThrough_79 (by decide) ?_
            exact ih13 (k + 1) _ _ (by have := cl_go hk c_22; omega) (cl_go hk c_22) hn1 (by rw [f_mrow, ← hn1]; first | (rw [if_pos c_64, hwn]; rfl) | (rw [if_neg c_64]; exact hwn)) _ _ hP hS ls (lv_sub hl [3, 4, 5, 2, 1, 0] rfl)
        · skip
          refine lv_iload hx hb dX2_ranThrough_35 (lv_at hl 3 rfl) ?_
          refine lv_iconst (v := 1) hx hb dX2_ranThrough_37 (by decide) ?_
          refine lv_iadd hx hb dX2_ranThrough_38 ?_
          refine lv_iload_n hx hb dX2_ranThrough_39 rfl (lv_at hl 2 rfl) ?_
          refine lv_iconst (v := 1) hx hb dX2_ranThrough_40 (by decide) ?_
          refine lv_isub hx hb dX2_ranThrough_41 ?_
          refine va_mmin hx hb (by rw [hml]; exact hl.1.symm) hown hw6 hw7 hw4 hw8 (Nat.le_of_ble_eq_true rfl) (Nat.le_of_ble_eq_true rfl) (Nat.zero_le _) (Nat.zero_le _) dX2_ranThrough_42 ?_
          refine lv_goto (tgt := 56) hx hb dX2_ranThrough_45 (by decide) ?_
          refine lv_topi (fun now1 en => ?_)
          have hn1 : now1 = f_mst a0 a1 (k + 1) := by rw [en, f_mst, hnow]; first | (rw [if_pos c_32]) | (rw [if_neg c_32])
          refine lv_istore (lv' := [(4, .int _), (0, .ref (ad 0)), (1, .long a0), (3, .int a1), (5, .long own), (7, .int (nI k))]) hx hb dX2_ranThrough_56 hl (by decide) rfl (fun ls hl => ?_)
          refine lv_iload hx hb dX2_ranThrough_58 (lv_at hl 0 rfl) ?_
          refine lv_iload_n hx hb dX2_ranThrough_60 rfl (lv_at hl 3 rfl) ?_
          refine ro_i (va_runS ⟨hx, hb, hml, hown, hts⟩ (c_X2_isUpper l ) (va_cwS 2 hts gX2_ranThrough_X2_isUpper rfl rfl rfl kd_X2_isUpper ⟨Nat.le_of_ble_eq_true rfl, Nat.le_of_ble_eq_true rfl⟩) preS0 rfl rfl hl.1 rfl (lv_room (Nat.le_of_ble_eq_true rfl)) dX2_ranThrough_61 ⟨Nat.zero_le _, Nat.zero_le _⟩) ?_
          refine lv_if_eq (tgt := 76) hx hb dX2_ranThrough_64 (by decide) (fun c_64 => ?_) (fun c_64 => ?_)
          · skip
            have c_64 := bI_eq.mp c_64
            refine lv_iinc (lv' := [(7, .int (nI (k + 1))), (4, .int _), (0, .ref (ad 0)), (1, .long a0), (3, .int a1), (5, .long own)]) hx hb dX2_ranThrough_76 hl (k := 5) rfl (nI_1 _) (by decide) rfl (fun ls hl => ?_)
            refine lv_goto (tgt := 13) hx hb dX2_ranThrough_79 (by decide) ?_
            exact ih13 (k + 1) _ _ (by have := cl_go hk c_22; omega) (cl_go hk c_22) hn1 (by rw [f_mrow, ← hn1]; first | (rw [if_pos c_64, hwn]; rfl) | (rw [if_neg c_64]; exact hwn)) _ _ hP hS ls (lv_sub hl [2, 3, 4, 1, 5, 0] rfl)
          · skip
            have c_64 := bI_ne.mp c_64
            refine lv_lload hx hb dX2_ranThrough_67 (lv_at hl 4 rfl) ?_
            refine lv_lconst (v := 1) hx hb dX2_ranThrough_69 (by decide) ?_
            refine lv_iload hx hb dX2_ranThrough_70 (lv_at hl 5 rfl) ?_
            refine lv_lshl hx hb dX2_ranThrough_72 rfl ?_
            refine lv_lor hx hb dX2_ranThrough_73 ?_
            refine lv_lstore (lv' := [(5, .long _), (4, .int _), (0, .ref (ad 0)), (1, .long a0), (3, .int a1), (7, .int (nI k))]) hx hb dX2_ranThrough_74 hl (by decide) rfl (fun ls hl => ?_)
            refine lv_iinc (lv' := [(7, .int (nI (k + 1))), (5, .long _), (4, .int _), (0, .ref (ad 0)), (1, .long a0), (3, .int a1)]) hx hb dX2_ranThrough_76 hl (k := 5) rfl (nI_1 _) (by decide) rfl (fun ls hl => ?_)
            refine lv_goto (tgt := 13) hx hb dX2_ranThrough_79 (by decide) ?_
            exact ih13 (k + 1) _ _ (by have := cl_go hk c_22; omega) (cl_go hk c_22) hn1 (by rw [f_mrow, ← hn1]; first | (rw [if_pos c_64, hwn]; rfl) | (rw [if_neg c_64]; exact hwn)) _ _ hP hS ls (lv_sub hl [3, 4, 5, 2, 1, 0] rfl)
  exact L13 (ln.toNatClampNeg + 1) 0 _ _ (by omega) (Nat.zero_le _) rfl rfl _ _ hP hS ls (lv_sub hl [3, 4, 5, 2, 1, 0] rfl)
theorem kd_X2_greatestMiss : yX2_greatestMiss.cls ≠ "java/lang/invoke/MethodHandle" ∧ yX2_greatestMiss.cls ≠ "java/lang/invoke/VarHandle" ∧ (parseMethodDescriptor yX2_greatestMiss.desc).map (fun d => d.parameters.length) = some 1 := by decide +kernel
set_option maxHeartbeats 4000000 in
set_option maxRecDepth 100000 in
theorem c_X2_greatestMiss (l : Launch) {dC : Nat → ClassId} {dI : Nat → Nat → Nat} {ad : Nat → Nat} {cI cJ : ClassId} {fg : Int32} {dg : Int32} {sc : Int32} {ms : Int32} {mi : Int32} {mv : Int32} {mw : Int32} {st : (Nat → Int64)} {fr : (Nat → Int64)} {sr : (Nat → Int64)} {pa : (Nat → Int64)} {nu : (Nat → Int32)} {sz : Nat} {a0 : Int32} {n : Nat} (hn : n ≤ 64) : Met l yX2_greatestMiss wsX2_greatestMiss ({ frames := 1, cells := 0, slots := 0, locals := 26 }) (va_Pc ([.ref (ad 0), .int a0] : List Value) (gW sz (dC, dI) (tyw cI cJ) (xw ad cI cJ (nI n) fg dg sc ms mi mv mw st fr sr pa nu))) (va_Qi (fun r (_u : Unit) => r = (f_gm n a0 fr sr mv mw (n + 1) 0).1) (fun _u t => va_P (dC, dI) vwCl (xw ad cI cJ (nI n) fg dg sc ms mi (f_gm n a0 fr sr mv mw (n + 1) 0).2.1 (f_gm n a0 fr sr mv mw (n + 1) 0).2.2 st fr sr pa nu) t.heap) (va_A (xw ad cI cJ (nI n) fg dg sc ms mi mv mw st fr sr pa nu) sz)) 0 0 (va_A (xw ad cI cJ (nI n) fg dg sc ms mi mv mw st fr sr pa nu) sz) := by
  refine Met.ofW (cc := cX2_greatestMiss) (maxL := 11) (ret := (some .int)) (by decide) rfl ?_
  intro p e s m args below meth c s₁ B hml hv
  obtain ⟨rfl, hsz, ⟨hnw, hK, hP⟩, hD0⟩ := hv
  have hx := B.exec
  have hb := B.bytes
  have hr := B.returns
  have hts := atoms_spec (ws := wsX2_greatestMiss) B.pre
  have hown : s.vm.findClass RX2 = some m.cls := findClass_of_methodNamed B.named
  have hlocks := B.notSynchronized
  subst hsz
  have hD := hD0.self (sz := s.heap.size)
  generalize hAe : va_A (xw ad cI cJ (nI n) fg dg sc ms mi mv mw st fr sr pa nu) s.heap.size = A at hD ⊢
  have hA : ∀ q : Nat, s.heap.size ≤ q → A q := fun q h => by rw [← hAe]; exact Or.inr h
  have hS : va_S A s.heap s.heap [] := va_S.rf
  have hw0 := hts (.fieldLink RX2 10 "BitStreams" "rows" "LBitStreams$Rows;") (by decide +kernel)
  have hw1 := hts (.fieldLink RX2 27 "BitStreams" "firstRows" "[J") (by decide +kernel)
  have hw2 := hts (.fieldLink RX2 30 "BitStreams" "secondRows" "[J") (by decide +kernel)
  have hw3 := hts (.methodLink RX2 182 Lib.Math.abs.name) (by decide +kernel)
  have hw4 := hts (.static Lib.Math.abs.name) (by decide +kernel)
  have hw5 := hts (.initialized "java/lang/Math") (by decide +kernel)
  have hw6 := hts (.code Lib.Math.abs.name Lib.Math.abs.code 1 (some .int)) (by decide +kernel)
  have hw7 := hts (.fieldLink RX2 43 "BitStreams" "missV" "I") (by decide +kernel)
  have hw8 := hts (.fieldLink RX2 46 "BitStreams" "missW" "I") (by decide +kernel)
  have inX1 : ∀ w ∈ wsX10, w ∈ wsX2_greatestMiss := by decide +kernel
  have inX2 : ∀ w ∈ wsX20, w ∈ wsX2_greatestMiss := by decide +kernel
  have hl := lv_entry ([.ref (ad 0), .int a0] : List Value) (n := 11) (Nat.le_of_ble_eq_true rfl)
  rw [lg_entry_eq]
  generalize (lg_sl ([.ref (ad 0), .int a0] : List Value) ++ List.replicate (11 - (lg_sl ([.ref (ad 0), .int a0] : List Value)).length) Slot.unset).toArray = ls at hl ⊢
  have hl : lv_has ls 11 [(0, .ref (ad 0)), (1, .int a0)] := hl
  refine lv_aload_n hx hb dX2_greatestMiss_0 rfl (lv_at hl 0 rfl) ?_
  refine va_get (D := (dC, dI)) (ci := 2) (C := RX2) (T := TX2) (N := 10) hx hb hts inX2 hown hK hP 0 rfl rfl 0 (by decide) hw0 (fun _ h9 => h9) rfl dX2_greatestMiss_1 ?_
  refine va_getN (D := (dC, dI)) (ci := 1) (C := RX1) (T := TX1) (N := 2) hx hb hts inX1 hown hK hP 1 rfl rfl 0 (by decide) (hnw.use 1 rfl) (fun _ h9 => h9) rfl dX2_greatestMiss_4 ?_
  refine lv_istore_n (lv' := [(2, .int _), (0, .ref (ad 0)), (1, .int a0)]) hx hb dX2_greatestMiss_7 rfl hl (by decide) rfl (fun ls hl => ?_)
  refine lv_iload_n hx hb dX2_greatestMiss_8 rfl (lv_at hl 0 rfl) ?_
  refine ro_l (va_runS ⟨hx, hb, hml, hown, hts⟩ (c_X2_lowBits l ) (va_cwS 1 hts gX2_greatestMiss_X2_lowBits rfl rfl rfl kd_X2_lowBits ⟨Nat.le_of_ble_eq_true rfl, Nat.le_of_ble_eq_true rfl⟩) preS0 rfl rfl hl.1 rfl (lv_room (Nat.le_of_ble_eq_true rfl)) dX2_greatestMiss_9 ⟨Nat.zero_le _, Nat.zero_le _⟩) ?_
  refine lv_lstore_n (lv' := [(3, .long _), (2, .int _), (0, .ref (ad 0)), (1, .int a0)]) hx hb dX2_greatestMiss_12 rfl hl (by decide) rfl (fun ls hl => ?_)
  refine lv_iconst (v := (-1)) hx hb dX2_greatestMiss_13 (by decide) ?_
  refine lv_istore (lv' := [(5, .int _), (3, .long _), (2, .int _), (0, .ref (ad 0)), (1, .int a0)]) hx hb dX2_greatestMiss_14 hl (by decide) rfl (fun ls hl => ?_)
  refine lv_iconst (v := 0) hx hb dX2_greatestMiss_16 (by decide) ?_
  refine lv_istore (lv' := [(6, .int _), (5, .int _), (3, .long _), (2, .int _), (0, .ref (ad 0)), (1, .int a0)]) hx hb dX2_greatestMiss_17 hl (by decide) rfl (fun ls hl => ?_)
  have L19 : ∀ (n19 : Nat) (v : Nat) (gr xv xw_ : Int32), n + 2 ≤ v + n19 → (v ≤ n + 1) → ((gr, xv, xw_) = f_gm n a0 fr sr mv mw v 0) → ∀ (H : Heap) (locs : List Loc), va_P (dC, dI) vwCl (xw ad cI cJ (nI n) fg dg sc ms mi xv xw_ st fr sr pa nu) H → va_S A s.heap H locs → ∀ (ls : Array Slot), lv_has ls 11 [(0, .ref (ad 0)), (1, .int a0), (2, .int (nI n)), (3, .long (f_low (nI n))), (5, .int gr), (6, .int (nI v))] → W p l e { frames := 1, cells := 0, slots := 0, locals := 26 } s m ([.ref (ad 0), .int a0] : List Value).toArray below meth c H locs 0 0 (MQ below (va_Qi (fun r (_u : Unit) => r = (f_gm n a0 fr sr mv mw (n + 1) 0).1) (fun _u t => va_P (dC, dI) vwCl (xw ad cI cJ (nI n) fg dg sc ms mi (f_gm n a0 fr sr mv mw (n + 1) 0).2.1 (f_gm n a0 fr sr mv mw (n + 1) 0).2.2 st fr sr pa nu) t.heap) A) ([.ref (ad 0), .int a0] : List Value).toArray s 0 0 (A)) (F0 m 19 ls []) := by
    intro n19
    induction n19 with
    | zero =>
      intro v gr xv xw_ hf19 hv hg
      exact absurd hf19 (by omega)
    | succ n19 ih19 =>
      intro v gr xv xw_ hf19 hv hg H locs hP hS ls hl
      have hD : va_D A (xw ad cI cJ (nI n) fg dg sc ms mi xv xw_ st fr sr pa nu) := va_D_addr hD rfl
      refine lv_iload hx hb dX2_greatestMiss_19 (lv_at hl 5 rfl) ?_
      refine lv_iload_n hx hb dX2_greatestMiss_21 rfl (lv_at hl 2 rfl) ?_
      refine lv_icmp_gt (tgt := 114) hx hb dX2_greatestMiss_22 (by decide) (fun c_22 => ?_) (fun c_22 => ?_)
      · skip
        have hz := nI_nlt_end hv (by omega) c_22
        subst hz
        refine lv_iload hx hb dX2_greatestMiss_114 (lv_at hl 4 rfl) ?_
        have e1 : gr = (f_gm n a0 fr sr mv mw (n + 1) 0).1 := by rw [← hg]
        have e2 : xv = (f_gm n a0 fr sr mv mw (n + 1) 0).2.1 := by rw [← hg]
        have e3 : xw_ = (f_gm n a0 fr sr mv mw (n + 1) 0).2.2 := by rw [← hg]
        rw [← e2, ← e3]
        exact W.iret hx hb hr (fun t ht _ => ⟨⟨_, (), rfl, e1, wpost ht hP⟩, hS.F ht⟩) hS.2.2 dX2_greatestMiss_116
      · skip
        have hz := nI_nlt_go hv (by omega) c_22
        refine lv_iconst (v := 0) hx hb dX2_greatestMiss_25 (by decide) ?_
        refine lv_istore (lv' := [(7, .int _), (0, .ref (ad 0)), (1, .int a0), (2, .int (nI n)), (3, .long (f_low (nI n))), (5, .int gr), (6, .int (nI v))]) hx hb dX2_greatestMiss_26 hl (by decide) rfl (fun ls hl => ?_)
        have L28 : ∀ (n28 : Nat) (w : Nat) (gr2 xv2 xw2 : Int32), n + 2 ≤ w + n28 → (w ≤ n + 1) → ((gr2, xv2, xw2) = f_gm n a0 fr sr mv mw v w) → ∀ (H : Heap) (locs : List Loc), va_P (dC, dI) vwCl (xw ad cI cJ (nI n) fg dg sc ms mi xv2 xw2 st fr sr pa nu) H → va_S A s.heap H locs → ∀ (ls : Array Slot), lv_has ls 11 [(0, .ref (ad 0)), (1, .int a0), (2, .int (nI n)), (3, .long (f_low (nI n))), (5, .int gr2), (6, .int (nI v)), (7, .int (nI w))] → W p l e { frames := 1, cells := 0, slots := 0, locals := 26 } s m ([.ref (ad 0), .int a0] : List Value).toArray below meth c H locs 0 0 (MQ below (va_Qi (fun r (_u : Unit) => r = (f_gm n a0 fr sr mv mw (n + 1) 0).1) (fun _u t => va_P (dC, dI) vwCl (xw ad cI cJ (nI n) fg dg sc ms mi (f_gm n a0 fr sr mv mw (n + 1) 0).2.1 (f_gm n a0 fr sr mv mw (n + 1) 0).2.2 st fr sr pa nu) t.heap) A) ([.ref (ad 0), .int a0] : List Value).toArray s 0 0 (A)) (F0 m 28 ls []) := by
          intro n28
          induction n28 with
          | zero =>
            intro w gr2 xv2 xw2 hf28 hw hg2
            exact absurd hf28 (by omega)
          | succ n28 ih28 =>
            intro w gr2 xv2 xw2 hf28 hw hg2 H locs hP hS ls hl
            have hD : va_D A (xw ad cI cJ (nI n) fg dg sc ms mi xv2 xw2 st fr sr pa nu) := va_D_addr hD rfl
            refine lv_iload hx hb dX2_greatestMiss_28 (lv_at hl 6 rfl) ?_
            refine lv_iload_n hx hb dX2_greatestMiss_30 rfl (lv_at hl 2 rfl) ?_
            refine lv_icmp_gt (tgt := 108) hx hb dX2_greatestMiss_31 (by decide) (fun c_31 => ?_) (fun c_31 => ?_)
            · skip
              have hz2 := nI_nlt_end hw (by omega) c_31
              refine lv_iinc (lv' := [(6, .int (nI (v + 1))), (0, .ref (ad 0)), (1, .int a0), (2, .int (nI n)), (3, .long (f_low (nI n))), (5, .int gr2), (7, .int (nI w))]) hx hb dX2_greatestMiss_108 hl (k := 5) rfl (nI_1 _) (by decide) rfl (fun ls hl => ?_)
              refine lv_goto (tgt := 19) hx hb dX2_greatestMiss_111 (by decide) ?_
              exact ih19 (v + 1) _ _ _ (by omega) (by omega) (by rw [hg2, hz2]; exact (f_gm_row n a0 fr sr mv mw v).symm) _ _ hP hS ls (lv_sub hl [1, 2, 3, 4, 5, 0] rfl)
            · skip
              have hz2 := nI_nlt_go hw (by omega) c_31
              refine lv_iload_n hx hb dX2_greatestMiss_34 rfl (lv_at hl 1 rfl) ?_
              refine lv_aload_n hx hb dX2_greatestMiss_35 rfl (lv_at hl 0 rfl) ?_
              refine va_get (D := (dC, dI)) (ci := 2) (C := RX2) (T := TX2) (N := 10) hx hb hts inX2 hown hK hP 0 rfl rfl 3 (by decide) hw1 (fun _ h9 => h9) rfl dX2_greatestMiss_36 ?_
              refine lv_iload hx hb dX2_greatestMiss_39 (lv_at hl 5 rfl) ?_
              refine va_lald hx hb hK hP 4 1 rfl rfl (vp_in_nI (by omega) (by omega)) dX2_greatestMiss_41 ?_
              refine st_l (v := fr v) (by rw [nI_cl (by omega)]) ?_
              refine lv_aload_n hx hb dX2_greatestMiss_42 rfl (lv_at hl 0 rfl) ?_
              refine va_get (D := (dC, dI)) (ci := 2) (C := RX2) (T := TX2) (N := 10) hx hb hts inX2 hown hK hP 0 rfl rfl 4 (by decide) hw2 (fun _ h9 => h9) rfl dX2_greatestMiss_43 ?_
              refine lv_iload hx hb dX2_greatestMiss_46 (lv_at hl 6 rfl) ?_
              refine va_lald hx hb hK hP 5 1 rfl rfl (vp_in_nI (by omega) (by omega)) dX2_greatestMiss_48 ?_
              refine st_l (v := sr w) (by rw [nI_cl (by omega)]) ?_
              refine lv_lconst (v := 0) hx hb dX2_greatestMiss_49 (by decide) ?_
              refine ro_l (va_runS ⟨hx, hb, hml, hown, hts⟩ (c_X2_gated l ) (va_cwS 4 hts gX2_greatestMiss_X2_gated rfl rfl rfl kd_X2_gated ⟨Nat.le_of_ble_eq_true rfl, Nat.le_of_ble_eq_true rfl⟩) preS0 rfl rfl hl.1 rfl (lv_room (Nat.le_of_ble_eq_true rfl)) dX2_greatestMiss_50 ⟨Nat.zero_le _, Nat.zero_le _⟩) ?_
              refine lv_lload_n hx hb dX2_greatestMiss_53 rfl (lv_at hl 3 rfl) ?_
              refine lv_land hx hb dX2_greatestMiss_54 ?_
              refine lv_lstore (lv' := [(8, .long _), (0, .ref (ad 0)), (1, .int a0), (2, .int (nI n)), (3, .long (f_low (nI n))), (5, .int gr2), (6, .int (nI v)), (7, .int (nI w))]) hx hb dX2_greatestMiss_55 hl (by decide) rfl (fun ls hl => ?_)
              refine lv_lload hx hb dX2_greatestMiss_57 (lv_at hl 0 rfl) ?_
              refine ro_i (va_runS ⟨hx, hb, hml, hown, hts⟩ (c_J13_bitCount_95d88 l ) (va_cwS 1 hts gX2_greatestMiss_J13_bitCount_95d88 rfl rfl rfl kd_J13_bitCount_95d88 ⟨Nat.le_of_ble_eq_true rfl, Nat.le_of_ble_eq_true rfl⟩) preS0 rfl rfl hl.1 rfl (lv_room (Nat.le_of_ble_eq_true rfl)) dX2_greatestMiss_59 ⟨Nat.zero_le _, Nat.zero_le _⟩) ?_
              refine lv_iload_n hx hb dX2_greatestMiss_62 rfl (lv_at hl 3 rfl) ?_
              refine lv_imul hx hb dX2_greatestMiss_63 ?_
              refine lv_aload_n hx hb dX2_greatestMiss_64 rfl (lv_at hl 1 rfl) ?_
              refine lv_iload_n hx hb dX2_greatestMiss_65 rfl (lv_at hl 2 rfl) ?_
              refine lv_iload hx hb dX2_greatestMiss_66 (lv_at hl 6 rfl) ?_
              refine lv_iload hx hb dX2_greatestMiss_68 (lv_at hl 7 rfl) ?_
              refine ro_i (va_runV ⟨hx, hb, hml, hown, hts⟩ (c_X2_dueOnes l ) (cwV 3 hts gX2_greatestMiss_X2_dueOnes rfl rfl rfl ⟨rfl, kd_X2_dueOnes⟩ ⟨Nat.le_of_ble_eq_true rfl, Nat.le_of_ble_eq_true rfl⟩) (preV1 hnw hK hP 0 2 rfl rfl) rfl rfl hl.1 rfl (lv_room (Nat.le_of_ble_eq_true rfl)) dX2_greatestMiss_70 ⟨Nat.zero_le _, Nat.zero_le _⟩) ?_
              refine lv_isub hx hb dX2_greatestMiss_73 ?_
              refine va_mabs hx hb (by rw [hml]; exact hl.1.symm) hown hw3 hw4 hw5 hw6 (Nat.le_of_ble_eq_true rfl) (Nat.le_of_ble_eq_true rfl) (Nat.zero_le _) (Nat.zero_le _) dX2_greatestMiss_74 ?_
              refine st_i (v := f_diff n a0 fr sr v w) rfl ?_
              refine lv_istore (lv' := [(10, .int _), (8, .long _), (0, .ref (ad 0)), (1, .int a0), (2, .int (nI n)), (3, .long (f_low (nI n))), (5, .int gr2), (6, .int (nI v)), (7, .int (nI w))]) hx hb dX2_greatestMiss_77 hl (by decide) rfl (fun ls hl => ?_)
              refine lv_iload hx hb dX2_greatestMiss_79 (lv_at hl 0 rfl) ?_
              refine lv_iload hx hb dX2_greatestMiss_81 (lv_at hl 6 rfl) ?_
              refine lv_icmp_le (tgt := 102) hx hb dX2_greatestMiss_83 (by decide) (fun c_83 => ?_) (fun c_83 => ?_)
              · skip
                refine lv_iinc (lv' := [(7, .int (nI (w + 1))), (10, .int _), (8, .long _), (0, .ref (ad 0)), (1, .int a0), (2, .int (nI n)), (3, .long (f_low (nI n))), (5, .int gr2), (6, .int (nI v))]) hx hb dX2_greatestMiss_102 hl (k := 8) rfl (nI_1 _) (by decide) rfl (fun ls hl => ?_)
                refine lv_goto (tgt := 28) hx hb dX2_greatestMiss_105 (by decide) ?_
                exact ih28 (w + 1) _ _ _ (by omega) (by omega) (by rw [f_gm_step (by omega), ← hg2]; unfold f_gms; first | (rw [if_pos c_83]) | (rw [if_neg c_83])) _ _ hP hS ls (lv_sub hl [3, 4, 5, 6, 7, 8, 0] rfl)
              · skip
                refine lv_iload hx hb dX2_greatestMiss_86 (lv_at hl 0 rfl) ?_
                refine lv_istore (lv' := [(5, .int _), (10, .int _), (8, .long _), (0, .ref (ad 0)), (1, .int a0), (2, .int (nI n)), (3, .long (f_low (nI n))), (6, .int (nI v)), (7, .int (nI w))]) hx hb dX2_greatestMiss_88 hl (by decide) rfl (fun ls hl => ?_)
                refine lv_aload_n hx hb dX2_greatestMiss_90 rfl (lv_at hl 3 rfl) ?_
                refine lv_iload hx hb dX2_greatestMiss_91 (lv_at hl 7 rfl) ?_
                refine va_put (D := (dC, dI)) (ci := 2) (ty := .int) (C := RX2) (T := TX2) (N := 10) hx hb hts inX2 tyX2 tyX2_ok nmX2 hown hK hP hD hS 0 rfl rfl 8 (by decide) hw7 (fun _ h9 => h9) rfl (by decide +kernel) rfl rfl (Nat.le_of_ble_eq_true rfl) dX2_greatestMiss_93 (fun H locs hP hD hS => ?_)
                have hP : va_P (dC, dI) vwCl (xw ad cI cJ (nI n) fg dg sc ms mi (nI v) xw2 st fr sr pa nu) H := hP
                have hD : va_D A (xw ad cI cJ (nI n) fg dg sc ms mi (nI v) xw2 st fr sr pa nu) := va_D_addr hD rfl
                refine lv_aload_n hx hb dX2_greatestMiss_96 rfl (lv_at hl 3 rfl) ?_
                refine lv_iload hx hb dX2_greatestMiss_97 (lv_at hl 8 rfl) ?_
                refine va_put (D := (dC, dI)) (ci := 2) (ty := .int) (C := RX2) (T := TX2) (N := 10) hx hb hts inX2 tyX2 tyX2_ok nmX2 hown hK hP hD hS 0 rfl rfl 9 (by decide) hw8 (fun _ h9 => h9) rfl (by decide +kernel) rfl rfl (Nat.le_of_ble_eq_true rfl) dX2_greatestMiss_99 (fun H locs hP hD hS => ?_)
                have hP : va_P (dC, dI) vwCl (xw ad cI cJ (nI n) fg dg sc ms mi (nI v) (nI w) st fr sr pa nu) H := hP
                have hD : va_D A (xw ad cI cJ (nI n) fg dg sc ms mi (nI v) (nI w) st fr sr pa nu) := va_D_addr hD rfl
                refine lv_iinc (lv' := [(7, .int (nI (w + 1))), (5, .int _), (10, .int _), (8, .long _), (0, .ref (ad 0)), (1, .int a0), (2, .int (nI n)), (3, .long (f_low (nI n))), (6, .int (nI v))]) hx hb dX2_greatestMiss_102 hl (k := 8) rfl (nI_1 _) (by decide) rfl (fun ls hl => ?_)
                refine lv_goto (tgt := 28) hx hb dX2_greatestMiss_105 (by decide) ?_
                exact ih28 (w + 1) _ _ _ (by omega) (by omega) (by rw [f_gm_step (by omega), ← hg2]; unfold f_gms; first | (rw [if_pos c_83]) | (rw [if_neg c_83])) _ _ hP hS ls (lv_sub hl [4, 5, 6, 7, 1, 8, 0] rfl)
        exact L28 (n + 2) 0 _ _ _ (by omega) (Nat.zero_le _) hg _ _ hP hS ls (lv_sub hl [1, 2, 3, 4, 5, 6, 0] rfl)
  exact L19 (n + 2) 0 _ _ _ (by omega) (Nat.zero_le _) rfl _ _ hP hS ls (lv_sub hl [4, 5, 3, 2, 1, 0] rfl)
theorem kd_X2_formed : yX2_formed.cls ≠ "java/lang/invoke/MethodHandle" ∧ yX2_formed.cls ≠ "java/lang/invoke/VarHandle" ∧ (parseMethodDescriptor yX2_formed.desc).map (fun d => d.parameters.length) = some 2 := by decide +kernel
set_option maxHeartbeats 4000000 in
set_option maxRecDepth 100000 in
theorem c_X2_formed (l : Launch) {dC : Nat → ClassId} {dI : Nat → Nat → Nat} {ad : Nat → Nat} {cI cJ : ClassId} {ln : Int32} {fg : Int32} {sc : Int32} {ms : Int32} {mi : Int32} {mv : Int32} {mw : Int32} {st : (Nat → Int64)} {fr : (Nat → Int64)} {sr : (Nat → Int64)} {pa : (Nat → Int64)} {nu : (Nat → Int32)} {a0 : Int64} {d mm : Nat} (hd : d ≤ 4) (hm : mm ≤ 10) : Met l yX2_formed wsX2_formed ({ frames := 3, cells := 0, slots := 0, locals := 70 }) (va_Pc ([.ref (ad 0), .long a0, .int (nI mm)] : List Value) (gB (dC, dI) (tyw cI cJ) (xw ad cI cJ ln fg (nI d) sc ms mi mv mw st fr sr pa nu))) (qL (f_form ln fg pa (f_pb d sc (nI mm)) a0 mm ln.toNatClampNeg)) 0 0 (fun _ => False) := by
  refine Met.ofW (cc := cX2_formed) (maxL := 11) (ret := (some .long)) (by decide) rfl ?_
  intro p e s m args below meth c s₁ B hml hv
  obtain ⟨rfl, hnw, hK, hP⟩ := hv
  have hx := B.exec
  have hb := B.bytes
  have hr := B.returns
  have hts := atoms_spec (ws := wsX2_formed) B.pre
  have hown : s.vm.findClass RX2 = some m.cls := findClass_of_methodNamed B.named
  have hlocks := B.notSynchronized
  have hw0 := hts (.fieldLink RX2 19 "BitStreams" "form" "LBitStreams$Form;") (by decide +kernel)
  have hw1 := hts (.initialized RX0) (by decide +kernel)
  have hw2 := hts (.instanceMethod yX0_partBelow) (by decide +kernel)
  have hw3 := hts (.selects RX0 yX0_partBelow yX0_partBelow) (by decide +kernel)
  have hw4 := hts (.fieldLink RX2 10 "BitStreams" "rows" "LBitStreams$Rows;") (by decide +kernel)
  have hw5 := hts (.fieldLink RX2 33 "BitStreams" "parts" "[J") (by decide +kernel)
  have hw6 := hts (.initialized RX1) (by decide +kernel)
  have hw7 := hts (.instanceMethod yX1_turned) (by decide +kernel)
  have hw8 := hts (.selects RX1 yX1_turned yX1_turned) (by decide +kernel)
  have hw9 := hts (.instanceMethod yX1_round) (by decide +kernel)
  have hw10 := hts (.selects RX1 yX1_round yX1_round) (by decide +kernel)
  have inX1 : ∀ w ∈ wsX10, w ∈ wsX2_formed := by decide +kernel
  have inX2 : ∀ w ∈ wsX20, w ∈ wsX2_formed := by decide +kernel
  have hl := lv_entry ([.ref (ad 0), .long a0, .int (nI mm)] : List Value) (n := 11) (Nat.le_of_ble_eq_true rfl)
  rw [lg_entry_eq]
  generalize (lg_sl ([.ref (ad 0), .long a0, .int (nI mm)] : List Value) ++ List.replicate (11 - (lg_sl ([.ref (ad 0), .long a0, .int (nI mm)] : List Value)).length) Slot.unset).toArray = ls at hl ⊢
  have hl : lv_has ls 11 [(0, .ref (ad 0)), (1, .long a0), (3, .int (nI mm))] := hl
  refine lv_aload_n hx hb dX2_formed_0 rfl (lv_at hl 0 rfl) ?_
  refine va_get (D := (dC, dI)) (ci := 2) (C := RX2) (T := TX2) (N := 10) hx hb hts inX2 hown hK hP 0 rfl rfl 1 (by decide) hw0 (fun _ h9 => h9) rfl dX2_formed_1 ?_
  refine lv_iload_n hx hb dX2_formed_4 rfl (lv_at hl 2 rfl) ?_
  refine ro_l (va_runVN ⟨hx, hb, hml, hown, hts⟩ (c_X0_partBelow l hd) ⟨va_cnB 1 hts gX2_formed_X0_partBelow_n158 rfl rfl rfl (hnw.at 12 rfl) hw1 kd_X0_partBelow ⟨Nat.le_of_ble_eq_true rfl, Nat.le_of_ble_eq_true rfl⟩, hw2, hw3⟩ (preV1 hnw hK hP 2 0 rfl rfl) rfl rfl hl.1 rfl (lv_room (Nat.le_of_ble_eq_true rfl)) dX2_formed_5 ⟨Nat.zero_le _, Nat.zero_le _⟩) ?_
  refine lv_lstore (lv' := [(4, .long _), (0, .ref (ad 0)), (1, .long a0), (3, .int (nI mm))]) hx hb dX2_formed_8 hl (by decide) rfl (fun ls hl => ?_)
  refine lv_lconst (v := 0) hx hb dX2_formed_10 (by decide) ?_
  refine lv_lstore (lv' := [(6, .long _), (4, .long _), (0, .ref (ad 0)), (1, .long a0), (3, .int (nI mm))]) hx hb dX2_formed_11 hl (by decide) rfl (fun ls hl => ?_)
  refine lv_iconst (v := 0) hx hb dX2_formed_13 (by decide) ?_
  refine lv_istore (lv' := [(8, .int _), (6, .long _), (4, .long _), (0, .ref (ad 0)), (1, .long a0), (3, .int (nI mm))]) hx hb dX2_formed_14 hl (by decide) rfl (fun ls hl => ?_)
  have L16 : ∀ (n16 : Nat) (i : Nat) (made : Int64), ln.toNatClampNeg + 1 ≤ i + n16 → (i ≤ ln.toNatClampNeg) → (made = f_form ln fg pa (f_pb d sc (nI mm)) a0 mm i) → ∀ (ls : Array Slot), lv_has ls 11 [(0, .ref (ad 0)), (1, .long a0), (3, .int (nI mm)), (4, .long (f_pb d sc (nI mm))), (6, .long made), (8, .int (nI i))] → W p l e { frames := 3, cells := 0, slots := 0, locals := 70 } s m ([.ref (ad 0), .long a0, .int (nI mm)] : List Value).toArray below meth c s.heap [] 0 0 (MQ below (qL (f_form ln fg pa (f_pb d sc (nI mm)) a0 mm ln.toNatClampNeg)) ([.ref (ad 0), .long a0, .int (nI mm)] : List Value).toArray s 0 0 (fun _ => False)) (F0 m 16 ls []) := by
    intro n16
    induction n16 with
    | zero =>
      intro i made hf16 hi hmd
      exact absurd hf16 (by omega)
    | succ n16 ih16 =>
      intro i made hf16 hi hmd ls hl
      refine lv_iload hx hb dX2_formed_16 (lv_at hl 5 rfl) ?_
      refine lv_aload_n hx hb dX2_formed_18 rfl (lv_at hl 0 rfl) ?_
      refine va_get (D := (dC, dI)) (ci := 2) (C := RX2) (T := TX2) (N := 10) hx hb hts inX2 hown hK hP 0 rfl rfl 0 (by decide) hw4 (fun _ h9 => h9) rfl dX2_formed_19 ?_
      refine va_getN (D := (dC, dI)) (ci := 1) (C := RX1) (T := TX1) (N := 2) hx hb hts inX1 hown hK hP 1 rfl rfl 0 (by decide) (hnw.use 1 rfl) (fun _ h9 => h9) rfl dX2_formed_22 ?_
      refine lv_icmp_ge (tgt := 115) hx hb dX2_formed_25 (by decide) (fun c_25 => ?_) (fun c_25 => ?_)
      · skip
        have hz := cl_end hi c_25
        refine lv_lload hx hb dX2_formed_115 (lv_at hl 4 rfl) ?_
        exact W.lret hx hb hr (fun t ht _ => rl (by rw [hz]; exact hmd) ht) no_locs dX2_formed_117
      · skip
        refine lv_iconst (v := 0) hx hb dX2_formed_28 (by decide) ?_
        refine lv_istore (lv' := [(9, .int _), (0, .ref (ad 0)), (1, .long a0), (3, .int (nI mm)), (4, .long (f_pb d sc (nI mm))), (6, .long made), (8, .int (nI i))]) hx hb dX2_formed_29 hl (by decide) rfl (fun ls hl => ?_)
        refine lv_iconst (v := 0) hx hb dX2_formed_31 (by decide) ?_
        refine lv_istore (lv' := [(10, .int _), (9, .int _), (0, .ref (ad 0)), (1, .long a0), (3, .int (nI mm)), (4, .long (f_pb d sc (nI mm))), (6, .long made), (8, .int (nI i))]) hx hb dX2_formed_32 hl (by decide) rfl (fun ls hl => ?_)
        have L34 : ∀ (n34 : Nat) (k : Nat) (jj : Int32), mm + 1 ≤ k + n34 → (k ≤ mm) → (jj = f_jn ln a0 (nI i) k) → ∀ (ls : Array Slot), lv_has ls 11 [(0, .ref (ad 0)), (1, .long a0), (3, .int (nI mm)), (4, .long (f_pb d sc (nI mm))), (6, .long made), (8, .int (nI i)), (9, .int jj), (10, .int (nI k))] → W p l e { frames := 3, cells := 0, slots := 0, locals := 70 } s m ([.ref (ad 0), .long a0, .int (nI mm)] : List Value).toArray below meth c s.heap [] 0 0 (MQ below (qL (f_form ln fg pa (f_pb d sc (nI mm)) a0 mm ln.toNatClampNeg)) ([.ref (ad 0), .long a0, .int (nI mm)] : List Value).toArray s 0 0 (fun _ => False)) (F0 m 34 ls []) := by
          intro n34
          induction n34 with
          | zero =>
            intro k jj hf34 hk hjj
            exact absurd hf34 (by omega)
          | succ n34 ih34 =>
            intro k jj hf34 hk hjj ls hl
            refine lv_iload hx hb dX2_formed_34 (lv_at hl 7 rfl) ?_
            refine lv_iload_n hx hb dX2_formed_36 rfl (lv_at hl 2 rfl) ?_
            refine lv_icmp_ge (tgt := 67) hx hb dX2_formed_37 (by decide) (fun c_37 => ?_) (fun c_37 => ?_)
            · skip
              have hkz : k = mm := by have := (nI_leI (a := mm) (b := k) (by omega) (by omega)).mp c_37; omega
              have hjz : jj = f_jn ln a0 (nI i) mm := by rw [hjj, hkz]
              refine lv_aload_n hx hb dX2_formed_67 rfl (lv_at hl 0 rfl) ?_
              refine va_get (D := (dC, dI)) (ci := 2) (C := RX2) (T := TX2) (N := 10) hx hb hts inX2 hown hK hP 0 rfl rfl 5 (by decide) hw5 (fun _ h9 => h9) rfl dX2_formed_68 ?_
              refine lv_iload hx hb dX2_formed_71 (lv_at hl 6 rfl) ?_
              refine va_lald hx hb hK hP 6 1 rfl rfl (by rw [hjz]; exact f_jn_in (by omega)) dX2_formed_73 ?_
              refine lv_aload_n hx hb dX2_formed_74 rfl (lv_at hl 0 rfl) ?_
              refine va_get (D := (dC, dI)) (ci := 2) (C := RX2) (T := TX2) (N := 10) hx hb hts inX2 hown hK hP 0 rfl rfl 0 (by decide) hw4 (fun _ h9 => h9) rfl dX2_formed_75 ?_
              refine va_getN (D := (dC, dI)) (ci := 1) (C := RX1) (T := TX1) (N := 2) hx hb hts inX1 hown hK hP 1 rfl rfl 0 (by decide) (hnw.use 1 rfl) (fun _ h9 => h9) rfl dX2_formed_78 ?_
              refine lv_i2l hx hb dX2_formed_81 rfl ?_
              refine lv_lmul hx hb dX2_formed_82 ?_
              refine lv_aload_n hx hb dX2_formed_83 rfl (lv_at hl 0 rfl) ?_
              refine va_get (D := (dC, dI)) (ci := 2) (C := RX2) (T := TX2) (N := 10) hx hb hts inX2 hown hK hP 0 rfl rfl 0 (by decide) hw4 (fun _ h9 => h9) rfl dX2_formed_84 ?_
              refine lv_iload hx hb dX2_formed_87 (lv_at hl 5 rfl) ?_
              refine ro_i (va_runVN ⟨hx, hb, hml, hown, hts⟩ (c_X1_turned l ) ⟨va_cnB 1 hts gX2_formed_X1_turned_n188 rfl rfl rfl (hnw.at 17 rfl) hw6 kd_X1_turned ⟨Nat.le_of_ble_eq_true rfl, Nat.le_of_ble_eq_true rfl⟩, hw7, hw8⟩ (preV1 hnw hK hP 1 1 rfl rfl) rfl rfl hl.1 rfl (lv_room (Nat.le_of_ble_eq_true rfl)) dX2_formed_89 ⟨Nat.zero_le _, Nat.zero_le _⟩) ?_
              refine lv_i2l hx hb dX2_formed_92 rfl ?_
              refine lv_lload hx hb dX2_formed_93 (lv_at hl 3 rfl) ?_
              refine lv_lmul hx hb dX2_formed_95 ?_
              refine W.lcmp hx hb dX2_formed_96 ?_
              refine lv_if_le (tgt := 109) hx hb dX2_formed_97 (by decide) (fun c_97 => ?_) (fun c_97 => ?_)
              · skip
                have c_97 := (lg_cmp_le _ _).mp c_97
                refine lv_iinc (lv' := [(8, .int (nI (i + 1))), (0, .ref (ad 0)), (1, .long a0), (3, .int (nI mm)), (4, .long (f_pb d sc (nI mm))), (6, .long made), (9, .int jj), (10, .int (nI k))]) hx hb dX2_formed_109 hl (k := 5) rfl (nI_1 _) (by decide) rfl (fun ls hl => ?_)
                refine lv_goto (tgt := 16) hx hb dX2_formed_112 (by decide) ?_
                exact ih16 (i + 1) _ (by have := cl_go hi c_25; omega) (cl_go hi c_25) (by rw [f_form, ← hjz]; first | (rw [if_pos c_97]; exact hmd) | (rw [if_neg c_97, hmd]; rfl)) ls (lv_sub hl [1, 2, 3, 4, 5, 0] rfl)
              · skip
                have c_97 := fun h => c_97 ((lg_cmp_le _ _).mpr h)
                refine lv_lload hx hb dX2_formed_100 (lv_at hl 4 rfl) ?_
                refine lv_lconst (v := 1) hx hb dX2_formed_102 (by decide) ?_
                refine lv_iload hx hb dX2_formed_103 (lv_at hl 5 rfl) ?_
                refine lv_lshl hx hb dX2_formed_105 rfl ?_
                refine lv_lor hx hb dX2_formed_106 ?_
                refine lv_lstore (lv' := [(6, .long _), (0, .ref (ad 0)), (1, .long a0), (3, .int (nI mm)), (4, .long (f_pb d sc (nI mm))), (8, .int (nI i)), (9, .int jj), (10, .int (nI k))]) hx hb dX2_formed_107 hl (by decide) rfl (fun ls hl => ?_)
                refine lv_iinc (lv' := [(8, .int (nI (i + 1))), (6, .long _), (0, .ref (ad 0)), (1, .long a0), (3, .int (nI mm)), (4, .long (f_pb d sc (nI mm))), (9, .int jj), (10, .int (nI k))]) hx hb dX2_formed_109 hl (k := 5) rfl (nI_1 _) (by decide) rfl (fun ls hl => ?_)
                refine lv_goto (tgt := 16) hx hb dX2_formed_112 (by decide) ?_
                exact ih16 (i + 1) _ (by have := cl_go hi c_25; omega) (cl_go hi c_25) (by rw [f_form, ← hjz]; first | (rw [if_pos c_97]; exact hmd) | (rw [if_neg c_97, hmd]; rfl)) ls (lv_sub hl [2, 3, 4, 5, 1, 0] rfl)
            · skip
              have hkz : k < mm := by have := mt (nI_leI (a := mm) (b := k) (by omega) (by omega)).mpr c_37; omega
              refine lv_iload hx hb dX2_formed_40 (lv_at hl 6 rfl) ?_
              refine lv_lload_n hx hb dX2_formed_42 rfl (lv_at hl 1 rfl) ?_
              refine lv_aload_n hx hb dX2_formed_43 rfl (lv_at hl 0 rfl) ?_
              refine va_get (D := (dC, dI)) (ci := 2) (C := RX2) (T := TX2) (N := 10) hx hb hts inX2 hown hK hP 0 rfl rfl 0 (by decide) hw4 (fun _ h9 => h9) rfl dX2_formed_44 ?_
              refine lv_iload hx hb dX2_formed_47 (lv_at hl 5 rfl) ?_
              refine lv_iload hx hb dX2_formed_49 (lv_at hl 7 rfl) ?_
              refine lv_iadd hx hb dX2_formed_51 ?_
              refine ro_i (va_runVN ⟨hx, hb, hml, hown, hts⟩ (c_X1_round l ) ⟨va_cnB 1 hts gX2_formed_X1_round_n185 rfl rfl rfl (hnw.at 16 rfl) hw6 kd_X1_round ⟨Nat.le_of_ble_eq_true rfl, Nat.le_of_ble_eq_true rfl⟩, hw9, hw10⟩ (preV1 hnw hK hP 1 1 rfl rfl) rfl rfl hl.1 rfl (lv_room (Nat.le_of_ble_eq_true rfl)) dX2_formed_52 ⟨Nat.zero_le _, Nat.zero_le _⟩) ?_
              refine ro_i (va_runS ⟨hx, hb, hml, hown, hts⟩ (c_X2_bitOf l ) (va_cwS 2 hts gX2_formed_X2_bitOf rfl rfl rfl kd_X2_bitOf ⟨Nat.le_of_ble_eq_true rfl, Nat.le_of_ble_eq_true rfl⟩) preS0 rfl rfl hl.1 rfl (lv_room (Nat.le_of_ble_eq_true rfl)) dX2_formed_55 ⟨Nat.zero_le _, Nat.zero_le _⟩) ?_
              refine lv_iadd hx hb dX2_formed_58 ?_
              refine lv_istore (lv' := [(9, .int _), (0, .ref (ad 0)), (1, .long a0), (3, .int (nI mm)), (4, .long (f_pb d sc (nI mm))), (6, .long made), (8, .int (nI i)), (10, .int (nI k))]) hx hb dX2_formed_59 hl (by decide) rfl (fun ls hl => ?_)
              refine lv_iinc (lv' := [(10, .int (nI (k + 1))), (9, .int _), (0, .ref (ad 0)), (1, .long a0), (3, .int (nI mm)), (4, .long (f_pb d sc (nI mm))), (6, .long made), (8, .int (nI i))]) hx hb dX2_formed_61 hl (k := 7) rfl (nI_1 _) (by decide) rfl (fun ls hl => ?_)
              refine lv_goto (tgt := 34) hx hb dX2_formed_64 (by decide) ?_
              exact ih34 (k + 1) _ (by omega) (by omega) (by rw [f_jn, hjj]) ls (lv_sub hl [2, 3, 4, 5, 6, 7, 1, 0] rfl)
        exact L34 (mm + 1) 0 _ (by omega) (Nat.zero_le _) rfl ls (lv_sub hl [2, 3, 4, 5, 6, 7, 1, 0] rfl)
  exact L16 (ln.toNatClampNeg + 1) 0 _ (by omega) (Nat.zero_le _) rfl ls (lv_sub hl [3, 4, 5, 2, 1, 0] rfl)
end
