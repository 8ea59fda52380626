section
-- ===== PART A: goes FIRST, ahead of the names: the tables' words, and 'selects' of the private methods out of them =====
/-- a private method of a class that the tables say can be made, by its rows of tables_1 -/
def lw_okq (q : MethodName × Nat) : Prop := (q.1.cls ≠ "java/lang/invoke/MethodHandle" ∧ q.1.cls ≠ "java/lang/invoke/VarHandle") ∧ Cond.instantiable q.1.cls q.2 ∈ tables_1 ∧ Cond.privateMethod q.1 ∈ tables_1 ∧ Cond.instanceMethod q.1 ∈ tables_1
theorem lw_p0 : lw_okq (⟨"EscapeCoder$Model", "dropAll", "()V"⟩, 17) := ⟨⟨by decide +kernel, by decide +kernel⟩, List.mem_of_getElem? (i := 56) (by decide +kernel), List.mem_of_getElem? (i := 238) (by decide +kernel), List.mem_of_getElem? (i := 239) (by decide +kernel)⟩
theorem lw_p1 : lw_okq (⟨"EscapeCoder$Model", "isContext", "(I)Z"⟩, 17) := ⟨⟨by decide +kernel, by decide +kernel⟩, List.mem_of_getElem? (i := 56) (by decide +kernel), List.mem_of_getElem? (i := 332) (by decide +kernel), List.mem_of_getElem? (i := 333) (by decide +kernel)⟩
theorem lw_p2 : lw_okq (⟨"EscapeCoder$Teller", "gather", "(I)V"⟩, 9) := ⟨⟨by decide +kernel, by decide +kernel⟩, List.mem_of_getElem? (i := 117) (by decide +kernel), List.mem_of_getElem? (i := 336) (by decide +kernel), List.mem_of_getElem? (i := 337) (by decide +kernel)⟩
theorem lw_p3 : lw_okq (⟨"EscapeCoder$Model", "isNode", "(I)Z"⟩, 17) := ⟨⟨by decide +kernel, by decide +kernel⟩, List.mem_of_getElem? (i := 56) (by decide +kernel), List.mem_of_getElem? (i := 352) (by decide +kernel), List.mem_of_getElem? (i := 353) (by decide +kernel)⟩
theorem lw_p4 : lw_okq (⟨"EscapeCoder$Teller", "isOut", "(I)Z"⟩, 9) := ⟨⟨by decide +kernel, by decide +kernel⟩, List.mem_of_getElem? (i := 117) (by decide +kernel), List.mem_of_getElem? (i := 356) (by decide +kernel), List.mem_of_getElem? (i := 357) (by decide +kernel)⟩
theorem lw_p5 : lw_okq (⟨"EscapeCoder$Teller", "tellAmongLive", "(IILEscapeCoder$Interval;)I"⟩, 9) := ⟨⟨by decide +kernel, by decide +kernel⟩, List.mem_of_getElem? (i := 117) (by decide +kernel), List.mem_of_getElem? (i := 369) (by decide +kernel), List.mem_of_getElem? (i := 370) (by decide +kernel)⟩
theorem lw_p6 : lw_okq (⟨"EscapeCoder$Teller", "liveBeginOf", "(I)I"⟩, 9) := ⟨⟨by decide +kernel, by decide +kernel⟩, List.mem_of_getElem? (i := 117) (by decide +kernel), List.mem_of_getElem? (i := 373) (by decide +kernel), List.mem_of_getElem? (i := 374) (by decide +kernel)⟩
theorem lw_p7 : lw_okq (⟨"EscapeCoder$CodeWriter", "carry", "()V"⟩, 4) := ⟨⟨by decide +kernel, by decide +kernel⟩, List.mem_of_getElem? (i := 151) (by decide +kernel), List.mem_of_getElem? (i := 412) (by decide +kernel), List.mem_of_getElem? (i := 413) (by decide +kernel)⟩
theorem lw_p8 : lw_okq (⟨"EscapeCoder$Teller", "putLiveOut", "()V"⟩, 9) := ⟨⟨by decide +kernel, by decide +kernel⟩, List.mem_of_getElem? (i := 117) (by decide +kernel), List.mem_of_getElem? (i := 450) (by decide +kernel), List.mem_of_getElem? (i := 451) (by decide +kernel)⟩
theorem lw_p9 : lw_okq (⟨"EscapeCoder$Teller", "tellPlainly", "(ILEscapeCoder$Interval;)I"⟩, 9) := ⟨⟨by decide +kernel, by decide +kernel⟩, List.mem_of_getElem? (i := 117) (by decide +kernel), List.mem_of_getElem? (i := 454) (by decide +kernel), List.mem_of_getElem? (i := 455) (by decide +kernel)⟩
theorem lw_p10 : lw_okq (⟨"EscapeCoder$Teller", "plainBeginOf", "(I)I"⟩, 9) := ⟨⟨by decide +kernel, by decide +kernel⟩, List.mem_of_getElem? (i := 117) (by decide +kernel), List.mem_of_getElem? (i := 458) (by decide +kernel), List.mem_of_getElem? (i := 459) (by decide +kernel)⟩
theorem lw_p11 : lw_okq (⟨"EscapeCoder$Teller", "plainSymbolAt", "(I)I"⟩, 9) := ⟨⟨by decide +kernel, by decide +kernel⟩, List.mem_of_getElem? (i := 117) (by decide +kernel), List.mem_of_getElem? (i := 462) (by decide +kernel), List.mem_of_getElem? (i := 463) (by decide +kernel)⟩
theorem lw_p12 : lw_okq (⟨"EscapeCoder$Model", "learnIn", "(II)Z"⟩, 17) := ⟨⟨by decide +kernel, by decide +kernel⟩, List.mem_of_getElem? (i := 56) (by decide +kernel), List.mem_of_getElem? (i := 478) (by decide +kernel), List.mem_of_getElem? (i := 479) (by decide +kernel)⟩
theorem lw_p13 : lw_okq (⟨"EscapeCoder$Model", "rescale", "(I)V"⟩, 17) := ⟨⟨by decide +kernel, by decide +kernel⟩, List.mem_of_getElem? (i := 56) (by decide +kernel), List.mem_of_getElem? (i := 491) (by decide +kernel), List.mem_of_getElem? (i := 492) (by decide +kernel)⟩
theorem lw_p14 : lw_okq (⟨"EscapeCoder$Model", "addContext", "(I)I"⟩, 17) := ⟨⟨by decide +kernel, by decide +kernel⟩, List.mem_of_getElem? (i := 56) (by decide +kernel), List.mem_of_getElem? (i := 495) (by decide +kernel), List.mem_of_getElem? (i := 496) (by decide +kernel)⟩
theorem lw_p15 : lw_okq (⟨"EscapeCoder$Model", "growContexts", "()V"⟩, 17) := ⟨⟨by decide +kernel, by decide +kernel⟩, List.mem_of_getElem? (i := 56) (by decide +kernel), List.mem_of_getElem? (i := 499) (by decide +kernel), List.mem_of_getElem? (i := 500) (by decide +kernel)⟩
def lw_privs_1 : List (MethodName × Nat) := [(⟨"EscapeCoder$Model", "dropAll", "()V"⟩, 17), (⟨"EscapeCoder$Model", "isContext", "(I)Z"⟩, 17), (⟨"EscapeCoder$Teller", "gather", "(I)V"⟩, 9), (⟨"EscapeCoder$Model", "isNode", "(I)Z"⟩, 17), (⟨"EscapeCoder$Teller", "isOut", "(I)Z"⟩, 9), (⟨"EscapeCoder$Teller", "tellAmongLive", "(IILEscapeCoder$Interval;)I"⟩, 9), (⟨"EscapeCoder$Teller", "liveBeginOf", "(I)I"⟩, 9), (⟨"EscapeCoder$CodeWriter", "carry", "()V"⟩, 4), (⟨"EscapeCoder$Teller", "putLiveOut", "()V"⟩, 9), (⟨"EscapeCoder$Teller", "tellPlainly", "(ILEscapeCoder$Interval;)I"⟩, 9), (⟨"EscapeCoder$Teller", "plainBeginOf", "(I)I"⟩, 9), (⟨"EscapeCoder$Teller", "plainSymbolAt", "(I)I"⟩, 9), (⟨"EscapeCoder$Model", "learnIn", "(II)Z"⟩, 17), (⟨"EscapeCoder$Model", "rescale", "(I)V"⟩, 17), (⟨"EscapeCoder$Model", "addContext", "(I)I"⟩, 17), (⟨"EscapeCoder$Model", "growContexts", "()V"⟩, 17)]
theorem lw_r1 : ∀ q ∈ lw_privs_1, lw_okq q := List.forall_mem_cons.mpr ⟨lw_p0, List.forall_mem_cons.mpr ⟨lw_p1, List.forall_mem_cons.mpr ⟨lw_p2, List.forall_mem_cons.mpr ⟨lw_p3, List.forall_mem_cons.mpr ⟨lw_p4, List.forall_mem_cons.mpr ⟨lw_p5, List.forall_mem_cons.mpr ⟨lw_p6, List.forall_mem_cons.mpr ⟨lw_p7, List.forall_mem_cons.mpr ⟨lw_p8, List.forall_mem_cons.mpr ⟨lw_p9, List.forall_mem_cons.mpr ⟨lw_p10, List.forall_mem_cons.mpr ⟨lw_p11, List.forall_mem_cons.mpr ⟨lw_p12, List.forall_mem_cons.mpr ⟨lw_p13, List.forall_mem_cons.mpr ⟨lw_p14, List.forall_mem_cons.mpr ⟨lw_p15, fun _ h => absurd h List.not_mem_nil⟩⟩⟩⟩⟩⟩⟩⟩⟩⟩⟩⟩⟩⟩⟩⟩
theorem lw_p16 : lw_okq (⟨"EscapeCoder$Model", "addNode", "(II)V"⟩, 17) := ⟨⟨by decide +kernel, by decide +kernel⟩, List.mem_of_getElem? (i := 56) (by decide +kernel), List.mem_of_getElem? (i := 505) (by decide +kernel), List.mem_of_getElem? (i := 506) (by decide +kernel)⟩
theorem lw_p17 : lw_okq (⟨"EscapeCoder$Model", "growNodes", "()V"⟩, 17) := ⟨⟨by decide +kernel, by decide +kernel⟩, List.mem_of_getElem? (i := 56) (by decide +kernel), List.mem_of_getElem? (i := 509) (by decide +kernel), List.mem_of_getElem? (i := 510) (by decide +kernel)⟩
theorem lw_p18 : lw_okq (⟨"EscapeCoder", "noteEnd", "(LEscapeCoder$Interval;)V"⟩, 10) := ⟨⟨by decide +kernel, by decide +kernel⟩, List.mem_of_getElem? (i := 14) (by decide +kernel), List.mem_of_getElem? (i := 514) (by decide +kernel), List.mem_of_getElem? (i := 515) (by decide +kernel)⟩
theorem lw_p19 : lw_okq (⟨"EscapeCoder", "readUpToEnd", "()Z"⟩, 10) := ⟨⟨by decide +kernel, by decide +kernel⟩, List.mem_of_getElem? (i := 14) (by decide +kernel), List.mem_of_getElem? (i := 551) (by decide +kernel), List.mem_of_getElem? (i := 552) (by decide +kernel)⟩
theorem lw_p20 : lw_okq (⟨"EscapeCoder", "rowOf", "(I)LEscapeCoder$ByteRow;"⟩, 10) := ⟨⟨by decide +kernel, by decide +kernel⟩, List.mem_of_getElem? (i := 14) (by decide +kernel), List.mem_of_getElem? (i := 575) (by decide +kernel), List.mem_of_getElem? (i := 576) (by decide +kernel)⟩
theorem lw_p21 : lw_okq (⟨"EscapeCoderModel", "startModel", "()V"⟩, 30) := ⟨⟨by decide +kernel, by decide +kernel⟩, List.mem_of_getElem? (i := 639) (by decide +kernel), List.mem_of_getElem? (i := 649) (by decide +kernel), List.mem_of_getElem? (i := 650) (by decide +kernel)⟩
theorem lw_p22 : lw_okq (⟨"EscapeCoderModel", "tell", "(I)I"⟩, 30) := ⟨⟨by decide +kernel, by decide +kernel⟩, List.mem_of_getElem? (i := 639) (by decide +kernel), List.mem_of_getElem? (i := 761) (by decide +kernel), List.mem_of_getElem? (i := 762) (by decide +kernel)⟩
theorem lw_p23 : lw_okq (⟨"EscapeCoderModel", "here", "(I)I"⟩, 30) := ⟨⟨by decide +kernel, by decide +kernel⟩, List.mem_of_getElem? (i := 639) (by decide +kernel), List.mem_of_getElem? (i := 765) (by decide +kernel), List.mem_of_getElem? (i := 766) (by decide +kernel)⟩
theorem lw_p24 : lw_okq (⟨"EscapeCoderModel", "tellIn", "(IIIII)I"⟩, 30) := ⟨⟨by decide +kernel, by decide +kernel⟩, List.mem_of_getElem? (i := 639) (by decide +kernel), List.mem_of_getElem? (i := 772) (by decide +kernel), List.mem_of_getElem? (i := 773) (by decide +kernel)⟩
theorem lw_p25 : lw_okq (⟨"EscapeCoderModel", "placeOf", "(I)I"⟩, 30) := ⟨⟨by decide +kernel, by decide +kernel⟩, List.mem_of_getElem? (i := 639) (by decide +kernel), List.mem_of_getElem? (i := 776) (by decide +kernel), List.mem_of_getElem? (i := 777) (by decide +kernel)⟩
theorem lw_p26 : lw_okq (⟨"EscapeCoderModel", "note", "(IIII)V"⟩, 30) := ⟨⟨by decide +kernel, by decide +kernel⟩, List.mem_of_getElem? (i := 639) (by decide +kernel), List.mem_of_getElem? (i := 780) (by decide +kernel), List.mem_of_getElem? (i := 781) (by decide +kernel)⟩
theorem lw_p27 : lw_okq (⟨"EscapeCoderModel", "narrow", "(III)V"⟩, 30) := ⟨⟨by decide +kernel, by decide +kernel⟩, List.mem_of_getElem? (i := 639) (by decide +kernel), List.mem_of_getElem? (i := 784) (by decide +kernel), List.mem_of_getElem? (i := 785) (by decide +kernel)⟩
theorem lw_p28 : lw_okq (⟨"EscapeCoderModel", "addLow", "(J)V"⟩, 30) := ⟨⟨by decide +kernel, by decide +kernel⟩, List.mem_of_getElem? (i := 639) (by decide +kernel), List.mem_of_getElem? (i := 788) (by decide +kernel), List.mem_of_getElem? (i := 789) (by decide +kernel)⟩
theorem lw_p29 : lw_okq (⟨"EscapeCoderModel", "nextByte", "()I"⟩, 30) := ⟨⟨by decide +kernel, by decide +kernel⟩, List.mem_of_getElem? (i := 639) (by decide +kernel), List.mem_of_getElem? (i := 794) (by decide +kernel), List.mem_of_getElem? (i := 795) (by decide +kernel)⟩
theorem lw_p30 : lw_okq (⟨"EscapeCoderModel", "learn", "(II)V"⟩, 30) := ⟨⟨by decide +kernel, by decide +kernel⟩, List.mem_of_getElem? (i := 639) (by decide +kernel), List.mem_of_getElem? (i := 799) (by decide +kernel), List.mem_of_getElem? (i := 800) (by decide +kernel)⟩
theorem lw_p31 : lw_okq (⟨"EscapeCoderModel", "find", "(II)I"⟩, 30) := ⟨⟨by decide +kernel, by decide +kernel⟩, List.mem_of_getElem? (i := 639) (by decide +kernel), List.mem_of_getElem? (i := 803) (by decide +kernel), List.mem_of_getElem? (i := 804) (by decide +kernel)⟩
def lw_privs_2 : List (MethodName × Nat) := [(⟨"EscapeCoder$Model", "addNode", "(II)V"⟩, 17), (⟨"EscapeCoder$Model", "growNodes", "()V"⟩, 17), (⟨"EscapeCoder", "noteEnd", "(LEscapeCoder$Interval;)V"⟩, 10), (⟨"EscapeCoder", "readUpToEnd", "()Z"⟩, 10), (⟨"EscapeCoder", "rowOf", "(I)LEscapeCoder$ByteRow;"⟩, 10), (⟨"EscapeCoderModel", "startModel", "()V"⟩, 30), (⟨"EscapeCoderModel", "tell", "(I)I"⟩, 30), (⟨"EscapeCoderModel", "here", "(I)I"⟩, 30), (⟨"EscapeCoderModel", "tellIn", "(IIIII)I"⟩, 30), (⟨"EscapeCoderModel", "placeOf", "(I)I"⟩, 30), (⟨"EscapeCoderModel", "note", "(IIII)V"⟩, 30), (⟨"EscapeCoderModel", "narrow", "(III)V"⟩, 30), (⟨"EscapeCoderModel", "addLow", "(J)V"⟩, 30), (⟨"EscapeCoderModel", "nextByte", "()I"⟩, 30), (⟨"EscapeCoderModel", "learn", "(II)V"⟩, 30), (⟨"EscapeCoderModel", "find", "(II)I"⟩, 30)]
theorem lw_r2 : ∀ q ∈ lw_privs_2, lw_okq q := List.forall_mem_cons.mpr ⟨lw_p16, List.forall_mem_cons.mpr ⟨lw_p17, List.forall_mem_cons.mpr ⟨lw_p18, List.forall_mem_cons.mpr ⟨lw_p19, List.forall_mem_cons.mpr ⟨lw_p20, List.forall_mem_cons.mpr ⟨lw_p21, List.forall_mem_cons.mpr ⟨lw_p22, List.forall_mem_cons.mpr ⟨lw_p23, List.forall_mem_cons.mpr ⟨lw_p24, List.forall_mem_cons.mpr ⟨lw_p25, List.forall_mem_cons.mpr ⟨lw_p26, List.forall_mem_cons.mpr ⟨lw_p27, List.forall_mem_cons.mpr ⟨lw_p28, List.forall_mem_cons.mpr ⟨lw_p29, List.forall_mem_cons.mpr ⟨lw_p30, List.forall_mem_cons.mpr ⟨lw_p31, fun _ h => absurd h List.not_mem_nil⟩⟩⟩⟩⟩⟩⟩⟩⟩⟩⟩⟩⟩⟩⟩⟩
theorem lw_p32 : lw_okq (⟨"EscapeCoderModel", "halve", "(I)V"⟩, 30) := ⟨⟨by decide +kernel, by decide +kernel⟩, List.mem_of_getElem? (i := 639) (by decide +kernel), List.mem_of_getElem? (i := 807) (by decide +kernel), List.mem_of_getElem? (i := 808) (by decide +kernel)⟩
theorem lw_p33 : lw_okq (⟨"EscapeCoderModel", "goBy", "(I)V"⟩, 30) := ⟨⟨by decide +kernel, by decide +kernel⟩, List.mem_of_getElem? (i := 639) (by decide +kernel), List.mem_of_getElem? (i := 811) (by decide +kernel), List.mem_of_getElem? (i := 812) (by decide +kernel)⟩
def lw_privs_3 : List (MethodName × Nat) := [(⟨"EscapeCoderModel", "halve", "(I)V"⟩, 30), (⟨"EscapeCoderModel", "goBy", "(I)V"⟩, 30)]
theorem lw_r3 : ∀ q ∈ lw_privs_3, lw_okq q := List.forall_mem_cons.mpr ⟨lw_p32, List.forall_mem_cons.mpr ⟨lw_p33, fun _ h => absurd h List.not_mem_nil⟩⟩
def lw_privs : List (MethodName × Nat) := lw_privs_1 ++ (lw_privs_2 ++ (lw_privs_3))
def lw_tbl : List Cond := k2_sels lw_privs ++ tables_1
theorem lw_privs_ok : ∀ q ∈ lw_privs, lw_okq q := by
  show ∀ q ∈ lw_privs_1 ++ (lw_privs_2 ++ (lw_privs_3)), lw_okq q
  exact List.forall_mem_append.mpr ⟨lw_r1, List.forall_mem_append.mpr ⟨lw_r2, lw_r3⟩⟩
end
section
/-! ===== BEGIN words of one list among another's, by their places ===== -/
theorem goodIn_r {big : List Cond} (ws : List Cond) (ps : List Nat) (hp : ws = ps.filterMap (fun i => big[i]?)) (h : ws.all goodWord = true) : GoodIn big ws := by
  intro w hw
  have h1 := List.all_eq_true.mp h w hw
  rw [hp] at hw
  obtain ⟨i, -, hi⟩ := List.mem_filterMap.mp hw
  have hm : w ∈ big := by first | exact List.mem_of_getElem? hi | exact List.getElem?_mem hi
  exact ⟨hm, good_of_word h1⟩
theorem goodIn_app {big a b : List Cond} (ha : GoodIn big a) (hb : GoodIn big b) : GoodIn big (a ++ b) := fun w h => (List.mem_append.mp h).elim (ha w) (hb w)
theorem goodIn_ca {big a b : List Cond} {c : Cond} (ha : GoodIn big (c :: a)) (hb : GoodIn big b) : GoodIn big (c :: (a ++ b)) := fun w h => (List.mem_cons.mp h).elim (fun e => ha w (List.mem_cons.mpr (Or.inl e))) (fun h => (List.mem_append.mp h).elim (fun h => ha w (List.mem_cons.mpr (Or.inr h))) (hb w))
theorem goodIn_sub {big ws : List Cond} (hm : ∀ w ∈ ws, w ∈ big) (h : ws.all goodWord = true) : GoodIn big ws := fun w hw => ⟨hm w hw, good_of_word (List.all_eq_true.mp h w hw)⟩
/-! ===== END ===== -/

/-! ===== BEGIN printed: names, fields, word lists, decode rows ===== -/
def RX0 : String := "EscapeCoder$ByteRow"
def TX0 : u_T := fun k => match k with
  | 0 => ("EscapeCoder$ByteRow", "most", "I", true)
  | 1 => ("EscapeCoder$ByteRow", "bytes", "[I", false)
  | _ => ("EscapeCoder$ByteRow", "length", "I", false)
def tyX0 : Nat → FieldType := fun k => match k with
  | 0 => .int
  | 1 => .array .int
  | _ => .int
abbrev wsX00 : List Cond := u_ws RX0 TX0 3
theorem nmX0 : ∀ a, a < 3 → ∀ b, b < 3 → a ≠ b → (TX0 a).2.1 ≠ (TX0 b).2.1 := by decide +kernel
theorem tyX0_ok : ∀ k, k < 3 → parseFieldDescriptor (TX0 k).2.2.1 = some (tyX0 k) := by decide +kernel
abbrev cX0_init : ByteArray := prog_2_method_1_code
def yX0_init : MethodName := ⟨RX0, "<init>", "(I)V"⟩
abbrev cX0_length : ByteArray := prog_2_method_2_code
def yX0_length : MethodName := ⟨RX0, "length", "()I"⟩
abbrev cX0_clear : ByteArray := prog_2_method_3_code
def yX0_clear : MethodName := ⟨RX0, "clear", "()V"⟩
abbrev cX0_add : ByteArray := prog_2_method_4_code
def yX0_add : MethodName := ⟨RX0, "add", "(I)Z"⟩
abbrev cX0_put : ByteArray := prog_2_method_5_code
def yX0_put : MethodName := ⟨RX0, "put", "(II)Z"⟩
abbrev cX0_shorten : ByteArray := prog_2_method_6_code
def yX0_shorten : MethodName := ⟨RX0, "shorten", "(I)Z"⟩
abbrev cX0_byteAt : ByteArray := prog_2_method_7_code
def yX0_byteAt : MethodName := ⟨RX0, "byteAt", "(I)I"⟩
def RX1 : String := "EscapeCoder$CodeReader"
def TX1 : u_T := fun k => match k with
  | 0 => ("EscapeCoder$Interval", "range", "J", false)
  | 1 => ("EscapeCoder$Interval", "shifts", "I", false)
  | 2 => ("EscapeCoder$CodeReader", "code", "LEscapeCoder$ByteRow;", true)
  | 3 => ("EscapeCoder$CodeReader", "ahead", "J", false)
  | _ => ("EscapeCoder$CodeReader", "taken", "I", false)
def tyX1 : Nat → FieldType := fun k => match k with
  | 0 => .long
  | 1 => .int
  | 2 => .object "EscapeCoder$ByteRow"
  | 3 => .long
  | _ => .int
abbrev wsX10 : List Cond := u_ws RX1 TX1 5
theorem nmX1 : ∀ a, a < 5 → ∀ b, b < 5 → a ≠ b → (TX1 a).2.1 ≠ (TX1 b).2.1 := by decide +kernel
theorem tyX1_ok : ∀ k, k < 5 → parseFieldDescriptor (TX1 k).2.2.1 = some (tyX1 k) := by decide +kernel
abbrev cX1_init : ByteArray := prog_3_method_1_code
def yX1_init : MethodName := ⟨RX1, "<init>", "(LEscapeCoder$ByteRow;)V"⟩
abbrev cX1_restart : ByteArray := prog_3_method_2_code
def yX1_restart : MethodName := ⟨RX1, "restart", "()V"⟩
abbrev cX1_placeIn : ByteArray := prog_3_method_3_code
def yX1_placeIn : MethodName := ⟨RX1, "placeIn", "(II)I"⟩
abbrev cX1_raiseLow : ByteArray := prog_3_method_4_code
def yX1_raiseLow : MethodName := ⟨RX1, "raiseLow", "(J)V"⟩
abbrev cX1_shiftOnce : ByteArray := prog_3_method_5_code
def yX1_shiftOnce : MethodName := ⟨RX1, "shiftOnce", "()V"⟩
def RX2 : String := "EscapeCoder$CodeWriter"
def TX2 : u_T := fun k => match k with
  | 0 => ("EscapeCoder$Interval", "range", "J", false)
  | 1 => ("EscapeCoder$Interval", "shifts", "I", false)
  | 2 => ("EscapeCoder$CodeWriter", "code", "LEscapeCoder$ByteRow;", true)
  | _ => ("EscapeCoder$CodeWriter", "low", "J", false)
def tyX2 : Nat → FieldType := fun k => match k with
  | 0 => .long
  | 1 => .int
  | 2 => .object "EscapeCoder$ByteRow"
  | _ => .long
abbrev wsX20 : List Cond := u_ws RX2 TX2 4
theorem nmX2 : ∀ a, a < 4 → ∀ b, b < 4 → a ≠ b → (TX2 a).2.1 ≠ (TX2 b).2.1 := by decide +kernel
theorem tyX2_ok : ∀ k, k < 4 → parseFieldDescriptor (TX2 k).2.2.1 = some (tyX2 k) := by decide +kernel
abbrev cX2_init : ByteArray := prog_4_method_1_code
def yX2_init : MethodName := ⟨RX2, "<init>", "(LEscapeCoder$ByteRow;)V"⟩
abbrev cX2_restart : ByteArray := prog_4_method_2_code
def yX2_restart : MethodName := ⟨RX2, "restart", "()V"⟩
abbrev cX2_placeIn : ByteArray := prog_4_method_3_code
def yX2_placeIn : MethodName := ⟨RX2, "placeIn", "(II)I"⟩
abbrev cX2_raiseLow : ByteArray := prog_4_method_4_code
def yX2_raiseLow : MethodName := ⟨RX2, "raiseLow", "(J)V"⟩
abbrev cX2_shiftOnce : ByteArray := prog_4_method_5_code
def yX2_shiftOnce : MethodName := ⟨RX2, "shiftOnce", "()V"⟩
abbrev cX2_finish : ByteArray := prog_4_method_6_code
def yX2_finish : MethodName := ⟨RX2, "finish", "()Z"⟩
abbrev cX2_carry : ByteArray := prog_4_method_7_code
def yX2_carry : MethodName := ⟨RX2, "carry", "()V"⟩
def RX3 : String := "EscapeCoder$Interval"
def TX3 : u_T := fun k => match k with
  | _ => ("", "", "", false)
def tyX3 : Nat → FieldType := fun k => match k with
  | _ => .int
abbrev wsX30 : List Cond := u_ws RX3 TX3 0
theorem nmX3 : ∀ a, a < 0 → ∀ b, b < 0 → a ≠ b → (TX3 a).2.1 ≠ (TX3 b).2.1 := by decide +kernel
theorem tyX3_ok : ∀ k, k < 0 → parseFieldDescriptor (TX3 k).2.2.1 = some (tyX3 k) := by decide +kernel
abbrev cX3_init : ByteArray := prog_5_method_1_code
def yX3_init : MethodName := ⟨RX3, "<init>", "()V"⟩
abbrev cX3_range : ByteArray := prog_5_method_5_code
def yX3_range : MethodName := ⟨RX3, "range", "()J"⟩
abbrev cX3_shifts : ByteArray := prog_5_method_6_code
def yX3_shifts : MethodName := ⟨RX3, "shifts", "()I"⟩
abbrev cX3_widen : ByteArray := prog_5_method_7_code
def yX3_widen : MethodName := ⟨RX3, "widen", "()V"⟩
abbrev cX3_unitOf : ByteArray := prog_5_method_8_code
def yX3_unitOf : MethodName := ⟨RX3, "unitOf", "(I)J"⟩
abbrev cX3_narrow : ByteArray := prog_5_method_9_code
def yX3_narrow : MethodName := ⟨RX3, "narrow", "(III)V"⟩
def RX4 : String := "EscapeCoder$Model"
def TX4 : u_T := fun k => match k with
  | 0 => ("EscapeCoder$Model", "limit", "I", false)
  | 1 => ("EscapeCoder$Model", "nodes", "I", false)
  | 2 => ("EscapeCoder$Model", "nodeByte", "[I", false)
  | 3 => ("EscapeCoder$Model", "nodeCount", "[I", false)
  | 4 => ("EscapeCoder$Model", "nodeNext", "[I", false)
  | 5 => ("EscapeCoder$Model", "contexts", "I", false)
  | 6 => ("EscapeCoder$Model", "contextKey", "[I", false)
  | 7 => ("EscapeCoder$Model", "contextFirst", "[I", false)
  | 8 => ("EscapeCoder$Model", "contextLast", "[I", false)
  | 9 => ("EscapeCoder$Model", "contextNodes", "[I", false)
  | 10 => ("EscapeCoder$Model", "contextOlder", "[I", false)
  | 11 => ("EscapeCoder$Model", "bucketNewest", "[I", true)
  | 12 => ("EscapeCoder$Model", "topOrder", "I", false)
  | 13 => ("EscapeCoder$Model", "before", "I", false)
  | 14 => ("EscapeCoder$Model", "earlier", "I", false)
  | 15 => ("EscapeCoder$Model", "rescalings", "I", false)
  | _ => ("EscapeCoder$Model", "resets", "I", false)
def tyX4 : Nat → FieldType := fun k => match k with
  | 0 => .int
  | 1 => .int
  | 2 => .array .int
  | 3 => .array .int
  | 4 => .array .int
  | 5 => .int
  | 6 => .array .int
  | 7 => .array .int
  | 8 => .array .int
  | 9 => .array .int
  | 10 => .array .int
  | 11 => .array .int
  | 12 => .int
  | 13 => .int
  | 14 => .int
  | 15 => .int
  | _ => .int
abbrev wsX40 : List Cond := u_ws RX4 TX4 17
theorem nmX4 : ∀ a, a < 17 → ∀ b, b < 17 → a ≠ b → (TX4 a).2.1 ≠ (TX4 b).2.1 := by decide +kernel
theorem tyX4_ok : ∀ k, k < 17 → parseFieldDescriptor (TX4 k).2.2.1 = some (tyX4 k) := by decide +kernel
abbrev cX4_init : ByteArray := prog_6_method_1_code
def yX4_init : MethodName := ⟨RX4, "<init>", "(I)V"⟩
abbrev cX4_limitTo : ByteArray := prog_6_method_2_code
def yX4_limitTo : MethodName := ⟨RX4, "limitTo", "(I)V"⟩
abbrev cX4_restart : ByteArray := prog_6_method_3_code
def yX4_restart : MethodName := ⟨RX4, "restart", "()V"⟩
abbrev cX4_nodes : ByteArray := prog_6_method_4_code
def yX4_nodes : MethodName := ⟨RX4, "nodes", "()I"⟩
abbrev cX4_contexts : ByteArray := prog_6_method_5_code
def yX4_contexts : MethodName := ⟨RX4, "contexts", "()I"⟩
abbrev cX4_rescalings : ByteArray := prog_6_method_6_code
def yX4_rescalings : MethodName := ⟨RX4, "rescalings", "()I"⟩
abbrev cX4_resets : ByteArray := prog_6_method_7_code
def yX4_resets : MethodName := ⟨RX4, "resets", "()I"⟩
abbrev cX4_topOrder : ByteArray := prog_6_method_8_code
def yX4_topOrder : MethodName := ⟨RX4, "topOrder", "()I"⟩
abbrev cX4_keyHere : ByteArray := prog_6_method_9_code
def yX4_keyHere : MethodName := ⟨RX4, "keyHere", "(I)I"⟩
abbrev cX4_find : ByteArray := prog_6_method_10_code
def yX4_find : MethodName := ⟨RX4, "find", "(I)I"⟩
abbrev cX4_nodesIn : ByteArray := prog_6_method_11_code
def yX4_nodesIn : MethodName := ⟨RX4, "nodesIn", "(I)I"⟩
abbrev cX4_firstNode : ByteArray := prog_6_method_12_code
def yX4_firstNode : MethodName := ⟨RX4, "firstNode", "(I)I"⟩
abbrev cX4_nextNode : ByteArray := prog_6_method_13_code
def yX4_nextNode : MethodName := ⟨RX4, "nextNode", "(I)I"⟩
abbrev cX4_byteOf : ByteArray := prog_6_method_14_code
def yX4_byteOf : MethodName := ⟨RX4, "byteOf", "(I)I"⟩
abbrev cX4_countOf : ByteArray := prog_6_method_15_code
def yX4_countOf : MethodName := ⟨RX4, "countOf", "(I)I"⟩
abbrev cX4_nodeOfByte : ByteArray := prog_6_method_16_code
def yX4_nodeOfByte : MethodName := ⟨RX4, "nodeOfByte", "(II)I"⟩
abbrev cX4_nodeAt : ByteArray := prog_6_method_17_code
def yX4_nodeAt : MethodName := ⟨RX4, "nodeAt", "(II)I"⟩
abbrev cX4_learn : ByteArray := prog_6_method_18_code
def yX4_learn : MethodName := ⟨RX4, "learn", "(II)V"⟩
abbrev cX4_learnIn : ByteArray := prog_6_method_19_code
def yX4_learnIn : MethodName := ⟨RX4, "learnIn", "(II)Z"⟩
abbrev cX4_rescale : ByteArray := prog_6_method_20_code
def yX4_rescale : MethodName := ⟨RX4, "rescale", "(I)V"⟩
abbrev cX4_addNode : ByteArray := prog_6_method_21_code
def yX4_addNode : MethodName := ⟨RX4, "addNode", "(II)V"⟩
abbrev cX4_addContext : ByteArray := prog_6_method_22_code
def yX4_addContext : MethodName := ⟨RX4, "addContext", "(I)I"⟩
abbrev cX4_growNodes : ByteArray := prog_6_method_23_code
def yX4_growNodes : MethodName := ⟨RX4, "growNodes", "()V"⟩
abbrev cX4_growContexts : ByteArray := prog_6_method_24_code
def yX4_growContexts : MethodName := ⟨RX4, "growContexts", "()V"⟩
abbrev cX4_dropAll : ByteArray := prog_6_method_25_code
def yX4_dropAll : MethodName := ⟨RX4, "dropAll", "()V"⟩
abbrev cX4_isContext : ByteArray := prog_6_method_26_code
def yX4_isContext : MethodName := ⟨RX4, "isContext", "(I)Z"⟩
abbrev cX4_isNode : ByteArray := prog_6_method_27_code
def yX4_isNode : MethodName := ⟨RX4, "isNode", "(I)Z"⟩
abbrev cX4_bucketOf : ByteArray := prog_6_method_28_code
def yX4_bucketOf : MethodName := ⟨RX4, "bucketOf", "(I)I"⟩
def RX5 : String := "EscapeCoder$StepRow"
def TX5 : u_T := fun k => match k with
  | 0 => ("EscapeCoder$StepRow", "packed", "[J", false)
  | 1 => ("EscapeCoder$StepRow", "made", "I", false)
  | _ => ("EscapeCoder$StepRow", "escapes", "I", false)
def tyX5 : Nat → FieldType := fun k => match k with
  | 0 => .array .long
  | 1 => .int
  | _ => .int
abbrev wsX50 : List Cond := u_ws RX5 TX5 3
theorem nmX5 : ∀ a, a < 3 → ∀ b, b < 3 → a ≠ b → (TX5 a).2.1 ≠ (TX5 b).2.1 := by decide +kernel
theorem tyX5_ok : ∀ k, k < 3 → parseFieldDescriptor (TX5 k).2.2.1 = some (tyX5 k) := by decide +kernel
abbrev cX5_init : ByteArray := prog_7_method_1_code
def yX5_init : MethodName := ⟨RX5, "<init>", "()V"⟩
abbrev cX5_made : ByteArray := prog_7_method_2_code
def yX5_made : MethodName := ⟨RX5, "made", "()I"⟩
abbrev cX5_escapes : ByteArray := prog_7_method_3_code
def yX5_escapes : MethodName := ⟨RX5, "escapes", "()I"⟩
abbrev cX5_clear : ByteArray := prog_7_method_4_code
def yX5_clear : MethodName := ⟨RX5, "clear", "()V"⟩
abbrev cX5_add : ByteArray := prog_7_method_5_code
def yX5_add : MethodName := ⟨RX5, "add", "(IIIIZ)V"⟩
abbrev cX5_answer : ByteArray := prog_7_method_6_code
def yX5_answer : MethodName := ⟨RX5, "answer", "(II)I"⟩
def RX6 : String := "EscapeCoder$Teller"
def TX6 : u_T := fun k => match k with
  | 0 => ("EscapeCoder$Teller", "model", "LEscapeCoder$Model;", true)
  | 1 => ("EscapeCoder$Teller", "steps", "LEscapeCoder$StepRow;", true)
  | 2 => ("EscapeCoder$Teller", "outSince", "[I", true)
  | 3 => ("EscapeCoder$Teller", "live", "[I", true)
  | 4 => ("EscapeCoder$Teller", "lives", "I", false)
  | 5 => ("EscapeCoder$Teller", "liveTotal", "I", false)
  | 6 => ("EscapeCoder$Teller", "turn", "I", false)
  | 7 => ("EscapeCoder$Teller", "outs", "I", false)
  | _ => ("EscapeCoder$Teller", "toldOrder", "I", false)
def tyX6 : Nat → FieldType := fun k => match k with
  | 0 => .object "EscapeCoder$Model"
  | 1 => .object "EscapeCoder$StepRow"
  | 2 => .array .int
  | 3 => .array .int
  | 4 => .int
  | 5 => .int
  | 6 => .int
  | 7 => .int
  | _ => .int
abbrev wsX60 : List Cond := u_ws RX6 TX6 9
theorem nmX6 : ∀ a, a < 9 → ∀ b, b < 9 → a ≠ b → (TX6 a).2.1 ≠ (TX6 b).2.1 := by decide +kernel
theorem tyX6_ok : ∀ k, k < 9 → parseFieldDescriptor (TX6 k).2.2.1 = some (tyX6 k) := by decide +kernel
abbrev cX6_init : ByteArray := prog_8_method_1_code
def yX6_init : MethodName := ⟨RX6, "<init>", "(LEscapeCoder$Model;LEscapeCoder$StepRow;)V"⟩
abbrev cX6_toldOrder : ByteArray := prog_8_method_2_code
def yX6_toldOrder : MethodName := ⟨RX6, "toldOrder", "()I"⟩
abbrev cX6_tell : ByteArray := prog_8_method_3_code
def yX6_tell : MethodName := ⟨RX6, "tell", "(ILEscapeCoder$Interval;)I"⟩
abbrev cX6_gather : ByteArray := prog_8_method_4_code
def yX6_gather : MethodName := ⟨RX6, "gather", "(I)V"⟩
abbrev cX6_tellAmongLive : ByteArray := prog_8_method_5_code
def yX6_tellAmongLive : MethodName := ⟨RX6, "tellAmongLive", "(IILEscapeCoder$Interval;)I"⟩
abbrev cX6_liveBeginOf : ByteArray := prog_8_method_6_code
def yX6_liveBeginOf : MethodName := ⟨RX6, "liveBeginOf", "(I)I"⟩
abbrev cX6_putLiveOut : ByteArray := prog_8_method_7_code
def yX6_putLiveOut : MethodName := ⟨RX6, "putLiveOut", "()V"⟩
abbrev cX6_isOut : ByteArray := prog_8_method_8_code
def yX6_isOut : MethodName := ⟨RX6, "isOut", "(I)Z"⟩
abbrev cX6_tellPlainly : ByteArray := prog_8_method_9_code
def yX6_tellPlainly : MethodName := ⟨RX6, "tellPlainly", "(ILEscapeCoder$Interval;)I"⟩
abbrev cX6_plainBeginOf : ByteArray := prog_8_method_10_code
def yX6_plainBeginOf : MethodName := ⟨RX6, "plainBeginOf", "(I)I"⟩
abbrev cX6_plainSymbolAt : ByteArray := prog_8_method_11_code
def yX6_plainSymbolAt : MethodName := ⟨RX6, "plainSymbolAt", "(I)I"⟩
def RX7 : String := "EscapeCoder"
def TX7 : u_T := fun k => match k with
  | 0 => ("EscapeCoder", "text", "LEscapeCoder$ByteRow;", true)
  | 1 => ("EscapeCoder", "code", "LEscapeCoder$ByteRow;", true)
  | 2 => ("EscapeCoder", "output", "LEscapeCoder$ByteRow;", true)
  | 3 => ("EscapeCoder", "steps", "LEscapeCoder$StepRow;", true)
  | 4 => ("EscapeCoder", "model", "LEscapeCoder$Model;", true)
  | 5 => ("EscapeCoder", "teller", "LEscapeCoder$Teller;", true)
  | 6 => ("EscapeCoder", "writer", "LEscapeCoder$CodeWriter;", true)
  | 7 => ("EscapeCoder", "reader", "LEscapeCoder$CodeReader;", true)
  | 8 => ("EscapeCoder", "latestShifts", "J", false)
  | _ => ("EscapeCoder", "latestRange", "J", false)
def tyX7 : Nat → FieldType := fun k => match k with
  | 0 => .object "EscapeCoder$ByteRow"
  | 1 => .object "EscapeCoder$ByteRow"
  | 2 => .object "EscapeCoder$ByteRow"
  | 3 => .object "EscapeCoder$StepRow"
  | 4 => .object "EscapeCoder$Model"
  | 5 => .object "EscapeCoder$Teller"
  | 6 => .object "EscapeCoder$CodeWriter"
  | 7 => .object "EscapeCoder$CodeReader"
  | 8 => .long
  | _ => .long
abbrev wsX70 : List Cond := u_ws RX7 TX7 10
theorem nmX7 : ∀ a, a < 10 → ∀ b, b < 10 → a ≠ b → (TX7 a).2.1 ≠ (TX7 b).2.1 := by decide +kernel
theorem tyX7_ok : ∀ k, k < 10 → parseFieldDescriptor (TX7 k).2.2.1 = some (tyX7 k) := by decide +kernel
abbrev cX7_init : ByteArray := prog_1_method_1_code
def yX7_init : MethodName := ⟨RX7, "<init>", "()V"⟩
abbrev cX7_begin : ByteArray := prog_1_method_2_code
def yX7_begin : MethodName := ⟨RX7, "begin", "(I)Z"⟩
abbrev cX7_feed : ByteArray := prog_1_method_3_code
def yX7_feed : MethodName := ⟨RX7, "feed", "(I)Z"⟩
abbrev cX7_cut : ByteArray := prog_1_method_4_code
def yX7_cut : MethodName := ⟨RX7, "cut", "(I)Z"⟩
abbrev cX7_encode : ByteArray := prog_1_method_5_code
def yX7_encode : MethodName := ⟨RX7, "encode", "()I"⟩
abbrev cX7_decode : ByteArray := prog_1_method_6_code
def yX7_decode : MethodName := ⟨RX7, "decode", "()I"⟩
abbrev cX7_push : ByteArray := prog_1_method_7_code
def yX7_push : MethodName := ⟨RX7, "push", "(I)Z"⟩
abbrev cX7_change : ByteArray := prog_1_method_8_code
def yX7_change : MethodName := ⟨RX7, "change", "(II)Z"⟩
abbrev cX7_keep : ByteArray := prog_1_method_9_code
def yX7_keep : MethodName := ⟨RX7, "keep", "(I)Z"⟩
abbrev cX7_at : ByteArray := prog_1_method_10_code
def yX7_at : MethodName := ⟨RX7, "at", "(II)I"⟩
abbrev cX7_size : ByteArray := prog_1_method_11_code
def yX7_size : MethodName := ⟨RX7, "size", "(I)I"⟩
abbrev cX7_step : ByteArray := prog_1_method_12_code
def yX7_step : MethodName := ⟨RX7, "step", "(II)I"⟩
abbrev cX7_count : ByteArray := prog_1_method_13_code
def yX7_count : MethodName := ⟨RX7, "count", "(I)J"⟩
abbrev cX7_learnt : ByteArray := prog_1_method_14_code
def yX7_learnt : MethodName := ⟨RX7, "learnt", "(IIII)I"⟩
abbrev cX7_node : ByteArray := prog_1_method_15_code
def yX7_node : MethodName := ⟨RX7, "node", "(IIII)I"⟩
abbrev cX7_readUpToEnd : ByteArray := prog_1_method_16_code
def yX7_readUpToEnd : MethodName := ⟨RX7, "readUpToEnd", "()Z"⟩
abbrev cX7_noteEnd : ByteArray := prog_1_method_17_code
def yX7_noteEnd : MethodName := ⟨RX7, "noteEnd", "(LEscapeCoder$Interval;)V"⟩
abbrev cX7_rowOf : ByteArray := prog_1_method_18_code
def yX7_rowOf : MethodName := ⟨RX7, "rowOf", "(I)LEscapeCoder$ByteRow;"⟩
abbrev cX7_isByte : ByteArray := prog_1_method_19_code
def yX7_isByte : MethodName := ⟨RX7, "isByte", "(I)Z"⟩
abbrev cX7_keyOf : ByteArray := prog_1_method_20_code
def yX7_keyOf : MethodName := ⟨RX7, "keyOf", "(III)I"⟩
abbrev cX7_grown : ByteArray := prog_1_method_21_code
def yX7_grown : MethodName := ⟨RX7, "grown", "(II)I"⟩
def RX8 : String := "EscapeCoderModel"
def TX8 : u_T := fun k => match k with
  | 0 => ("EscapeCoderModel", "text", "[B", true)
  | 1 => ("EscapeCoderModel", "textSize", "I", false)
  | 2 => ("EscapeCoderModel", "code", "[B", true)
  | 3 => ("EscapeCoderModel", "codeSize", "I", false)
  | 4 => ("EscapeCoderModel", "output", "[B", true)
  | 5 => ("EscapeCoderModel", "outputSize", "I", false)
  | 6 => ("EscapeCoderModel", "limit", "I", false)
  | 7 => ("EscapeCoderModel", "context", "[I", true)
  | 8 => ("EscapeCoderModel", "symbol", "[S", true)
  | 9 => ("EscapeCoderModel", "counts", "[S", true)
  | 10 => ("EscapeCoderModel", "nodes", "I", false)
  | 11 => ("EscapeCoderModel", "stepBegin", "[S", true)
  | 12 => ("EscapeCoderModel", "stepPart", "[S", true)
  | 13 => ("EscapeCoderModel", "stepWhole", "[S", true)
  | 14 => ("EscapeCoderModel", "stepOrder", "[B", true)
  | 15 => ("EscapeCoderModel", "steps", "I", false)
  | 16 => ("EscapeCoderModel", "escapes", "I", false)
  | 17 => ("EscapeCoderModel", "shifts", "I", false)
  | 18 => ("EscapeCoderModel", "rescalings", "I", false)
  | 19 => ("EscapeCoderModel", "resets", "I", false)
  | 20 => ("EscapeCoderModel", "range", "J", false)
  | 21 => ("EscapeCoderModel", "isOut", "[Z", true)
  | 22 => ("EscapeCoderModel", "before", "I", false)
  | 23 => ("EscapeCoderModel", "earlier", "I", false)
  | 24 => ("EscapeCoderModel", "told", "I", false)
  | 25 => ("EscapeCoderModel", "reads", "Z", false)
  | 26 => ("EscapeCoderModel", "isFull", "Z", false)
  | 27 => ("EscapeCoderModel", "above", "J", false)
  | 28 => ("EscapeCoderModel", "next", "I", false)
  | _ => ("EscapeCoderModel", "toldIn", "I", false)
def tyX8 : Nat → FieldType := fun k => match k with
  | 0 => .array .byte
  | 1 => .int
  | 2 => .array .byte
  | 3 => .int
  | 4 => .array .byte
  | 5 => .int
  | 6 => .int
  | 7 => .array .int
  | 8 => .array .short
  | 9 => .array .short
  | 10 => .int
  | 11 => .array .short
  | 12 => .array .short
  | 13 => .array .short
  | 14 => .array .byte
  | 15 => .int
  | 16 => .int
  | 17 => .int
  | 18 => .int
  | 19 => .int
  | 20 => .long
  | 21 => .array .boolean
  | 22 => .int
  | 23 => .int
  | 24 => .int
  | 25 => .boolean
  | 26 => .boolean
  | 27 => .long
  | 28 => .int
  | _ => .int
abbrev wsX80 : List Cond := u_ws RX8 TX8 30
theorem nmX8 : ∀ a, a < 30 → ∀ b, b < 30 → a ≠ b → (TX8 a).2.1 ≠ (TX8 b).2.1 := by decide +kernel
theorem tyX8_ok : ∀ k, k < 30 → parseFieldDescriptor (TX8 k).2.2.1 = some (tyX8 k) := by decide +kernel
abbrev cX8_init : ByteArray := prog_10_method_1_code
def yX8_init : MethodName := ⟨RX8, "<init>", "()V"⟩
abbrev cX8_begin : ByteArray := prog_10_method_3_code
def yX8_begin : MethodName := ⟨RX8, "begin", "(I)Z"⟩
abbrev cX8_startModel : ByteArray := prog_10_method_4_code
def yX8_startModel : MethodName := ⟨RX8, "startModel", "()V"⟩
abbrev cX8_feed : ByteArray := prog_10_method_5_code
def yX8_feed : MethodName := ⟨RX8, "feed", "(I)Z"⟩
abbrev cX8_cut : ByteArray := prog_10_method_6_code
def yX8_cut : MethodName := ⟨RX8, "cut", "(I)Z"⟩
abbrev cX8_contextOf : ByteArray := prog_10_method_7_code
def yX8_contextOf : MethodName := ⟨RX8, "contextOf", "(III)I"⟩
abbrev cX8_here : ByteArray := prog_10_method_8_code
def yX8_here : MethodName := ⟨RX8, "here", "(I)I"⟩
abbrev cX8_find : ByteArray := prog_10_method_9_code
def yX8_find : MethodName := ⟨RX8, "find", "(II)I"⟩
abbrev cX8_learn : ByteArray := prog_10_method_10_code
def yX8_learn : MethodName := ⟨RX8, "learn", "(II)V"⟩
abbrev cX8_halve : ByteArray := prog_10_method_11_code
def yX8_halve : MethodName := ⟨RX8, "halve", "(I)V"⟩
abbrev cX8_goBy : ByteArray := prog_10_method_12_code
def yX8_goBy : MethodName := ⟨RX8, "goBy", "(I)V"⟩
abbrev cX8_note : ByteArray := prog_10_method_13_code
def yX8_note : MethodName := ⟨RX8, "note", "(IIII)V"⟩
abbrev cX8_narrow : ByteArray := prog_10_method_14_code
def yX8_narrow : MethodName := ⟨RX8, "narrow", "(III)V"⟩
abbrev cX8_addLow : ByteArray := prog_10_method_15_code
def yX8_addLow : MethodName := ⟨RX8, "addLow", "(J)V"⟩
abbrev cX8_nextByte : ByteArray := prog_10_method_16_code
def yX8_nextByte : MethodName := ⟨RX8, "nextByte", "()I"⟩
abbrev cX8_placeOf : ByteArray := prog_10_method_17_code
def yX8_placeOf : MethodName := ⟨RX8, "placeOf", "(I)I"⟩
abbrev cX8_tell : ByteArray := prog_10_method_18_code
def yX8_tell : MethodName := ⟨RX8, "tell", "(I)I"⟩
abbrev cX8_tellIn : ByteArray := prog_10_method_19_code
def yX8_tellIn : MethodName := ⟨RX8, "tellIn", "(IIIII)I"⟩
abbrev cX8_encode : ByteArray := prog_10_method_20_code
def yX8_encode : MethodName := ⟨RX8, "encode", "()I"⟩
abbrev cX8_decode : ByteArray := prog_10_method_21_code
def yX8_decode : MethodName := ⟨RX8, "decode", "()I"⟩
abbrev cX8_push : ByteArray := prog_10_method_22_code
def yX8_push : MethodName := ⟨RX8, "push", "(I)Z"⟩
abbrev cX8_change : ByteArray := prog_10_method_23_code
def yX8_change : MethodName := ⟨RX8, "change", "(II)Z"⟩
abbrev cX8_keep : ByteArray := prog_10_method_24_code
def yX8_keep : MethodName := ⟨RX8, "keep", "(I)Z"⟩
abbrev cX8_size : ByteArray := prog_10_method_25_code
def yX8_size : MethodName := ⟨RX8, "size", "(I)I"⟩
abbrev cX8_at : ByteArray := prog_10_method_26_code
def yX8_at : MethodName := ⟨RX8, "at", "(II)I"⟩
abbrev cX8_step : ByteArray := prog_10_method_27_code
def yX8_step : MethodName := ⟨RX8, "step", "(II)I"⟩
abbrev cX8_count : ByteArray := prog_10_method_28_code
def yX8_count : MethodName := ⟨RX8, "count", "(I)J"⟩
abbrev cX8_isByte : ByteArray := prog_10_method_29_code
def yX8_isByte : MethodName := ⟨RX8, "isByte", "(I)Z"⟩
abbrev cX8_isContext : ByteArray := prog_10_method_30_code
def yX8_isContext : MethodName := ⟨RX8, "isContext", "(III)Z"⟩
abbrev cX8_learnt : ByteArray := prog_10_method_31_code
def yX8_learnt : MethodName := ⟨RX8, "learnt", "(IIII)I"⟩
abbrev cX8_node : ByteArray := prog_10_method_32_code
def yX8_node : MethodName := ⟨RX8, "node", "(IIII)I"⟩
def RJx8e188 : String := "java/lang/Cloneable"
def TJx8e188 : u_T := fun k => match k with
  | _ => ("", "", "", false)
def tyJx8e188 : Nat → FieldType := fun k => match k with
  | _ => .int
abbrev wsJx8e1880 : List Cond := u_ws RJx8e188 TJx8e188 0
theorem nmJx8e188 : ∀ a, a < 0 → ∀ b, b < 0 → a ≠ b → (TJx8e188 a).2.1 ≠ (TJx8e188 b).2.1 := by decide +kernel
theorem tyJx8e188_ok : ∀ k, k < 0 → parseFieldDescriptor (TJx8e188 k).2.2.1 = some (tyJx8e188 k) := by decide +kernel
def RJ9 : String := "java/lang/Math"
def TJ9 : u_T := fun k => match k with
  | _ => ("", "", "", false)
def tyJ9 : Nat → FieldType := fun k => match k with
  | _ => .int
abbrev wsJ90 : List Cond := u_ws RJ9 TJ9 0
theorem nmJ9 : ∀ a, a < 0 → ∀ b, b < 0 → a ≠ b → (TJ9 a).2.1 ≠ (TJ9 b).2.1 := by decide +kernel
theorem tyJ9_ok : ∀ k, k < 0 → parseFieldDescriptor (TJ9 k).2.2.1 = some (tyJ9 k) := by decide +kernel
abbrev cJ9_max_7cf53 : ByteArray := prog_12_method_65_code
def yJ9_max_7cf53 : MethodName := ⟨RJ9, "max", "(II)I"⟩
abbrev cJ9_min_7cf53 : ByteArray := prog_12_method_69_code
def yJ9_min_7cf53 : MethodName := ⟨RJ9, "min", "(II)I"⟩
abbrev cJ9_min_f86c9 : ByteArray := prog_12_method_70_code
def yJ9_min_f86c9 : MethodName := ⟨RJ9, "min", "(JJ)J"⟩
def RJ10 : String := "java/lang/System"
def TJ10 : u_T := fun k => match k with
  | _ => ("", "", "", false)
def tyJ10 : Nat → FieldType := fun k => match k with
  | _ => .int
abbrev wsJ100 : List Cond := u_ws RJ10 TJ10 0
theorem nmJ10 : ∀ a, a < 0 → ∀ b, b < 0 → a ≠ b → (TJ10 a).2.1 ≠ (TJ10 b).2.1 := by decide +kernel
theorem tyJ10_ok : ∀ k, k < 0 → parseFieldDescriptor (TJ10 k).2.2.1 = some (tyJ10 k) := by decide +kernel
def RJ7 : String := "java/util/Arrays"
def TJ7 : u_T := fun k => match k with
  | _ => ("", "", "", false)
def tyJ7 : Nat → FieldType := fun k => match k with
  | _ => .int
abbrev wsJ70 : List Cond := u_ws RJ7 TJ7 0
theorem nmJ7 : ∀ a, a < 0 → ∀ b, b < 0 → a ≠ b → (TJ7 a).2.1 ≠ (TJ7 b).2.1 := by decide +kernel
theorem tyJ7_ok : ∀ k, k < 0 → parseFieldDescriptor (TJ7 k).2.2.1 = some (tyJ7 k) := by decide +kernel
abbrev cJ7_fill_53178 : ByteArray := prog_14_method_103_code
def yJ7_fill_53178 : MethodName := ⟨RJ7, "fill", "([II)V"⟩
abbrev cJ7_copyOf_59c91 : ByteArray := prog_14_method_123_code
def yJ7_copyOf_59c91 : MethodName := ⟨RJ7, "copyOf", "([II)[I"⟩
abbrev cJ7_copyOf_c38d5 : ByteArray := prog_14_method_124_code
def yJ7_copyOf_c38d5 : MethodName := ⟨RJ7, "copyOf", "([JI)[J"⟩
def RL : String := "EscapeCoderLaw"
abbrev cL_law : ByteArray := code
def yL_law : MethodName := ⟨RL, "law", "([I)Z"⟩
def wsX0_init : List Cond := .code yX0_init cX0_init 2 none :: ([.methodLink RX0 3 objectInit, .instanceMethod objectInit, .code objectInit ⟨#[0xb1]⟩ 1 none, .fieldLink RX0 9 "EscapeCoder$ByteRow" "most" "I", .arrayClass .int, .fieldLink RX0 15 "EscapeCoder$ByteRow" "bytes" "[I"] ++ wsX00)
def wsX0_length : List Cond := .code yX0_length cX0_length 1 (some .int) :: ([.fieldLink RX0 19 "EscapeCoder$ByteRow" "length" "I"] ++ wsX00)
def wsX0_clear : List Cond := .code yX0_clear cX0_clear 1 none :: ([.fieldLink RX0 19 "EscapeCoder$ByteRow" "length" "I"] ++ wsX00)
def wsX7_isByte : List Cond := .code yX7_isByte cX7_isByte 1 (some .boolean) :: ([])
def wsX7_grown : List Cond := .code yX7_grown cX7_grown 2 (some .int) :: ([.methodLink RX7 183 Lib.Math.min.name, .static Lib.Math.min.name, .initialized "java/lang/Math", .code Lib.Math.min.name Lib.Math.min.code 2 (some .int)])
def wsJ7_copyOf_59c91 : List Cond := .code yJ7_copyOf_59c91 cJ7_copyOf_59c91 3 (some (.array .int)) :: ([.methodLink RJ7 316 ⟨"[I", "clone", "()Ljava/lang/Object;"⟩, .sameMethod "[I" "java/lang/Object" "clone" "()Ljava/lang/Object;", .native ⟨"java/lang/Object", "clone", "()Ljava/lang/Object;"⟩, .instanceMethod ⟨"java/lang/Object", "clone", "()Ljava/lang/Object;"⟩, .selects "[I" ⟨"[I", "clone", "()Ljava/lang/Object;"⟩ ⟨"java/lang/Object", "clone", "()Ljava/lang/Object;"⟩, .classLink RJ7 317 "[I", .arrayClass .int, .methodLink RJ7 304 Lib.Math.min.name, .static Lib.Math.min.name, .initialized "java/lang/Math", .code Lib.Math.min.name Lib.Math.min.code 2 (some .int), .methodLink RJ7 150 arraycopyName, .native arraycopyName, .static arraycopyName, .initialized "java/lang/System"])
def wsX0_add_r1 : List Cond := [Cond.fieldLink RX0 19 "EscapeCoder$ByteRow" "length" "I", Cond.fieldLink RX0 9 "EscapeCoder$ByteRow" "most" "I", Cond.fieldLink RX0 15 "EscapeCoder$ByteRow" "bytes" "[I", Cond.static yX7_isByte, Cond.initialized RX7, Cond.code yX7_isByte cX7_isByte 1 (some .boolean), Cond.static yX7_grown, Cond.code yX7_grown cX7_grown 2 (some .int), Cond.methodLink RX7 183 Lib.Math.min.name, Cond.static Lib.Math.min.name, Cond.initialized "java/lang/Math", Cond.code Lib.Math.min.name Lib.Math.min.code 2 (some .int), Cond.methodLink RX0 30 yJ7_copyOf_59c91, Cond.static yJ7_copyOf_59c91, Cond.initialized RJ7, Cond.code yJ7_copyOf_59c91 cJ7_copyOf_59c91 3 (some (.array .int)), Cond.methodLink RJ7 316 ⟨"[I", "clone", "()Ljava/lang/Object;"⟩, Cond.sameMethod "[I" "java/lang/Object" "clone" "()Ljava/lang/Object;", Cond.native ⟨"java/lang/Object", "clone", "()Ljava/lang/Object;"⟩, Cond.instanceMethod ⟨"java/lang/Object", "clone", "()Ljava/lang/Object;"⟩, Cond.selects "[I" ⟨"[I", "clone", "()Ljava/lang/Object;"⟩ ⟨"java/lang/Object", "clone", "()Ljava/lang/Object;"⟩, Cond.classLink RJ7 317 "[I", Cond.arrayClass .int, Cond.methodLink RJ7 304 Lib.Math.min.name]
def wsX0_add_r2 : List Cond := [Cond.methodLink RJ7 150 arraycopyName, Cond.native arraycopyName, Cond.static arraycopyName, Cond.initialized "java/lang/System"]
def wsX0_add : List Cond := .code yX0_add cX0_add 2 (some .boolean) :: ((wsX0_add_r1 ++ wsX0_add_r2) ++ wsX00)
def wsX0_put : List Cond := .code yX0_put cX0_put 3 (some .boolean) :: ([.fieldLink RX0 19 "EscapeCoder$ByteRow" "length" "I", .fieldLink RX0 15 "EscapeCoder$ByteRow" "bytes" "[I", .static yX7_isByte, .initialized RX7, .code yX7_isByte cX7_isByte 1 (some .boolean)] ++ wsX00)
def wsX0_shorten : List Cond := .code yX0_shorten cX0_shorten 2 (some .boolean) :: ([.fieldLink RX0 19 "EscapeCoder$ByteRow" "length" "I"] ++ wsX00)
def wsX0_byteAt : List Cond := .code yX0_byteAt cX0_byteAt 2 (some .int) :: ([.fieldLink RX0 19 "EscapeCoder$ByteRow" "length" "I", .fieldLink RX0 15 "EscapeCoder$ByteRow" "bytes" "[I"] ++ wsX00)
def wsX3_init : List Cond := .code yX3_init cX3_init 1 none :: ([.methodLink RX3 1 objectInit, .instanceMethod objectInit, .code objectInit ⟨#[0xb1]⟩ 1 none])
def wsX1_init : List Cond := .code yX1_init cX1_init 2 none :: ([.fieldLink RX1 9 "EscapeCoder$CodeReader" "code" "LEscapeCoder$ByteRow;", .instanceMethod yX3_init, .initialized RX3, .code yX3_init cX3_init 1 none, .methodLink RX3 1 objectInit, .instanceMethod objectInit, .code objectInit ⟨#[0xb1]⟩ 1 none] ++ wsX10)
def wsX3_widen : List Cond := .code yX3_widen cX3_widen 1 none :: ([.constantLong RX3 17 (4294967295), .fieldLink RX3 7 "EscapeCoder$Interval" "range" "J", .fieldLink RX3 13 "EscapeCoder$Interval" "shifts" "I"] ++ wsX10 ++ wsX20)
def wsX1_shiftOnce : List Cond := .code yX1_shiftOnce cX1_shiftOnce 1 none :: ([.fieldLink RX1 18 "EscapeCoder$CodeReader" "ahead" "J", .constantLong RX1 39 (256), .fieldLink RX1 22 "EscapeCoder$CodeReader" "taken" "I", .fieldLink RX1 9 "EscapeCoder$CodeReader" "code" "LEscapeCoder$ByteRow;", .methodLink RX1 41 yX0_length, .instanceMethod yX0_length, .selects RX0 yX0_length yX0_length, .initialized RX0, .code yX0_length cX0_length 1 (some .int), .fieldLink RX0 19 "EscapeCoder$ByteRow" "length" "I", .methodLink RX1 47 yX0_byteAt, .instanceMethod yX0_byteAt, .selects RX0 yX0_byteAt yX0_byteAt, .code yX0_byteAt cX0_byteAt 2 (some .int), .fieldLink RX0 15 "EscapeCoder$ByteRow" "bytes" "[I"] ++ wsX10 ++ wsX00)
def wsX1_restart_r1 : List Cond := [Cond.fieldLink RX1 18 "EscapeCoder$CodeReader" "ahead" "J", Cond.fieldLink RX1 22 "EscapeCoder$CodeReader" "taken" "I", Cond.methodLink RX1 15 ⟨"EscapeCoder$CodeReader", "widen", "()V"⟩, Cond.sameMethod "EscapeCoder$CodeReader" "EscapeCoder$Interval" "widen" "()V", Cond.selects RX1 ⟨"EscapeCoder$CodeReader", "widen", "()V"⟩ yX3_widen, Cond.instanceMethod yX3_widen, Cond.initialized RX3, Cond.code yX3_widen cX3_widen 1 none, Cond.constantLong RX3 17 (4294967295), Cond.fieldLink RX3 7 "EscapeCoder$Interval" "range" "J", Cond.fieldLink RX3 13 "EscapeCoder$Interval" "shifts" "I", Cond.methodLink RX1 26 yX1_shiftOnce, Cond.instanceMethod yX1_shiftOnce, Cond.selects RX1 yX1_shiftOnce yX1_shiftOnce, Cond.initialized RX1, Cond.code yX1_shiftOnce cX1_shiftOnce 1 none, Cond.constantLong RX1 39 (256), Cond.fieldLink RX1 9 "EscapeCoder$CodeReader" "code" "LEscapeCoder$ByteRow;", Cond.methodLink RX1 41 yX0_length, Cond.instanceMethod yX0_length, Cond.selects RX0 yX0_length yX0_length, Cond.initialized RX0, Cond.code yX0_length cX0_length 1 (some .int), Cond.fieldLink RX0 19 "EscapeCoder$ByteRow" "length" "I"]
def wsX1_restart_r2 : List Cond := [Cond.methodLink RX1 47 yX0_byteAt, Cond.instanceMethod yX0_byteAt, Cond.selects RX0 yX0_byteAt yX0_byteAt, Cond.code yX0_byteAt cX0_byteAt 2 (some .int), Cond.fieldLink RX0 15 "EscapeCoder$ByteRow" "bytes" "[I"]
def wsX1_restart : List Cond := .code yX1_restart cX1_restart 2 none :: ((wsX1_restart_r1 ++ wsX1_restart_r2) ++ wsX10 ++ wsX20 ++ wsX00)
def wsX3_unitOf : List Cond := .code yX3_unitOf cX3_unitOf 2 (some .long) :: ([.fieldLink RX3 7 "EscapeCoder$Interval" "range" "J"] ++ wsX10 ++ wsX20)
def wsX1_placeIn : List Cond := .code yX1_placeIn cX1_placeIn 5 (some .int) :: ([.fieldLink RX1 18 "EscapeCoder$CodeReader" "ahead" "J", .methodLink RX1 33 Lib.MathLoose.min_long.x, .static Lib.MathLoose.min_long.x, .initialized "java/lang/Math", .code Lib.MathLoose.min_long.x Lib.MathLoose.min_long.code 4 (some .long), .methodLink RX1 29 ⟨"EscapeCoder$CodeReader", "unitOf", "(I)J"⟩, .sameMethod "EscapeCoder$CodeReader" "EscapeCoder$Interval" "unitOf" "(I)J", .selects RX1 ⟨"EscapeCoder$CodeReader", "unitOf", "(I)J"⟩ yX3_unitOf, .instanceMethod yX3_unitOf, .initialized RX3, .code yX3_unitOf cX3_unitOf 2 (some .long), .fieldLink RX3 7 "EscapeCoder$Interval" "range" "J"] ++ wsX10 ++ wsX20)
def wsX1_raiseLow : List Cond := .code yX1_raiseLow cX1_raiseLow 3 none :: ([.fieldLink RX1 18 "EscapeCoder$CodeReader" "ahead" "J"] ++ wsX10)
def wsX2_init : List Cond := .code yX2_init cX2_init 2 none :: ([.fieldLink RX2 9 "EscapeCoder$CodeWriter" "code" "LEscapeCoder$ByteRow;", .instanceMethod yX3_init, .initialized RX3, .code yX3_init cX3_init 1 none, .methodLink RX3 1 objectInit, .instanceMethod objectInit, .code objectInit ⟨#[0xb1]⟩ 1 none] ++ wsX20)
def wsX2_restart : List Cond := .code yX2_restart cX2_restart 1 none :: ([.fieldLink RX2 9 "EscapeCoder$CodeWriter" "code" "LEscapeCoder$ByteRow;", .fieldLink RX2 23 "EscapeCoder$CodeWriter" "low" "J", .methodLink RX2 15 ⟨"EscapeCoder$CodeWriter", "widen", "()V"⟩, .sameMethod "EscapeCoder$CodeWriter" "EscapeCoder$Interval" "widen" "()V", .selects RX2 ⟨"EscapeCoder$CodeWriter", "widen", "()V"⟩ yX3_widen, .instanceMethod yX3_widen, .initialized RX3, .code yX3_widen cX3_widen 1 none, .constantLong RX3 17 (4294967295), .fieldLink RX3 7 "EscapeCoder$Interval" "range" "J", .fieldLink RX3 13 "EscapeCoder$Interval" "shifts" "I", .methodLink RX2 18 yX0_clear, .instanceMethod yX0_clear, .selects RX0 yX0_clear yX0_clear, .initialized RX0, .code yX0_clear cX0_clear 1 none, .fieldLink RX0 19 "EscapeCoder$ByteRow" "length" "I"] ++ wsX20 ++ wsX10 ++ wsX00)
def wsX2_placeIn : List Cond := .code yX2_placeIn cX2_placeIn 3 (some .int) :: ([])
def wsX2_carry : List Cond := .code yX2_carry cX2_carry 3 none :: ([.fieldLink RX2 9 "EscapeCoder$CodeWriter" "code" "LEscapeCoder$ByteRow;", .methodLink RX2 42 yX0_length, .instanceMethod yX0_length, .selects RX0 yX0_length yX0_length, .initialized RX0, .code yX0_length cX0_length 1 (some .int), .fieldLink RX0 19 "EscapeCoder$ByteRow" "length" "I", .methodLink RX2 45 yX0_byteAt, .instanceMethod yX0_byteAt, .selects RX0 yX0_byteAt yX0_byteAt, .code yX0_byteAt cX0_byteAt 2 (some .int), .fieldLink RX0 15 "EscapeCoder$ByteRow" "bytes" "[I", .methodLink RX2 49 yX0_put, .instanceMethod yX0_put, .selects RX0 yX0_put yX0_put, .code yX0_put cX0_put 3 (some .boolean), .static yX7_isByte, .initialized RX7, .code yX7_isByte cX7_isByte 1 (some .boolean)] ++ wsX20 ++ wsX00)
def wsX2_raiseLow_r1 : List Cond := [Cond.fieldLink RX2 23 "EscapeCoder$CodeWriter" "low" "J", Cond.constantLong RX2 27 (4294967295), Cond.methodLink RX2 29 yX2_carry, Cond.instanceMethod yX2_carry, Cond.selects RX2 yX2_carry yX2_carry, Cond.initialized RX2, Cond.code yX2_carry cX2_carry 3 none, Cond.fieldLink RX2 9 "EscapeCoder$CodeWriter" "code" "LEscapeCoder$ByteRow;", Cond.methodLink RX2 42 yX0_length, Cond.instanceMethod yX0_length, Cond.selects RX0 yX0_length yX0_length, Cond.initialized RX0, Cond.code yX0_length cX0_length 1 (some .int), Cond.fieldLink RX0 19 "EscapeCoder$ByteRow" "length" "I", Cond.methodLink RX2 45 yX0_byteAt, Cond.instanceMethod yX0_byteAt, Cond.selects RX0 yX0_byteAt yX0_byteAt, Cond.code yX0_byteAt cX0_byteAt 2 (some .int), Cond.fieldLink RX0 15 "EscapeCoder$ByteRow" "bytes" "[I", Cond.methodLink RX2 49 yX0_put, Cond.instanceMethod yX0_put, Cond.selects RX0 yX0_put yX0_put, Cond.code yX0_put cX0_put 3 (some .boolean), Cond.static yX7_isByte]
def wsX2_raiseLow_r2 : List Cond := [Cond.initialized RX7, Cond.code yX7_isByte cX7_isByte 1 (some .boolean)]
def wsX2_raiseLow : List Cond := .code yX2_raiseLow cX2_raiseLow 3 none :: ((wsX2_raiseLow_r1 ++ wsX2_raiseLow_r2) ++ wsX20 ++ wsX00)
def wsX2_shiftOnce_r1 : List Cond := [Cond.fieldLink RX2 9 "EscapeCoder$CodeWriter" "code" "LEscapeCoder$ByteRow;", Cond.fieldLink RX2 23 "EscapeCoder$CodeWriter" "low" "J", Cond.constantLong RX2 27 (4294967295), Cond.methodLink RX2 32 yX0_add, Cond.instanceMethod yX0_add, Cond.selects RX0 yX0_add yX0_add, Cond.initialized RX0, Cond.code yX0_add cX0_add 2 (some .boolean), Cond.fieldLink RX0 19 "EscapeCoder$ByteRow" "length" "I", Cond.fieldLink RX0 9 "EscapeCoder$ByteRow" "most" "I", Cond.fieldLink RX0 15 "EscapeCoder$ByteRow" "bytes" "[I", Cond.static yX7_isByte, Cond.initialized RX7, Cond.code yX7_isByte cX7_isByte 1 (some .boolean), Cond.static yX7_grown, Cond.code yX7_grown cX7_grown 2 (some .int), Cond.methodLink RX7 183 Lib.Math.min.name, Cond.static Lib.Math.min.name, Cond.initialized "java/lang/Math", Cond.code Lib.Math.min.name Lib.Math.min.code 2 (some .int), Cond.methodLink RX0 30 yJ7_copyOf_59c91, Cond.static yJ7_copyOf_59c91, Cond.initialized RJ7, Cond.code yJ7_copyOf_59c91 cJ7_copyOf_59c91 3 (some (.array .int))]
def wsX2_shiftOnce_r2 : List Cond := [Cond.methodLink RJ7 316 ⟨"[I", "clone", "()Ljava/lang/Object;"⟩, Cond.sameMethod "[I" "java/lang/Object" "clone" "()Ljava/lang/Object;", Cond.native ⟨"java/lang/Object", "clone", "()Ljava/lang/Object;"⟩, Cond.instanceMethod ⟨"java/lang/Object", "clone", "()Ljava/lang/Object;"⟩, Cond.selects "[I" ⟨"[I", "clone", "()Ljava/lang/Object;"⟩ ⟨"java/lang/Object", "clone", "()Ljava/lang/Object;"⟩, Cond.classLink RJ7 317 "[I", Cond.arrayClass .int, Cond.methodLink RJ7 304 Lib.Math.min.name, Cond.methodLink RJ7 150 arraycopyName, Cond.native arraycopyName, Cond.static arraycopyName, Cond.initialized "java/lang/System"]
def wsX2_shiftOnce : List Cond := .code yX2_shiftOnce cX2_shiftOnce 1 none :: ((wsX2_shiftOnce_r1 ++ wsX2_shiftOnce_r2) ++ wsX20 ++ wsX00)
def wsX3_shifts : List Cond := .code yX3_shifts cX3_shifts 1 (some .int) :: ([.fieldLink RX3 13 "EscapeCoder$Interval" "shifts" "I"] ++ wsX10 ++ wsX20)
def wsX2_finish_r1 : List Cond := [Cond.fieldLink RX2 9 "EscapeCoder$CodeWriter" "code" "LEscapeCoder$ByteRow;", Cond.fieldLink RX2 23 "EscapeCoder$CodeWriter" "low" "J", Cond.constantLong RX2 40 (255), Cond.methodLink RX2 36 ⟨"EscapeCoder$CodeWriter", "shifts", "()I"⟩, Cond.sameMethod "EscapeCoder$CodeWriter" "EscapeCoder$Interval" "shifts" "()I", Cond.selects RX2 ⟨"EscapeCoder$CodeWriter", "shifts", "()I"⟩ yX3_shifts, Cond.instanceMethod yX3_shifts, Cond.initialized RX3, Cond.code yX3_shifts cX3_shifts 1 (some .int), Cond.fieldLink RX3 13 "EscapeCoder$Interval" "shifts" "I", Cond.methodLink RX2 18 yX0_clear, Cond.instanceMethod yX0_clear, Cond.selects RX0 yX0_clear yX0_clear, Cond.initialized RX0, Cond.code yX0_clear cX0_clear 1 none, Cond.fieldLink RX0 19 "EscapeCoder$ByteRow" "length" "I", Cond.methodLink RX2 32 yX0_add, Cond.instanceMethod yX0_add, Cond.selects RX0 yX0_add yX0_add, Cond.code yX0_add cX0_add 2 (some .boolean), Cond.fieldLink RX0 9 "EscapeCoder$ByteRow" "most" "I", Cond.fieldLink RX0 15 "EscapeCoder$ByteRow" "bytes" "[I", Cond.static yX7_isByte, Cond.initialized RX7]
def wsX2_finish_r2 : List Cond := [Cond.code yX7_isByte cX7_isByte 1 (some .boolean), Cond.static yX7_grown, Cond.code yX7_grown cX7_grown 2 (some .int), Cond.methodLink RX7 183 Lib.Math.min.name, Cond.static Lib.Math.min.name, Cond.initialized "java/lang/Math", Cond.code Lib.Math.min.name Lib.Math.min.code 2 (some .int), Cond.methodLink RX0 30 yJ7_copyOf_59c91, Cond.static yJ7_copyOf_59c91, Cond.initialized RJ7, Cond.code yJ7_copyOf_59c91 cJ7_copyOf_59c91 3 (some (.array .int)), Cond.methodLink RJ7 316 ⟨"[I", "clone", "()Ljava/lang/Object;"⟩, Cond.sameMethod "[I" "java/lang/Object" "clone" "()Ljava/lang/Object;", Cond.native ⟨"java/lang/Object", "clone", "()Ljava/lang/Object;"⟩, Cond.instanceMethod ⟨"java/lang/Object", "clone", "()Ljava/lang/Object;"⟩, Cond.selects "[I" ⟨"[I", "clone", "()Ljava/lang/Object;"⟩ ⟨"java/lang/Object", "clone", "()Ljava/lang/Object;"⟩, Cond.classLink RJ7 317 "[I", Cond.arrayClass .int, Cond.methodLink RJ7 304 Lib.Math.min.name, Cond.methodLink RJ7 150 arraycopyName, Cond.native arraycopyName, Cond.static arraycopyName, Cond.initialized "java/lang/System"]
def wsX2_finish : List Cond := .code yX2_finish cX2_finish 2 (some .boolean) :: ((wsX2_finish_r1 ++ wsX2_finish_r2) ++ wsX20 ++ wsX10 ++ wsX00)
def wsX3_range : List Cond := .code yX3_range cX3_range 1 (some .long) :: ([.fieldLink RX3 7 "EscapeCoder$Interval" "range" "J"] ++ wsX10 ++ wsX20)
def wsX3_narrow_r1 : List Cond := [Cond.fieldLink RX3 7 "EscapeCoder$Interval" "range" "J", Cond.constantLong RX3 27 (16777216), Cond.constantLong RX3 32 (256), Cond.fieldLink RX3 13 "EscapeCoder$Interval" "shifts" "I", Cond.methodLink RX3 19 ⟨"EscapeCoder$Interval", "unitOf", "(I)J"⟩, Cond.sameMethod "EscapeCoder$Interval" "EscapeCoder$Interval" "unitOf" "(I)J", Cond.selects RX1 ⟨"EscapeCoder$Interval", "unitOf", "(I)J"⟩ yX3_unitOf, Cond.instanceMethod yX3_unitOf, Cond.initialized RX3, Cond.code yX3_unitOf cX3_unitOf 2 (some .long), Cond.selects RX2 ⟨"EscapeCoder$Interval", "unitOf", "(I)J"⟩ yX3_unitOf, Cond.methodLink RX3 23 ⟨"EscapeCoder$Interval", "raiseLow", "(J)V"⟩, Cond.sameMethod "EscapeCoder$Interval" "EscapeCoder$Interval" "raiseLow" "(J)V", Cond.selects RX1 ⟨"EscapeCoder$Interval", "raiseLow", "(J)V"⟩ yX1_raiseLow, Cond.instanceMethod yX1_raiseLow, Cond.initialized RX1, Cond.code yX1_raiseLow cX1_raiseLow 3 none, Cond.fieldLink RX1 18 "EscapeCoder$CodeReader" "ahead" "J", Cond.selects RX2 ⟨"EscapeCoder$Interval", "raiseLow", "(J)V"⟩ yX2_raiseLow, Cond.instanceMethod yX2_raiseLow, Cond.initialized RX2, Cond.code yX2_raiseLow cX2_raiseLow 3 none, Cond.fieldLink RX2 23 "EscapeCoder$CodeWriter" "low" "J", Cond.constantLong RX2 27 (4294967295)]
def wsX3_narrow_r2 : List Cond := [Cond.methodLink RX2 29 yX2_carry, Cond.instanceMethod yX2_carry, Cond.selects RX2 yX2_carry yX2_carry, Cond.code yX2_carry cX2_carry 3 none, Cond.fieldLink RX2 9 "EscapeCoder$CodeWriter" "code" "LEscapeCoder$ByteRow;", Cond.methodLink RX2 42 yX0_length, Cond.instanceMethod yX0_length, Cond.selects RX0 yX0_length yX0_length, Cond.initialized RX0, Cond.code yX0_length cX0_length 1 (some .int), Cond.fieldLink RX0 19 "EscapeCoder$ByteRow" "length" "I", Cond.methodLink RX2 45 yX0_byteAt, Cond.instanceMethod yX0_byteAt, Cond.selects RX0 yX0_byteAt yX0_byteAt, Cond.code yX0_byteAt cX0_byteAt 2 (some .int), Cond.fieldLink RX0 15 "EscapeCoder$ByteRow" "bytes" "[I", Cond.methodLink RX2 49 yX0_put, Cond.instanceMethod yX0_put, Cond.selects RX0 yX0_put yX0_put, Cond.code yX0_put cX0_put 3 (some .boolean), Cond.static yX7_isByte, Cond.initialized RX7, Cond.code yX7_isByte cX7_isByte 1 (some .boolean), Cond.methodLink RX3 29 ⟨"EscapeCoder$Interval", "shiftOnce", "()V"⟩]
def wsX3_narrow_r3 : List Cond := [Cond.sameMethod "EscapeCoder$Interval" "EscapeCoder$Interval" "shiftOnce" "()V", Cond.selects RX1 ⟨"EscapeCoder$Interval", "shiftOnce", "()V"⟩ yX1_shiftOnce, Cond.instanceMethod yX1_shiftOnce, Cond.code yX1_shiftOnce cX1_shiftOnce 1 none, Cond.constantLong RX1 39 (256), Cond.fieldLink RX1 22 "EscapeCoder$CodeReader" "taken" "I", Cond.fieldLink RX1 9 "EscapeCoder$CodeReader" "code" "LEscapeCoder$ByteRow;", Cond.methodLink RX1 41 yX0_length, Cond.methodLink RX1 47 yX0_byteAt, Cond.selects RX2 ⟨"EscapeCoder$Interval", "shiftOnce", "()V"⟩ yX2_shiftOnce, Cond.instanceMethod yX2_shiftOnce, Cond.code yX2_shiftOnce cX2_shiftOnce 1 none, Cond.methodLink RX2 32 yX0_add, Cond.instanceMethod yX0_add, Cond.selects RX0 yX0_add yX0_add, Cond.code yX0_add cX0_add 2 (some .boolean), Cond.fieldLink RX0 9 "EscapeCoder$ByteRow" "most" "I", Cond.static yX7_grown, Cond.code yX7_grown cX7_grown 2 (some .int), Cond.methodLink RX7 183 Lib.Math.min.name, Cond.static Lib.Math.min.name, Cond.initialized "java/lang/Math", Cond.code Lib.Math.min.name Lib.Math.min.code 2 (some .int), Cond.methodLink RX0 30 yJ7_copyOf_59c91]
def wsX3_narrow_r4 : List Cond := [Cond.static yJ7_copyOf_59c91, Cond.initialized RJ7, Cond.code yJ7_copyOf_59c91 cJ7_copyOf_59c91 3 (some (.array .int)), Cond.methodLink RJ7 316 ⟨"[I", "clone", "()Ljava/lang/Object;"⟩, Cond.sameMethod "[I" "java/lang/Object" "clone" "()Ljava/lang/Object;", Cond.native ⟨"java/lang/Object", "clone", "()Ljava/lang/Object;"⟩, Cond.instanceMethod ⟨"java/lang/Object", "clone", "()Ljava/lang/Object;"⟩, Cond.selects "[I" ⟨"[I", "clone", "()Ljava/lang/Object;"⟩ ⟨"java/lang/Object", "clone", "()Ljava/lang/Object;"⟩, Cond.classLink RJ7 317 "[I", Cond.arrayClass .int, Cond.methodLink RJ7 304 Lib.Math.min.name, Cond.methodLink RJ7 150 arraycopyName, Cond.native arraycopyName, Cond.static arraycopyName, Cond.initialized "java/lang/System"]
def wsX3_narrow : List Cond := .code yX3_narrow cX3_narrow 7 none :: ((wsX3_narrow_r1 ++ (wsX3_narrow_r2 ++ (wsX3_narrow_r3 ++ wsX3_narrow_r4))) ++ wsX10 ++ wsX20 ++ wsX00)
def wsJ7_fill_53178 : List Cond := .code yJ7_fill_53178 cJ7_fill_53178 4 none :: ([])
def wsX4_init : List Cond := .code yX4_init cX4_init 2 none :: ([.methodLink RX4 3 objectInit, .instanceMethod objectInit, .code objectInit ⟨#[0xb1]⟩ 1 none, .fieldLink RX4 9 "EscapeCoder$Model" "limit" "I", .arrayClass .int, .fieldLink RX4 15 "EscapeCoder$Model" "nodeByte" "[I", .fieldLink RX4 19 "EscapeCoder$Model" "nodeCount" "[I", .fieldLink RX4 22 "EscapeCoder$Model" "nodeNext" "[I", .fieldLink RX4 25 "EscapeCoder$Model" "contextKey" "[I", .fieldLink RX4 28 "EscapeCoder$Model" "contextFirst" "[I", .fieldLink RX4 31 "EscapeCoder$Model" "contextLast" "[I", .fieldLink RX4 34 "EscapeCoder$Model" "contextNodes" "[I", .fieldLink RX4 37 "EscapeCoder$Model" "contextOlder" "[I", .fieldLink RX4 40 "EscapeCoder$Model" "bucketNewest" "[I", .methodLink RX4 43 yJ7_fill_53178, .static yJ7_fill_53178, .initialized RJ7, .code yJ7_fill_53178 cJ7_fill_53178 4 none] ++ wsX40)
def wsX4_limitTo : List Cond := .code yX4_limitTo cX4_limitTo 2 none :: ([.fieldLink RX4 9 "EscapeCoder$Model" "limit" "I"] ++ wsX40)
def wsX4_bucketOf : List Cond := .code yX4_bucketOf cX4_bucketOf 1 (some .int) :: ([])
def wsX4_dropAll : List Cond := .code yX4_dropAll cX4_dropAll 2 none :: ([.fieldLink RX4 64 "EscapeCoder$Model" "contexts" "I", .fieldLink RX4 40 "EscapeCoder$Model" "bucketNewest" "[I", .fieldLink RX4 25 "EscapeCoder$Model" "contextKey" "[I", .fieldLink RX4 61 "EscapeCoder$Model" "nodes" "I", .methodLink RX4 77 yX4_bucketOf, .static yX4_bucketOf, .initialized RX4, .code yX4_bucketOf cX4_bucketOf 1 (some .int)] ++ wsX40)
def wsX4_restart : List Cond := .code yX4_restart cX4_restart 1 none :: ([.fieldLink RX4 52 "EscapeCoder$Model" "topOrder" "I", .fieldLink RX4 55 "EscapeCoder$Model" "rescalings" "I", .fieldLink RX4 58 "EscapeCoder$Model" "resets" "I", .methodLink RX4 49 yX4_dropAll, .instanceMethod yX4_dropAll, .selects RX4 yX4_dropAll yX4_dropAll, .initialized RX4, .code yX4_dropAll cX4_dropAll 2 none, .fieldLink RX4 64 "EscapeCoder$Model" "contexts" "I", .fieldLink RX4 40 "EscapeCoder$Model" "bucketNewest" "[I", .fieldLink RX4 25 "EscapeCoder$Model" "contextKey" "[I", .fieldLink RX4 61 "EscapeCoder$Model" "nodes" "I", .methodLink RX4 77 yX4_bucketOf, .static yX4_bucketOf, .code yX4_bucketOf cX4_bucketOf 1 (some .int)] ++ wsX40)
def wsX4_nodes : List Cond := .code yX4_nodes cX4_nodes 1 (some .int) :: ([.fieldLink RX4 61 "EscapeCoder$Model" "nodes" "I"] ++ wsX40)
def wsX4_contexts : List Cond := .code yX4_contexts cX4_contexts 1 (some .int) :: ([.fieldLink RX4 64 "EscapeCoder$Model" "contexts" "I"] ++ wsX40)
def wsX4_rescalings : List Cond := .code yX4_rescalings cX4_rescalings 1 (some .int) :: ([.fieldLink RX4 55 "EscapeCoder$Model" "rescalings" "I"] ++ wsX40)
def wsX4_resets : List Cond := .code yX4_resets cX4_resets 1 (some .int) :: ([.fieldLink RX4 58 "EscapeCoder$Model" "resets" "I"] ++ wsX40)
def wsX4_topOrder : List Cond := .code yX4_topOrder cX4_topOrder 1 (some .int) :: ([.fieldLink RX4 52 "EscapeCoder$Model" "topOrder" "I"] ++ wsX40)
def wsX7_keyOf : List Cond := .code yX7_keyOf cX7_keyOf 3 (some .int) :: ([.methodLink RX7 180 yX7_isByte, .static yX7_isByte, .initialized RX7, .code yX7_isByte cX7_isByte 1 (some .boolean)])
def wsX4_keyHere : List Cond := .code yX4_keyHere cX4_keyHere 2 (some .int) :: ([.fieldLink RX4 67 "EscapeCoder$Model" "before" "I", .fieldLink RX4 70 "EscapeCoder$Model" "earlier" "I", .static yX7_keyOf, .initialized RX7, .code yX7_keyOf cX7_keyOf 3 (some .int), .methodLink RX7 180 yX7_isByte, .static yX7_isByte, .code yX7_isByte cX7_isByte 1 (some .boolean)] ++ wsX40)
def wsX4_isContext : List Cond := .code yX4_isContext cX4_isContext 2 (some .boolean) :: ([.fieldLink RX4 64 "EscapeCoder$Model" "contexts" "I"] ++ wsX40)
def wsX4_find : List Cond := .code yX4_find cX4_find 4 (some .int) :: ([.fieldLink RX4 40 "EscapeCoder$Model" "bucketNewest" "[I", .fieldLink RX4 64 "EscapeCoder$Model" "contexts" "I", .fieldLink RX4 25 "EscapeCoder$Model" "contextKey" "[I", .fieldLink RX4 37 "EscapeCoder$Model" "contextOlder" "[I", .methodLink RX4 77 yX4_bucketOf, .static yX4_bucketOf, .initialized RX4, .code yX4_bucketOf cX4_bucketOf 1 (some .int), .methodLink RX4 81 yX4_isContext, .instanceMethod yX4_isContext, .selects RX4 yX4_isContext yX4_isContext, .code yX4_isContext cX4_isContext 2 (some .boolean)] ++ wsX40)
def wsX4_nodesIn : List Cond := .code yX4_nodesIn cX4_nodesIn 2 (some .int) :: ([.fieldLink RX4 34 "EscapeCoder$Model" "contextNodes" "[I", .methodLink RX4 81 yX4_isContext, .instanceMethod yX4_isContext, .selects RX4 yX4_isContext yX4_isContext, .initialized RX4, .code yX4_isContext cX4_isContext 2 (some .boolean), .fieldLink RX4 64 "EscapeCoder$Model" "contexts" "I"] ++ wsX40)
def wsX4_firstNode : List Cond := .code yX4_firstNode cX4_firstNode 2 (some .int) :: ([.fieldLink RX4 28 "EscapeCoder$Model" "contextFirst" "[I", .methodLink RX4 81 yX4_isContext, .instanceMethod yX4_isContext, .selects RX4 yX4_isContext yX4_isContext, .initialized RX4, .code yX4_isContext cX4_isContext 2 (some .boolean), .fieldLink RX4 64 "EscapeCoder$Model" "contexts" "I"] ++ wsX40)
def wsX4_isNode : List Cond := .code yX4_isNode cX4_isNode 2 (some .boolean) :: ([.fieldLink RX4 61 "EscapeCoder$Model" "nodes" "I"] ++ wsX40)
def wsX4_nextNode : List Cond := .code yX4_nextNode cX4_nextNode 2 (some .int) :: ([.fieldLink RX4 22 "EscapeCoder$Model" "nodeNext" "[I", .methodLink RX4 85 yX4_isNode, .instanceMethod yX4_isNode, .selects RX4 yX4_isNode yX4_isNode, .initialized RX4, .code yX4_isNode cX4_isNode 2 (some .boolean), .fieldLink RX4 61 "EscapeCoder$Model" "nodes" "I"] ++ wsX40)
def wsX4_byteOf : List Cond := .code yX4_byteOf cX4_byteOf 2 (some .int) :: ([.fieldLink RX4 15 "EscapeCoder$Model" "nodeByte" "[I", .methodLink RX4 85 yX4_isNode, .instanceMethod yX4_isNode, .selects RX4 yX4_isNode yX4_isNode, .initialized RX4, .code yX4_isNode cX4_isNode 2 (some .boolean), .fieldLink RX4 61 "EscapeCoder$Model" "nodes" "I"] ++ wsX40)
def wsX4_countOf : List Cond := .code yX4_countOf cX4_countOf 2 (some .int) :: ([.fieldLink RX4 19 "EscapeCoder$Model" "nodeCount" "[I", .methodLink RX4 85 yX4_isNode, .instanceMethod yX4_isNode, .selects RX4 yX4_isNode yX4_isNode, .initialized RX4, .code yX4_isNode cX4_isNode 2 (some .boolean), .fieldLink RX4 61 "EscapeCoder$Model" "nodes" "I"] ++ wsX40)
def wsX4_nodeOfByte_r1 : List Cond := [Cond.methodLink RX4 88 yX4_firstNode, Cond.instanceMethod yX4_firstNode, Cond.selects RX4 yX4_firstNode yX4_firstNode, Cond.initialized RX4, Cond.code yX4_firstNode cX4_firstNode 2 (some .int), Cond.fieldLink RX4 28 "EscapeCoder$Model" "contextFirst" "[I", Cond.methodLink RX4 81 yX4_isContext, Cond.instanceMethod yX4_isContext, Cond.selects RX4 yX4_isContext yX4_isContext, Cond.code yX4_isContext cX4_isContext 2 (some .boolean), Cond.fieldLink RX4 64 "EscapeCoder$Model" "contexts" "I", Cond.methodLink RX4 91 yX4_nodesIn, Cond.instanceMethod yX4_nodesIn, Cond.selects RX4 yX4_nodesIn yX4_nodesIn, Cond.code yX4_nodesIn cX4_nodesIn 2 (some .int), Cond.fieldLink RX4 34 "EscapeCoder$Model" "contextNodes" "[I", Cond.methodLink RX4 94 yX4_byteOf, Cond.instanceMethod yX4_byteOf, Cond.selects RX4 yX4_byteOf yX4_byteOf, Cond.code yX4_byteOf cX4_byteOf 2 (some .int), Cond.fieldLink RX4 15 "EscapeCoder$Model" "nodeByte" "[I", Cond.methodLink RX4 85 yX4_isNode, Cond.instanceMethod yX4_isNode, Cond.selects RX4 yX4_isNode yX4_isNode]
def wsX4_nodeOfByte_r2 : List Cond := [Cond.code yX4_isNode cX4_isNode 2 (some .boolean), Cond.fieldLink RX4 61 "EscapeCoder$Model" "nodes" "I", Cond.methodLink RX4 97 yX4_nextNode, Cond.instanceMethod yX4_nextNode, Cond.selects RX4 yX4_nextNode yX4_nextNode, Cond.code yX4_nextNode cX4_nextNode 2 (some .int), Cond.fieldLink RX4 22 "EscapeCoder$Model" "nodeNext" "[I"]
def wsX4_nodeOfByte : List Cond := .code yX4_nodeOfByte cX4_nodeOfByte 5 (some .int) :: ((wsX4_nodeOfByte_r1 ++ wsX4_nodeOfByte_r2) ++ wsX40)
def wsX4_nodeAt_r1 : List Cond := [Cond.methodLink RX4 91 yX4_nodesIn, Cond.instanceMethod yX4_nodesIn, Cond.selects RX4 yX4_nodesIn yX4_nodesIn, Cond.initialized RX4, Cond.code yX4_nodesIn cX4_nodesIn 2 (some .int), Cond.fieldLink RX4 34 "EscapeCoder$Model" "contextNodes" "[I", Cond.methodLink RX4 81 yX4_isContext, Cond.instanceMethod yX4_isContext, Cond.selects RX4 yX4_isContext yX4_isContext, Cond.code yX4_isContext cX4_isContext 2 (some .boolean), Cond.fieldLink RX4 64 "EscapeCoder$Model" "contexts" "I", Cond.methodLink RX4 88 yX4_firstNode, Cond.instanceMethod yX4_firstNode, Cond.selects RX4 yX4_firstNode yX4_firstNode, Cond.code yX4_firstNode cX4_firstNode 2 (some .int), Cond.fieldLink RX4 28 "EscapeCoder$Model" "contextFirst" "[I", Cond.methodLink RX4 97 yX4_nextNode, Cond.instanceMethod yX4_nextNode, Cond.selects RX4 yX4_nextNode yX4_nextNode, Cond.code yX4_nextNode cX4_nextNode 2 (some .int), Cond.fieldLink RX4 22 "EscapeCoder$Model" "nodeNext" "[I", Cond.methodLink RX4 85 yX4_isNode, Cond.instanceMethod yX4_isNode, Cond.selects RX4 yX4_isNode yX4_isNode]
def wsX4_nodeAt_r2 : List Cond := [Cond.code yX4_isNode cX4_isNode 2 (some .boolean), Cond.fieldLink RX4 61 "EscapeCoder$Model" "nodes" "I"]
def wsX4_nodeAt : List Cond := .code yX4_nodeAt cX4_nodeAt 5 (some .int) :: ((wsX4_nodeAt_r1 ++ wsX4_nodeAt_r2) ++ wsX40)
def wsX4_rescale : List Cond := .code yX4_rescale cX4_rescale 4 none :: ([.fieldLink RX4 19 "EscapeCoder$Model" "nodeCount" "[I", .fieldLink RX4 22 "EscapeCoder$Model" "nodeNext" "[I", .fieldLink RX4 55 "EscapeCoder$Model" "rescalings" "I", .methodLink RX4 88 yX4_firstNode, .instanceMethod yX4_firstNode, .selects RX4 yX4_firstNode yX4_firstNode, .initialized RX4, .code yX4_firstNode cX4_firstNode 2 (some .int), .fieldLink RX4 28 "EscapeCoder$Model" "contextFirst" "[I", .methodLink RX4 81 yX4_isContext, .instanceMethod yX4_isContext, .selects RX4 yX4_isContext yX4_isContext, .code yX4_isContext cX4_isContext 2 (some .boolean), .fieldLink RX4 64 "EscapeCoder$Model" "contexts" "I", .methodLink RX4 91 yX4_nodesIn, .instanceMethod yX4_nodesIn, .selects RX4 yX4_nodesIn yX4_nodesIn, .code yX4_nodesIn cX4_nodesIn 2 (some .int), .fieldLink RX4 34 "EscapeCoder$Model" "contextNodes" "[I", .methodLink RX4 85 yX4_isNode, .instanceMethod yX4_isNode, .selects RX4 yX4_isNode yX4_isNode, .code yX4_isNode cX4_isNode 2 (some .boolean), .fieldLink RX4 61 "EscapeCoder$Model" "nodes" "I"] ++ wsX40)
def wsX4_growContexts_r1 : List Cond := [Cond.fieldLink RX4 64 "EscapeCoder$Model" "contexts" "I", Cond.fieldLink RX4 25 "EscapeCoder$Model" "contextKey" "[I", Cond.fieldLink RX4 28 "EscapeCoder$Model" "contextFirst" "[I", Cond.fieldLink RX4 31 "EscapeCoder$Model" "contextLast" "[I", Cond.fieldLink RX4 34 "EscapeCoder$Model" "contextNodes" "[I", Cond.fieldLink RX4 37 "EscapeCoder$Model" "contextOlder" "[I", Cond.static yX7_grown, Cond.initialized RX7, Cond.code yX7_grown cX7_grown 2 (some .int), Cond.methodLink RX7 183 Lib.Math.min.name, Cond.static Lib.Math.min.name, Cond.initialized "java/lang/Math", Cond.code Lib.Math.min.name Lib.Math.min.code 2 (some .int), Cond.methodLink RX4 142 yJ7_copyOf_59c91, Cond.static yJ7_copyOf_59c91, Cond.initialized RJ7, Cond.code yJ7_copyOf_59c91 cJ7_copyOf_59c91 3 (some (.array .int)), Cond.methodLink RJ7 316 ⟨"[I", "clone", "()Ljava/lang/Object;"⟩, Cond.sameMethod "[I" "java/lang/Object" "clone" "()Ljava/lang/Object;", Cond.native ⟨"java/lang/Object", "clone", "()Ljava/lang/Object;"⟩, Cond.instanceMethod ⟨"java/lang/Object", "clone", "()Ljava/lang/Object;"⟩, Cond.selects "[I" ⟨"[I", "clone", "()Ljava/lang/Object;"⟩ ⟨"java/lang/Object", "clone", "()Ljava/lang/Object;"⟩, Cond.classLink RJ7 317 "[I", Cond.arrayClass .int]
def wsX4_growContexts_r2 : List Cond := [Cond.methodLink RJ7 304 Lib.Math.min.name, Cond.methodLink RJ7 150 arraycopyName, Cond.native arraycopyName, Cond.static arraycopyName, Cond.initialized "java/lang/System"]
def wsX4_growContexts : List Cond := .code yX4_growContexts cX4_growContexts 2 none :: ((wsX4_growContexts_r1 ++ wsX4_growContexts_r2) ++ wsX40)
def wsX4_addContext_r1 : List Cond := [Cond.fieldLink RX4 64 "EscapeCoder$Model" "contexts" "I", Cond.fieldLink RX4 25 "EscapeCoder$Model" "contextKey" "[I", Cond.fieldLink RX4 28 "EscapeCoder$Model" "contextFirst" "[I", Cond.fieldLink RX4 31 "EscapeCoder$Model" "contextLast" "[I", Cond.fieldLink RX4 34 "EscapeCoder$Model" "contextNodes" "[I", Cond.fieldLink RX4 37 "EscapeCoder$Model" "contextOlder" "[I", Cond.fieldLink RX4 40 "EscapeCoder$Model" "bucketNewest" "[I", Cond.methodLink RX4 136 yX4_growContexts, Cond.instanceMethod yX4_growContexts, Cond.selects RX4 yX4_growContexts yX4_growContexts, Cond.initialized RX4, Cond.code yX4_growContexts cX4_growContexts 2 none, Cond.static yX7_grown, Cond.initialized RX7, Cond.code yX7_grown cX7_grown 2 (some .int), Cond.methodLink RX7 183 Lib.Math.min.name, Cond.static Lib.Math.min.name, Cond.initialized "java/lang/Math", Cond.code Lib.Math.min.name Lib.Math.min.code 2 (some .int), Cond.methodLink RX4 142 yJ7_copyOf_59c91, Cond.static yJ7_copyOf_59c91, Cond.initialized RJ7, Cond.code yJ7_copyOf_59c91 cJ7_copyOf_59c91 3 (some (.array .int)), Cond.methodLink RJ7 316 ⟨"[I", "clone", "()Ljava/lang/Object;"⟩]
def wsX4_addContext_r2 : List Cond := [Cond.sameMethod "[I" "java/lang/Object" "clone" "()Ljava/lang/Object;", Cond.native ⟨"java/lang/Object", "clone", "()Ljava/lang/Object;"⟩, Cond.instanceMethod ⟨"java/lang/Object", "clone", "()Ljava/lang/Object;"⟩, Cond.selects "[I" ⟨"[I", "clone", "()Ljava/lang/Object;"⟩ ⟨"java/lang/Object", "clone", "()Ljava/lang/Object;"⟩, Cond.classLink RJ7 317 "[I", Cond.arrayClass .int, Cond.methodLink RJ7 304 Lib.Math.min.name, Cond.methodLink RJ7 150 arraycopyName, Cond.native arraycopyName, Cond.static arraycopyName, Cond.initialized "java/lang/System", Cond.methodLink RX4 77 yX4_bucketOf, Cond.static yX4_bucketOf, Cond.code yX4_bucketOf cX4_bucketOf 1 (some .int)]
def wsX4_addContext : List Cond := .code yX4_addContext cX4_addContext 4 (some .int) :: ((wsX4_addContext_r1 ++ wsX4_addContext_r2) ++ wsX40)
def wsX4_growNodes_r1 : List Cond := [Cond.fieldLink RX4 61 "EscapeCoder$Model" "nodes" "I", Cond.fieldLink RX4 15 "EscapeCoder$Model" "nodeByte" "[I", Cond.fieldLink RX4 19 "EscapeCoder$Model" "nodeCount" "[I", Cond.fieldLink RX4 22 "EscapeCoder$Model" "nodeNext" "[I", Cond.static yX7_grown, Cond.initialized RX7, Cond.code yX7_grown cX7_grown 2 (some .int), Cond.methodLink RX7 183 Lib.Math.min.name, Cond.static Lib.Math.min.name, Cond.initialized "java/lang/Math", Cond.code Lib.Math.min.name Lib.Math.min.code 2 (some .int), Cond.methodLink RX4 142 yJ7_copyOf_59c91, Cond.static yJ7_copyOf_59c91, Cond.initialized RJ7, Cond.code yJ7_copyOf_59c91 cJ7_copyOf_59c91 3 (some (.array .int)), Cond.methodLink RJ7 316 ⟨"[I", "clone", "()Ljava/lang/Object;"⟩, Cond.sameMethod "[I" "java/lang/Object" "clone" "()Ljava/lang/Object;", Cond.native ⟨"java/lang/Object", "clone", "()Ljava/lang/Object;"⟩, Cond.instanceMethod ⟨"java/lang/Object", "clone", "()Ljava/lang/Object;"⟩, Cond.selects "[I" ⟨"[I", "clone", "()Ljava/lang/Object;"⟩ ⟨"java/lang/Object", "clone", "()Ljava/lang/Object;"⟩, Cond.classLink RJ7 317 "[I", Cond.arrayClass .int, Cond.methodLink RJ7 304 Lib.Math.min.name, Cond.methodLink RJ7 150 arraycopyName]
def wsX4_growNodes_r2 : List Cond := [Cond.native arraycopyName, Cond.static arraycopyName, Cond.initialized "java/lang/System"]
def wsX4_growNodes : List Cond := .code yX4_growNodes cX4_growNodes 2 none :: ((wsX4_growNodes_r1 ++ wsX4_growNodes_r2) ++ wsX40)
def wsX4_addNode_r1 : List Cond := [Cond.fieldLink RX4 61 "EscapeCoder$Model" "nodes" "I", Cond.fieldLink RX4 15 "EscapeCoder$Model" "nodeByte" "[I", Cond.fieldLink RX4 19 "EscapeCoder$Model" "nodeCount" "[I", Cond.fieldLink RX4 22 "EscapeCoder$Model" "nodeNext" "[I", Cond.fieldLink RX4 31 "EscapeCoder$Model" "contextLast" "[I", Cond.fieldLink RX4 28 "EscapeCoder$Model" "contextFirst" "[I", Cond.fieldLink RX4 34 "EscapeCoder$Model" "contextNodes" "[I", Cond.methodLink RX4 81 yX4_isContext, Cond.instanceMethod yX4_isContext, Cond.selects RX4 yX4_isContext yX4_isContext, Cond.initialized RX4, Cond.code yX4_isContext cX4_isContext 2 (some .boolean), Cond.fieldLink RX4 64 "EscapeCoder$Model" "contexts" "I", Cond.methodLink RX4 133 yX4_growNodes, Cond.instanceMethod yX4_growNodes, Cond.selects RX4 yX4_growNodes yX4_growNodes, Cond.code yX4_growNodes cX4_growNodes 2 none, Cond.static yX7_grown, Cond.initialized RX7, Cond.code yX7_grown cX7_grown 2 (some .int), Cond.methodLink RX7 183 Lib.Math.min.name, Cond.static Lib.Math.min.name, Cond.initialized "java/lang/Math", Cond.code Lib.Math.min.name Lib.Math.min.code 2 (some .int)]
def wsX4_addNode_r2 : List Cond := [Cond.methodLink RX4 142 yJ7_copyOf_59c91, Cond.static yJ7_copyOf_59c91, Cond.initialized RJ7, Cond.code yJ7_copyOf_59c91 cJ7_copyOf_59c91 3 (some (.array .int)), Cond.methodLink RJ7 316 ⟨"[I", "clone", "()Ljava/lang/Object;"⟩, Cond.sameMethod "[I" "java/lang/Object" "clone" "()Ljava/lang/Object;", Cond.native ⟨"java/lang/Object", "clone", "()Ljava/lang/Object;"⟩, Cond.instanceMethod ⟨"java/lang/Object", "clone", "()Ljava/lang/Object;"⟩, Cond.selects "[I" ⟨"[I", "clone", "()Ljava/lang/Object;"⟩ ⟨"java/lang/Object", "clone", "()Ljava/lang/Object;"⟩, Cond.classLink RJ7 317 "[I", Cond.arrayClass .int, Cond.methodLink RJ7 304 Lib.Math.min.name, Cond.methodLink RJ7 150 arraycopyName, Cond.native arraycopyName, Cond.static arraycopyName, Cond.initialized "java/lang/System", Cond.methodLink RX4 85 yX4_isNode, Cond.instanceMethod yX4_isNode, Cond.selects RX4 yX4_isNode yX4_isNode, Cond.code yX4_isNode cX4_isNode 2 (some .boolean)]
def wsX4_addNode : List Cond := .code yX4_addNode cX4_addNode 5 none :: ((wsX4_addNode_r1 ++ wsX4_addNode_r2) ++ wsX40)
def wsX4_learnIn_r1 : List Cond := [Cond.fieldLink RX4 19 "EscapeCoder$Model" "nodeCount" "[I", Cond.fieldLink RX4 61 "EscapeCoder$Model" "nodes" "I", Cond.fieldLink RX4 9 "EscapeCoder$Model" "limit" "I", Cond.fieldLink RX4 58 "EscapeCoder$Model" "resets" "I", Cond.methodLink RX4 116 yX4_find, Cond.instanceMethod yX4_find, Cond.selects RX4 yX4_find yX4_find, Cond.initialized RX4, Cond.code yX4_find cX4_find 4 (some .int), Cond.fieldLink RX4 40 "EscapeCoder$Model" "bucketNewest" "[I", Cond.fieldLink RX4 64 "EscapeCoder$Model" "contexts" "I", Cond.fieldLink RX4 25 "EscapeCoder$Model" "contextKey" "[I", Cond.fieldLink RX4 37 "EscapeCoder$Model" "contextOlder" "[I", Cond.methodLink RX4 77 yX4_bucketOf, Cond.static yX4_bucketOf, Cond.code yX4_bucketOf cX4_bucketOf 1 (some .int), Cond.methodLink RX4 81 yX4_isContext, Cond.instanceMethod yX4_isContext, Cond.selects RX4 yX4_isContext yX4_isContext, Cond.code yX4_isContext cX4_isContext 2 (some .boolean), Cond.methodLink RX4 119 yX4_nodeOfByte, Cond.instanceMethod yX4_nodeOfByte, Cond.selects RX4 yX4_nodeOfByte yX4_nodeOfByte, Cond.code yX4_nodeOfByte cX4_nodeOfByte 5 (some .int)]
def wsX4_learnIn_r2 : List Cond := [Cond.methodLink RX4 88 yX4_firstNode, Cond.instanceMethod yX4_firstNode, Cond.selects RX4 yX4_firstNode yX4_firstNode, Cond.code yX4_firstNode cX4_firstNode 2 (some .int), Cond.fieldLink RX4 28 "EscapeCoder$Model" "contextFirst" "[I", Cond.methodLink RX4 91 yX4_nodesIn, Cond.instanceMethod yX4_nodesIn, Cond.selects RX4 yX4_nodesIn yX4_nodesIn, Cond.code yX4_nodesIn cX4_nodesIn 2 (some .int), Cond.fieldLink RX4 34 "EscapeCoder$Model" "contextNodes" "[I", Cond.methodLink RX4 94 yX4_byteOf, Cond.instanceMethod yX4_byteOf, Cond.selects RX4 yX4_byteOf yX4_byteOf, Cond.code yX4_byteOf cX4_byteOf 2 (some .int), Cond.fieldLink RX4 15 "EscapeCoder$Model" "nodeByte" "[I", Cond.methodLink RX4 85 yX4_isNode, Cond.instanceMethod yX4_isNode, Cond.selects RX4 yX4_isNode yX4_isNode, Cond.code yX4_isNode cX4_isNode 2 (some .boolean), Cond.methodLink RX4 97 yX4_nextNode, Cond.instanceMethod yX4_nextNode, Cond.selects RX4 yX4_nextNode yX4_nextNode, Cond.code yX4_nextNode cX4_nextNode 2 (some .int), Cond.fieldLink RX4 22 "EscapeCoder$Model" "nodeNext" "[I"]
def wsX4_learnIn_r3 : List Cond := [Cond.methodLink RX4 122 yX4_rescale, Cond.instanceMethod yX4_rescale, Cond.selects RX4 yX4_rescale yX4_rescale, Cond.code yX4_rescale cX4_rescale 4 none, Cond.fieldLink RX4 55 "EscapeCoder$Model" "rescalings" "I", Cond.methodLink RX4 49 yX4_dropAll, Cond.instanceMethod yX4_dropAll, Cond.selects RX4 yX4_dropAll yX4_dropAll, Cond.code yX4_dropAll cX4_dropAll 2 none, Cond.methodLink RX4 126 yX4_addContext, Cond.instanceMethod yX4_addContext, Cond.selects RX4 yX4_addContext yX4_addContext, Cond.code yX4_addContext cX4_addContext 4 (some .int), Cond.fieldLink RX4 31 "EscapeCoder$Model" "contextLast" "[I", Cond.methodLink RX4 136 yX4_growContexts, Cond.instanceMethod yX4_growContexts, Cond.selects RX4 yX4_growContexts yX4_growContexts, Cond.code yX4_growContexts cX4_growContexts 2 none, Cond.static yX7_grown, Cond.initialized RX7, Cond.code yX7_grown cX7_grown 2 (some .int), Cond.methodLink RX7 183 Lib.Math.min.name, Cond.static Lib.Math.min.name, Cond.initialized "java/lang/Math"]
def wsX4_learnIn_r4 : List Cond := [Cond.code Lib.Math.min.name Lib.Math.min.code 2 (some .int), Cond.methodLink RX4 142 yJ7_copyOf_59c91, Cond.static yJ7_copyOf_59c91, Cond.initialized RJ7, Cond.code yJ7_copyOf_59c91 cJ7_copyOf_59c91 3 (some (.array .int)), Cond.methodLink RJ7 316 ⟨"[I", "clone", "()Ljava/lang/Object;"⟩, Cond.sameMethod "[I" "java/lang/Object" "clone" "()Ljava/lang/Object;", Cond.native ⟨"java/lang/Object", "clone", "()Ljava/lang/Object;"⟩, Cond.instanceMethod ⟨"java/lang/Object", "clone", "()Ljava/lang/Object;"⟩, Cond.selects "[I" ⟨"[I", "clone", "()Ljava/lang/Object;"⟩ ⟨"java/lang/Object", "clone", "()Ljava/lang/Object;"⟩, Cond.classLink RJ7 317 "[I", Cond.arrayClass .int, Cond.methodLink RJ7 304 Lib.Math.min.name, Cond.methodLink RJ7 150 arraycopyName, Cond.native arraycopyName, Cond.static arraycopyName, Cond.initialized "java/lang/System", Cond.methodLink RX4 129 yX4_addNode, Cond.instanceMethod yX4_addNode, Cond.selects RX4 yX4_addNode yX4_addNode, Cond.code yX4_addNode cX4_addNode 5 none, Cond.methodLink RX4 133 yX4_growNodes, Cond.instanceMethod yX4_growNodes, Cond.selects RX4 yX4_growNodes yX4_growNodes]
def wsX4_learnIn_r5 : List Cond := [Cond.code yX4_growNodes cX4_growNodes 2 none]
def wsX4_learnIn : List Cond := .code yX4_learnIn cX4_learnIn 5 (some .boolean) :: ((wsX4_learnIn_r1 ++ (wsX4_learnIn_r2 ++ (wsX4_learnIn_r3 ++ (wsX4_learnIn_r4 ++ wsX4_learnIn_r5)))) ++ wsX40)
def wsX4_learn_r1 : List Cond := [Cond.methodLink RX4 100 Lib.Math.max.name, Cond.static Lib.Math.max.name, Cond.initialized "java/lang/Math", Cond.code Lib.Math.max.name Lib.Math.max.code 2 (some .int), Cond.fieldLink RX4 52 "EscapeCoder$Model" "topOrder" "I", Cond.fieldLink RX4 67 "EscapeCoder$Model" "before" "I", Cond.fieldLink RX4 70 "EscapeCoder$Model" "earlier" "I", Cond.methodLink RX4 113 Lib.Math.min.name, Cond.static Lib.Math.min.name, Cond.code Lib.Math.min.name Lib.Math.min.code 2 (some .int), Cond.methodLink RX4 106 yX4_keyHere, Cond.instanceMethod yX4_keyHere, Cond.selects RX4 yX4_keyHere yX4_keyHere, Cond.initialized RX4, Cond.code yX4_keyHere cX4_keyHere 2 (some .int), Cond.static yX7_keyOf, Cond.initialized RX7, Cond.code yX7_keyOf cX7_keyOf 3 (some .int), Cond.methodLink RX7 180 yX7_isByte, Cond.static yX7_isByte, Cond.code yX7_isByte cX7_isByte 1 (some .boolean), Cond.methodLink RX4 109 yX4_learnIn, Cond.instanceMethod yX4_learnIn, Cond.selects RX4 yX4_learnIn yX4_learnIn]
def wsX4_learn_r2 : List Cond := [Cond.code yX4_learnIn cX4_learnIn 5 (some .boolean), Cond.fieldLink RX4 19 "EscapeCoder$Model" "nodeCount" "[I", Cond.fieldLink RX4 61 "EscapeCoder$Model" "nodes" "I", Cond.fieldLink RX4 9 "EscapeCoder$Model" "limit" "I", Cond.fieldLink RX4 58 "EscapeCoder$Model" "resets" "I", Cond.methodLink RX4 116 yX4_find, Cond.instanceMethod yX4_find, Cond.selects RX4 yX4_find yX4_find, Cond.code yX4_find cX4_find 4 (some .int), Cond.fieldLink RX4 40 "EscapeCoder$Model" "bucketNewest" "[I", Cond.fieldLink RX4 64 "EscapeCoder$Model" "contexts" "I", Cond.fieldLink RX4 25 "EscapeCoder$Model" "contextKey" "[I", Cond.fieldLink RX4 37 "EscapeCoder$Model" "contextOlder" "[I", Cond.methodLink RX4 77 yX4_bucketOf, Cond.static yX4_bucketOf, Cond.code yX4_bucketOf cX4_bucketOf 1 (some .int), Cond.methodLink RX4 81 yX4_isContext, Cond.instanceMethod yX4_isContext, Cond.selects RX4 yX4_isContext yX4_isContext, Cond.code yX4_isContext cX4_isContext 2 (some .boolean), Cond.methodLink RX4 119 yX4_nodeOfByte, Cond.instanceMethod yX4_nodeOfByte, Cond.selects RX4 yX4_nodeOfByte yX4_nodeOfByte, Cond.code yX4_nodeOfByte cX4_nodeOfByte 5 (some .int)]
def wsX4_learn_r3 : List Cond := [Cond.methodLink RX4 88 yX4_firstNode, Cond.instanceMethod yX4_firstNode, Cond.selects RX4 yX4_firstNode yX4_firstNode, Cond.code yX4_firstNode cX4_firstNode 2 (some .int), Cond.fieldLink RX4 28 "EscapeCoder$Model" "contextFirst" "[I", Cond.methodLink RX4 91 yX4_nodesIn, Cond.instanceMethod yX4_nodesIn, Cond.selects RX4 yX4_nodesIn yX4_nodesIn, Cond.code yX4_nodesIn cX4_nodesIn 2 (some .int), Cond.fieldLink RX4 34 "EscapeCoder$Model" "contextNodes" "[I", Cond.methodLink RX4 94 yX4_byteOf, Cond.instanceMethod yX4_byteOf, Cond.selects RX4 yX4_byteOf yX4_byteOf, Cond.code yX4_byteOf cX4_byteOf 2 (some .int), Cond.fieldLink RX4 15 "EscapeCoder$Model" "nodeByte" "[I", Cond.methodLink RX4 85 yX4_isNode, Cond.instanceMethod yX4_isNode, Cond.selects RX4 yX4_isNode yX4_isNode, Cond.code yX4_isNode cX4_isNode 2 (some .boolean), Cond.methodLink RX4 97 yX4_nextNode, Cond.instanceMethod yX4_nextNode, Cond.selects RX4 yX4_nextNode yX4_nextNode, Cond.code yX4_nextNode cX4_nextNode 2 (some .int), Cond.fieldLink RX4 22 "EscapeCoder$Model" "nodeNext" "[I"]
def wsX4_learn_r4 : List Cond := [Cond.methodLink RX4 122 yX4_rescale, Cond.instanceMethod yX4_rescale, Cond.selects RX4 yX4_rescale yX4_rescale, Cond.code yX4_rescale cX4_rescale 4 none, Cond.fieldLink RX4 55 "EscapeCoder$Model" "rescalings" "I", Cond.methodLink RX4 49 yX4_dropAll, Cond.instanceMethod yX4_dropAll, Cond.selects RX4 yX4_dropAll yX4_dropAll, Cond.code yX4_dropAll cX4_dropAll 2 none, Cond.methodLink RX4 126 yX4_addContext, Cond.instanceMethod yX4_addContext, Cond.selects RX4 yX4_addContext yX4_addContext, Cond.code yX4_addContext cX4_addContext 4 (some .int), Cond.fieldLink RX4 31 "EscapeCoder$Model" "contextLast" "[I", Cond.methodLink RX4 136 yX4_growContexts, Cond.instanceMethod yX4_growContexts, Cond.selects RX4 yX4_growContexts yX4_growContexts, Cond.code yX4_growContexts cX4_growContexts 2 none, Cond.static yX7_grown, Cond.code yX7_grown cX7_grown 2 (some .int), Cond.methodLink RX7 183 Lib.Math.min.name, Cond.methodLink RX4 142 yJ7_copyOf_59c91, Cond.static yJ7_copyOf_59c91, Cond.initialized RJ7]
def wsX4_learn_r5 : List Cond := [Cond.code yJ7_copyOf_59c91 cJ7_copyOf_59c91 3 (some (.array .int)), Cond.methodLink RJ7 316 ⟨"[I", "clone", "()Ljava/lang/Object;"⟩, Cond.sameMethod "[I" "java/lang/Object" "clone" "()Ljava/lang/Object;", Cond.native ⟨"java/lang/Object", "clone", "()Ljava/lang/Object;"⟩, Cond.instanceMethod ⟨"java/lang/Object", "clone", "()Ljava/lang/Object;"⟩, Cond.selects "[I" ⟨"[I", "clone", "()Ljava/lang/Object;"⟩ ⟨"java/lang/Object", "clone", "()Ljava/lang/Object;"⟩, Cond.classLink RJ7 317 "[I", Cond.arrayClass .int, Cond.methodLink RJ7 304 Lib.Math.min.name, Cond.methodLink RJ7 150 arraycopyName, Cond.native arraycopyName, Cond.static arraycopyName, Cond.initialized "java/lang/System", Cond.methodLink RX4 129 yX4_addNode, Cond.instanceMethod yX4_addNode, Cond.selects RX4 yX4_addNode yX4_addNode, Cond.code yX4_addNode cX4_addNode 5 none, Cond.methodLink RX4 133 yX4_growNodes, Cond.instanceMethod yX4_growNodes, Cond.selects RX4 yX4_growNodes yX4_growNodes, Cond.code yX4_growNodes cX4_growNodes 2 none]
def wsX4_learn : List Cond := .code yX4_learn cX4_learn 5 none :: ((wsX4_learn_r1 ++ (wsX4_learn_r2 ++ (wsX4_learn_r3 ++ (wsX4_learn_r4 ++ wsX4_learn_r5)))) ++ wsX40)
def wsX5_init : List Cond := .code yX5_init cX5_init 1 none :: ([.methodLink RX5 5 objectInit, .instanceMethod objectInit, .code objectInit ⟨#[0xb1]⟩ 1 none, .arrayClass .long, .fieldLink RX5 11 "EscapeCoder$StepRow" "packed" "[J"] ++ wsX50)
def wsX5_made : List Cond := .code yX5_made cX5_made 1 (some .int) :: ([.fieldLink RX5 15 "EscapeCoder$StepRow" "made" "I"] ++ wsX50)
def wsX5_escapes : List Cond := .code yX5_escapes cX5_escapes 1 (some .int) :: ([.fieldLink RX5 19 "EscapeCoder$StepRow" "escapes" "I"] ++ wsX50)
def wsX5_clear : List Cond := .code yX5_clear cX5_clear 1 none :: ([.fieldLink RX5 15 "EscapeCoder$StepRow" "made" "I", .fieldLink RX5 19 "EscapeCoder$StepRow" "escapes" "I"] ++ wsX50)
def wsJ7_copyOf_c38d5 : List Cond := .code yJ7_copyOf_c38d5 cJ7_copyOf_c38d5 3 (some (.array .long)) :: ([.methodLink RJ7 319 ⟨"[J", "clone", "()Ljava/lang/Object;"⟩, .sameMethod "[J" "java/lang/Object" "clone" "()Ljava/lang/Object;", .native ⟨"java/lang/Object", "clone", "()Ljava/lang/Object;"⟩, .instanceMethod ⟨"java/lang/Object", "clone", "()Ljava/lang/Object;"⟩, .selects "[J" ⟨"[J", "clone", "()Ljava/lang/Object;"⟩ ⟨"java/lang/Object", "clone", "()Ljava/lang/Object;"⟩, .classLink RJ7 320 "[J", .arrayClass .long, .methodLink RJ7 304 Lib.Math.min.name, .static Lib.Math.min.name, .initialized "java/lang/Math", .code Lib.Math.min.name Lib.Math.min.code 2 (some .int), .methodLink RJ7 150 arraycopyName, .native arraycopyName, .static arraycopyName, .initialized "java/lang/System"])
def wsX5_add_r1 : List Cond := [Cond.fieldLink RX5 15 "EscapeCoder$StepRow" "made" "I", Cond.fieldLink RX5 11 "EscapeCoder$StepRow" "packed" "[J", Cond.fieldLink RX5 19 "EscapeCoder$StepRow" "escapes" "I", Cond.static yX7_grown, Cond.initialized RX7, Cond.code yX7_grown cX7_grown 2 (some .int), Cond.methodLink RX7 183 Lib.Math.min.name, Cond.static Lib.Math.min.name, Cond.initialized "java/lang/Math", Cond.code Lib.Math.min.name Lib.Math.min.code 2 (some .int), Cond.methodLink RX5 26 yJ7_copyOf_c38d5, Cond.static yJ7_copyOf_c38d5, Cond.initialized RJ7, Cond.code yJ7_copyOf_c38d5 cJ7_copyOf_c38d5 3 (some (.array .long)), Cond.methodLink RJ7 319 ⟨"[J", "clone", "()Ljava/lang/Object;"⟩, Cond.sameMethod "[J" "java/lang/Object" "clone" "()Ljava/lang/Object;", Cond.native ⟨"java/lang/Object", "clone", "()Ljava/lang/Object;"⟩, Cond.instanceMethod ⟨"java/lang/Object", "clone", "()Ljava/lang/Object;"⟩, Cond.selects "[J" ⟨"[J", "clone", "()Ljava/lang/Object;"⟩ ⟨"java/lang/Object", "clone", "()Ljava/lang/Object;"⟩, Cond.classLink RJ7 320 "[J", Cond.arrayClass .long, Cond.methodLink RJ7 304 Lib.Math.min.name, Cond.methodLink RJ7 150 arraycopyName, Cond.native arraycopyName]
def wsX5_add_r2 : List Cond := [Cond.static arraycopyName, Cond.initialized "java/lang/System"]
def wsX5_add : List Cond := .code yX5_add cX5_add 6 none :: ((wsX5_add_r1 ++ wsX5_add_r2) ++ wsX50)
def wsX5_answer : List Cond := .code yX5_answer cX5_answer 5 (some .int) :: ([.fieldLink RX5 15 "EscapeCoder$StepRow" "made" "I", .fieldLink RX5 11 "EscapeCoder$StepRow" "packed" "[J", .constantLong RX5 32 (1048575), .constantLong RX5 34 (3)] ++ wsX50)
def wsX6_init : List Cond := .code yX6_init cX6_init 3 none :: ([.methodLink RX6 3 objectInit, .instanceMethod objectInit, .code objectInit ⟨#[0xb1]⟩ 1 none, .fieldLink RX6 9 "EscapeCoder$Teller" "model" "LEscapeCoder$Model;", .fieldLink RX6 15 "EscapeCoder$Teller" "steps" "LEscapeCoder$StepRow;", .arrayClass .int, .fieldLink RX6 19 "EscapeCoder$Teller" "outSince" "[I", .fieldLink RX6 23 "EscapeCoder$Teller" "live" "[I"] ++ wsX60)
def wsX6_toldOrder : List Cond := .code yX6_toldOrder cX6_toldOrder 1 (some .int) :: ([.fieldLink RX6 26 "EscapeCoder$Teller" "toldOrder" "I"] ++ wsX60)
def wsX6_isOut : List Cond := .code yX6_isOut cX6_isOut 2 (some .boolean) :: ([.fieldLink RX6 19 "EscapeCoder$Teller" "outSince" "[I", .fieldLink RX6 30 "EscapeCoder$Teller" "turn" "I", .static yX7_isByte, .initialized RX7, .code yX7_isByte cX7_isByte 1 (some .boolean)] ++ wsX60)
def wsX6_gather_r1 : List Cond := [Cond.fieldLink RX6 53 "EscapeCoder$Teller" "lives" "I", Cond.fieldLink RX6 64 "EscapeCoder$Teller" "liveTotal" "I", Cond.fieldLink RX6 9 "EscapeCoder$Teller" "model" "LEscapeCoder$Model;", Cond.fieldLink RX6 23 "EscapeCoder$Teller" "live" "[I", Cond.methodLink RX6 67 yX4_firstNode, Cond.instanceMethod yX4_firstNode, Cond.selects RX4 yX4_firstNode yX4_firstNode, Cond.initialized RX4, Cond.code yX4_firstNode cX4_firstNode 2 (some .int), Cond.fieldLink RX4 28 "EscapeCoder$Model" "contextFirst" "[I", Cond.methodLink RX4 81 yX4_isContext, Cond.instanceMethod yX4_isContext, Cond.selects RX4 yX4_isContext yX4_isContext, Cond.code yX4_isContext cX4_isContext 2 (some .boolean), Cond.fieldLink RX4 64 "EscapeCoder$Model" "contexts" "I", Cond.methodLink RX6 70 yX4_nodesIn, Cond.instanceMethod yX4_nodesIn, Cond.selects RX4 yX4_nodesIn yX4_nodesIn, Cond.code yX4_nodesIn cX4_nodesIn 2 (some .int), Cond.fieldLink RX4 34 "EscapeCoder$Model" "contextNodes" "[I", Cond.methodLink RX6 73 yX4_byteOf, Cond.instanceMethod yX4_byteOf, Cond.selects RX4 yX4_byteOf yX4_byteOf, Cond.code yX4_byteOf cX4_byteOf 2 (some .int)]
def wsX6_gather_r2 : List Cond := [Cond.fieldLink RX4 15 "EscapeCoder$Model" "nodeByte" "[I", Cond.methodLink RX4 85 yX4_isNode, Cond.instanceMethod yX4_isNode, Cond.selects RX4 yX4_isNode yX4_isNode, Cond.code yX4_isNode cX4_isNode 2 (some .boolean), Cond.fieldLink RX4 61 "EscapeCoder$Model" "nodes" "I", Cond.methodLink RX6 76 yX6_isOut, Cond.instanceMethod yX6_isOut, Cond.selects RX6 yX6_isOut yX6_isOut, Cond.initialized RX6, Cond.code yX6_isOut cX6_isOut 2 (some .boolean), Cond.fieldLink RX6 19 "EscapeCoder$Teller" "outSince" "[I", Cond.fieldLink RX6 30 "EscapeCoder$Teller" "turn" "I", Cond.static yX7_isByte, Cond.initialized RX7, Cond.code yX7_isByte cX7_isByte 1 (some .boolean), Cond.methodLink RX6 80 yX4_countOf, Cond.instanceMethod yX4_countOf, Cond.selects RX4 yX4_countOf yX4_countOf, Cond.code yX4_countOf cX4_countOf 2 (some .int), Cond.fieldLink RX4 19 "EscapeCoder$Model" "nodeCount" "[I", Cond.methodLink RX6 83 yX4_nextNode, Cond.instanceMethod yX4_nextNode, Cond.selects RX4 yX4_nextNode yX4_nextNode]
def wsX6_gather_r3 : List Cond := [Cond.code yX4_nextNode cX4_nextNode 2 (some .int), Cond.fieldLink RX4 22 "EscapeCoder$Model" "nodeNext" "[I"]
def wsX6_gather : List Cond := .code yX6_gather cX6_gather 4 none :: ((wsX6_gather_r1 ++ (wsX6_gather_r2 ++ wsX6_gather_r3)) ++ wsX60 ++ wsX40)
def wsX6_liveBeginOf : List Cond := .code yX6_liveBeginOf cX6_liveBeginOf 4 (some .int) :: ([.fieldLink RX6 53 "EscapeCoder$Teller" "lives" "I", .fieldLink RX6 9 "EscapeCoder$Teller" "model" "LEscapeCoder$Model;", .fieldLink RX6 23 "EscapeCoder$Teller" "live" "[I", .methodLink RX6 73 yX4_byteOf, .instanceMethod yX4_byteOf, .selects RX4 yX4_byteOf yX4_byteOf, .initialized RX4, .code yX4_byteOf cX4_byteOf 2 (some .int), .fieldLink RX4 15 "EscapeCoder$Model" "nodeByte" "[I", .methodLink RX4 85 yX4_isNode, .instanceMethod yX4_isNode, .selects RX4 yX4_isNode yX4_isNode, .code yX4_isNode cX4_isNode 2 (some .boolean), .fieldLink RX4 61 "EscapeCoder$Model" "nodes" "I", .methodLink RX6 80 yX4_countOf, .instanceMethod yX4_countOf, .selects RX4 yX4_countOf yX4_countOf, .code yX4_countOf cX4_countOf 2 (some .int), .fieldLink RX4 19 "EscapeCoder$Model" "nodeCount" "[I"] ++ wsX60 ++ wsX40)
def wsX6_putLiveOut : List Cond := .code yX6_putLiveOut cX6_putLiveOut 3 none :: ([.fieldLink RX6 53 "EscapeCoder$Teller" "lives" "I", .fieldLink RX6 9 "EscapeCoder$Teller" "model" "LEscapeCoder$Model;", .fieldLink RX6 23 "EscapeCoder$Teller" "live" "[I", .fieldLink RX6 19 "EscapeCoder$Teller" "outSince" "[I", .fieldLink RX6 30 "EscapeCoder$Teller" "turn" "I", .fieldLink RX6 33 "EscapeCoder$Teller" "outs" "I", .methodLink RX6 73 yX4_byteOf, .instanceMethod yX4_byteOf, .selects RX4 yX4_byteOf yX4_byteOf, .initialized RX4, .code yX4_byteOf cX4_byteOf 2 (some .int), .fieldLink RX4 15 "EscapeCoder$Model" "nodeByte" "[I", .methodLink RX4 85 yX4_isNode, .instanceMethod yX4_isNode, .selects RX4 yX4_isNode yX4_isNode, .code yX4_isNode cX4_isNode 2 (some .boolean), .fieldLink RX4 61 "EscapeCoder$Model" "nodes" "I", .static yX7_isByte, .initialized RX7, .code yX7_isByte cX7_isByte 1 (some .boolean)] ++ wsX60 ++ wsX40)
def wsX6_tellAmongLive_r1 : List Cond := [Cond.fieldLink RX6 64 "EscapeCoder$Teller" "liveTotal" "I", Cond.fieldLink RX6 53 "EscapeCoder$Teller" "lives" "I", Cond.fieldLink RX6 9 "EscapeCoder$Teller" "model" "LEscapeCoder$Model;", Cond.fieldLink RX6 23 "EscapeCoder$Teller" "live" "[I", Cond.fieldLink RX6 15 "EscapeCoder$Teller" "steps" "LEscapeCoder$StepRow;", Cond.methodLink RX6 86 yX6_liveBeginOf, Cond.instanceMethod yX6_liveBeginOf, Cond.selects RX6 yX6_liveBeginOf yX6_liveBeginOf, Cond.initialized RX6, Cond.code yX6_liveBeginOf cX6_liveBeginOf 4 (some .int), Cond.methodLink RX6 73 yX4_byteOf, Cond.instanceMethod yX4_byteOf, Cond.selects RX4 yX4_byteOf yX4_byteOf, Cond.initialized RX4, Cond.code yX4_byteOf cX4_byteOf 2 (some .int), Cond.fieldLink RX4 15 "EscapeCoder$Model" "nodeByte" "[I", Cond.methodLink RX4 85 yX4_isNode, Cond.instanceMethod yX4_isNode, Cond.selects RX4 yX4_isNode yX4_isNode, Cond.code yX4_isNode cX4_isNode 2 (some .boolean), Cond.fieldLink RX4 61 "EscapeCoder$Model" "nodes" "I", Cond.methodLink RX6 80 yX4_countOf, Cond.instanceMethod yX4_countOf, Cond.selects RX4 yX4_countOf yX4_countOf]
def wsX6_tellAmongLive_r2 : List Cond := [Cond.code yX4_countOf cX4_countOf 2 (some .int), Cond.fieldLink RX4 19 "EscapeCoder$Model" "nodeCount" "[I", Cond.methodLink RX6 89 ⟨"EscapeCoder$Interval", "placeIn", "(II)I"⟩, Cond.sameMethod "EscapeCoder$Interval" "EscapeCoder$Interval" "placeIn" "(II)I", Cond.selects RX1 ⟨"EscapeCoder$Interval", "placeIn", "(II)I"⟩ yX1_placeIn, Cond.instanceMethod yX1_placeIn, Cond.initialized RX1, Cond.code yX1_placeIn cX1_placeIn 5 (some .int), Cond.fieldLink RX1 18 "EscapeCoder$CodeReader" "ahead" "J", Cond.methodLink RX1 33 Lib.MathLoose.min_long.x, Cond.static Lib.MathLoose.min_long.x, Cond.initialized "java/lang/Math", Cond.code Lib.MathLoose.min_long.x Lib.MathLoose.min_long.code 4 (some .long), Cond.methodLink RX1 29 ⟨"EscapeCoder$CodeReader", "unitOf", "(I)J"⟩, Cond.sameMethod "EscapeCoder$CodeReader" "EscapeCoder$Interval" "unitOf" "(I)J", Cond.selects RX1 ⟨"EscapeCoder$CodeReader", "unitOf", "(I)J"⟩ yX3_unitOf, Cond.instanceMethod yX3_unitOf, Cond.initialized RX3, Cond.code yX3_unitOf cX3_unitOf 2 (some .long), Cond.fieldLink RX3 7 "EscapeCoder$Interval" "range" "J", Cond.selects RX2 ⟨"EscapeCoder$Interval", "placeIn", "(II)I"⟩ yX2_placeIn, Cond.instanceMethod yX2_placeIn, Cond.initialized RX2, Cond.code yX2_placeIn cX2_placeIn 3 (some .int)]
def wsX6_tellAmongLive_r3 : List Cond := [Cond.methodLink RX6 95 ⟨"EscapeCoder$Interval", "narrow", "(III)V"⟩, Cond.sameMethod "EscapeCoder$Interval" "EscapeCoder$Interval" "narrow" "(III)V", Cond.selects RX1 ⟨"EscapeCoder$Interval", "narrow", "(III)V"⟩ yX3_narrow, Cond.instanceMethod yX3_narrow, Cond.code yX3_narrow cX3_narrow 7 none, Cond.constantLong RX3 27 (16777216), Cond.constantLong RX3 32 (256), Cond.fieldLink RX3 13 "EscapeCoder$Interval" "shifts" "I", Cond.methodLink RX3 19 ⟨"EscapeCoder$Interval", "unitOf", "(I)J"⟩, Cond.sameMethod "EscapeCoder$Interval" "EscapeCoder$Interval" "unitOf" "(I)J", Cond.selects RX1 ⟨"EscapeCoder$Interval", "unitOf", "(I)J"⟩ yX3_unitOf, Cond.selects RX2 ⟨"EscapeCoder$Interval", "unitOf", "(I)J"⟩ yX3_unitOf, Cond.methodLink RX3 23 ⟨"EscapeCoder$Interval", "raiseLow", "(J)V"⟩, Cond.sameMethod "EscapeCoder$Interval" "EscapeCoder$Interval" "raiseLow" "(J)V", Cond.selects RX1 ⟨"EscapeCoder$Interval", "raiseLow", "(J)V"⟩ yX1_raiseLow, Cond.instanceMethod yX1_raiseLow, Cond.code yX1_raiseLow cX1_raiseLow 3 none, Cond.selects RX2 ⟨"EscapeCoder$Interval", "raiseLow", "(J)V"⟩ yX2_raiseLow, Cond.instanceMethod yX2_raiseLow, Cond.code yX2_raiseLow cX2_raiseLow 3 none, Cond.fieldLink RX2 23 "EscapeCoder$CodeWriter" "low" "J", Cond.constantLong RX2 27 (4294967295), Cond.methodLink RX2 29 yX2_carry, Cond.instanceMethod yX2_carry]
def wsX6_tellAmongLive_r4 : List Cond := [Cond.selects RX2 yX2_carry yX2_carry, Cond.code yX2_carry cX2_carry 3 none, Cond.fieldLink RX2 9 "EscapeCoder$CodeWriter" "code" "LEscapeCoder$ByteRow;", Cond.methodLink RX2 42 yX0_length, Cond.instanceMethod yX0_length, Cond.selects RX0 yX0_length yX0_length, Cond.initialized RX0, Cond.code yX0_length cX0_length 1 (some .int), Cond.fieldLink RX0 19 "EscapeCoder$ByteRow" "length" "I", Cond.methodLink RX2 45 yX0_byteAt, Cond.instanceMethod yX0_byteAt, Cond.selects RX0 yX0_byteAt yX0_byteAt, Cond.code yX0_byteAt cX0_byteAt 2 (some .int), Cond.fieldLink RX0 15 "EscapeCoder$ByteRow" "bytes" "[I", Cond.methodLink RX2 49 yX0_put, Cond.instanceMethod yX0_put, Cond.selects RX0 yX0_put yX0_put, Cond.code yX0_put cX0_put 3 (some .boolean), Cond.static yX7_isByte, Cond.initialized RX7, Cond.code yX7_isByte cX7_isByte 1 (some .boolean), Cond.methodLink RX3 29 ⟨"EscapeCoder$Interval", "shiftOnce", "()V"⟩, Cond.sameMethod "EscapeCoder$Interval" "EscapeCoder$Interval" "shiftOnce" "()V", Cond.selects RX1 ⟨"EscapeCoder$Interval", "shiftOnce", "()V"⟩ yX1_shiftOnce]
def wsX6_tellAmongLive_r5 : List Cond := [Cond.instanceMethod yX1_shiftOnce, Cond.code yX1_shiftOnce cX1_shiftOnce 1 none, Cond.constantLong RX1 39 (256), Cond.fieldLink RX1 22 "EscapeCoder$CodeReader" "taken" "I", Cond.fieldLink RX1 9 "EscapeCoder$CodeReader" "code" "LEscapeCoder$ByteRow;", Cond.methodLink RX1 41 yX0_length, Cond.methodLink RX1 47 yX0_byteAt, Cond.selects RX2 ⟨"EscapeCoder$Interval", "shiftOnce", "()V"⟩ yX2_shiftOnce, Cond.instanceMethod yX2_shiftOnce, Cond.code yX2_shiftOnce cX2_shiftOnce 1 none, Cond.methodLink RX2 32 yX0_add, Cond.instanceMethod yX0_add, Cond.selects RX0 yX0_add yX0_add, Cond.code yX0_add cX0_add 2 (some .boolean), Cond.fieldLink RX0 9 "EscapeCoder$ByteRow" "most" "I", Cond.static yX7_grown, Cond.code yX7_grown cX7_grown 2 (some .int), Cond.methodLink RX7 183 Lib.Math.min.name, Cond.static Lib.Math.min.name, Cond.code Lib.Math.min.name Lib.Math.min.code 2 (some .int), Cond.methodLink RX0 30 yJ7_copyOf_59c91, Cond.static yJ7_copyOf_59c91, Cond.initialized RJ7, Cond.code yJ7_copyOf_59c91 cJ7_copyOf_59c91 3 (some (.array .int))]
def wsX6_tellAmongLive_r6 : List Cond := [Cond.methodLink RJ7 316 ⟨"[I", "clone", "()Ljava/lang/Object;"⟩, Cond.sameMethod "[I" "java/lang/Object" "clone" "()Ljava/lang/Object;", Cond.native ⟨"java/lang/Object", "clone", "()Ljava/lang/Object;"⟩, Cond.instanceMethod ⟨"java/lang/Object", "clone", "()Ljava/lang/Object;"⟩, Cond.selects "[I" ⟨"[I", "clone", "()Ljava/lang/Object;"⟩ ⟨"java/lang/Object", "clone", "()Ljava/lang/Object;"⟩, Cond.classLink RJ7 317 "[I", Cond.arrayClass .int, Cond.methodLink RJ7 304 Lib.Math.min.name, Cond.methodLink RJ7 150 arraycopyName, Cond.native arraycopyName, Cond.static arraycopyName, Cond.initialized "java/lang/System", Cond.selects RX2 ⟨"EscapeCoder$Interval", "narrow", "(III)V"⟩ yX3_narrow, Cond.methodLink RX6 99 yX5_add, Cond.instanceMethod yX5_add, Cond.selects RX5 yX5_add yX5_add, Cond.initialized RX5, Cond.code yX5_add cX5_add 6 none, Cond.fieldLink RX5 15 "EscapeCoder$StepRow" "made" "I", Cond.fieldLink RX5 11 "EscapeCoder$StepRow" "packed" "[J", Cond.fieldLink RX5 19 "EscapeCoder$StepRow" "escapes" "I", Cond.methodLink RX5 26 yJ7_copyOf_c38d5, Cond.static yJ7_copyOf_c38d5, Cond.code yJ7_copyOf_c38d5 cJ7_copyOf_c38d5 3 (some (.array .long))]
def wsX6_tellAmongLive_r7 : List Cond := [Cond.methodLink RJ7 319 ⟨"[J", "clone", "()Ljava/lang/Object;"⟩, Cond.sameMethod "[J" "java/lang/Object" "clone" "()Ljava/lang/Object;", Cond.selects "[J" ⟨"[J", "clone", "()Ljava/lang/Object;"⟩ ⟨"java/lang/Object", "clone", "()Ljava/lang/Object;"⟩, Cond.classLink RJ7 320 "[J", Cond.arrayClass .long, Cond.methodLink RX6 105 yX6_putLiveOut, Cond.instanceMethod yX6_putLiveOut, Cond.selects RX6 yX6_putLiveOut yX6_putLiveOut, Cond.code yX6_putLiveOut cX6_putLiveOut 3 none, Cond.fieldLink RX6 19 "EscapeCoder$Teller" "outSince" "[I", Cond.fieldLink RX6 30 "EscapeCoder$Teller" "turn" "I", Cond.fieldLink RX6 33 "EscapeCoder$Teller" "outs" "I"]
def wsX6_tellAmongLive : List Cond := .code yX6_tellAmongLive cX6_tellAmongLive 9 (some .int) :: ((wsX6_tellAmongLive_r1 ++ (wsX6_tellAmongLive_r2 ++ (wsX6_tellAmongLive_r3 ++ (wsX6_tellAmongLive_r4 ++ (wsX6_tellAmongLive_r5 ++ (wsX6_tellAmongLive_r6 ++ wsX6_tellAmongLive_r7)))))) ++ wsX60 ++ wsX40 ++ wsX10 ++ wsX20 ++ wsX00 ++ wsX50)
def wsX6_plainBeginOf : List Cond := .code yX6_plainBeginOf cX6_plainBeginOf 4 (some .int) :: ([.methodLink RX6 76 yX6_isOut, .instanceMethod yX6_isOut, .selects RX6 yX6_isOut yX6_isOut, .initialized RX6, .code yX6_isOut cX6_isOut 2 (some .boolean), .fieldLink RX6 19 "EscapeCoder$Teller" "outSince" "[I", .fieldLink RX6 30 "EscapeCoder$Teller" "turn" "I", .static yX7_isByte, .initialized RX7, .code yX7_isByte cX7_isByte 1 (some .boolean)] ++ wsX60)
def wsX6_plainSymbolAt : List Cond := .code yX6_plainSymbolAt cX6_plainSymbolAt 4 (some .int) :: ([.methodLink RX6 76 yX6_isOut, .instanceMethod yX6_isOut, .selects RX6 yX6_isOut yX6_isOut, .initialized RX6, .code yX6_isOut cX6_isOut 2 (some .boolean), .fieldLink RX6 19 "EscapeCoder$Teller" "outSince" "[I", .fieldLink RX6 30 "EscapeCoder$Teller" "turn" "I", .static yX7_isByte, .initialized RX7, .code yX7_isByte cX7_isByte 1 (some .boolean)] ++ wsX60)
def wsX6_tellPlainly_r1 : List Cond := [Cond.fieldLink RX6 33 "EscapeCoder$Teller" "outs" "I", Cond.fieldLink RX6 15 "EscapeCoder$Teller" "steps" "LEscapeCoder$StepRow;", Cond.methodLink RX6 111 yX6_plainBeginOf, Cond.instanceMethod yX6_plainBeginOf, Cond.selects RX6 yX6_plainBeginOf yX6_plainBeginOf, Cond.initialized RX6, Cond.code yX6_plainBeginOf cX6_plainBeginOf 4 (some .int), Cond.methodLink RX6 76 yX6_isOut, Cond.instanceMethod yX6_isOut, Cond.selects RX6 yX6_isOut yX6_isOut, Cond.code yX6_isOut cX6_isOut 2 (some .boolean), Cond.fieldLink RX6 19 "EscapeCoder$Teller" "outSince" "[I", Cond.fieldLink RX6 30 "EscapeCoder$Teller" "turn" "I", Cond.static yX7_isByte, Cond.initialized RX7, Cond.code yX7_isByte cX7_isByte 1 (some .boolean), Cond.methodLink RX6 89 ⟨"EscapeCoder$Interval", "placeIn", "(II)I"⟩, Cond.sameMethod "EscapeCoder$Interval" "EscapeCoder$Interval" "placeIn" "(II)I", Cond.selects RX1 ⟨"EscapeCoder$Interval", "placeIn", "(II)I"⟩ yX1_placeIn, Cond.instanceMethod yX1_placeIn, Cond.initialized RX1, Cond.code yX1_placeIn cX1_placeIn 5 (some .int), Cond.fieldLink RX1 18 "EscapeCoder$CodeReader" "ahead" "J", Cond.methodLink RX1 33 Lib.MathLoose.min_long.x]
def wsX6_tellPlainly_r2 : List Cond := [Cond.static Lib.MathLoose.min_long.x, Cond.initialized "java/lang/Math", Cond.code Lib.MathLoose.min_long.x Lib.MathLoose.min_long.code 4 (some .long), Cond.methodLink RX1 29 ⟨"EscapeCoder$CodeReader", "unitOf", "(I)J"⟩, Cond.sameMethod "EscapeCoder$CodeReader" "EscapeCoder$Interval" "unitOf" "(I)J", Cond.selects RX1 ⟨"EscapeCoder$CodeReader", "unitOf", "(I)J"⟩ yX3_unitOf, Cond.instanceMethod yX3_unitOf, Cond.initialized RX3, Cond.code yX3_unitOf cX3_unitOf 2 (some .long), Cond.fieldLink RX3 7 "EscapeCoder$Interval" "range" "J", Cond.selects RX2 ⟨"EscapeCoder$Interval", "placeIn", "(II)I"⟩ yX2_placeIn, Cond.instanceMethod yX2_placeIn, Cond.initialized RX2, Cond.code yX2_placeIn cX2_placeIn 3 (some .int), Cond.methodLink RX6 95 ⟨"EscapeCoder$Interval", "narrow", "(III)V"⟩, Cond.sameMethod "EscapeCoder$Interval" "EscapeCoder$Interval" "narrow" "(III)V", Cond.selects RX1 ⟨"EscapeCoder$Interval", "narrow", "(III)V"⟩ yX3_narrow, Cond.instanceMethod yX3_narrow, Cond.code yX3_narrow cX3_narrow 7 none, Cond.constantLong RX3 27 (16777216), Cond.constantLong RX3 32 (256), Cond.fieldLink RX3 13 "EscapeCoder$Interval" "shifts" "I", Cond.methodLink RX3 19 ⟨"EscapeCoder$Interval", "unitOf", "(I)J"⟩, Cond.sameMethod "EscapeCoder$Interval" "EscapeCoder$Interval" "unitOf" "(I)J"]
def wsX6_tellPlainly_r3 : List Cond := [Cond.selects RX1 ⟨"EscapeCoder$Interval", "unitOf", "(I)J"⟩ yX3_unitOf, Cond.selects RX2 ⟨"EscapeCoder$Interval", "unitOf", "(I)J"⟩ yX3_unitOf, Cond.methodLink RX3 23 ⟨"EscapeCoder$Interval", "raiseLow", "(J)V"⟩, Cond.sameMethod "EscapeCoder$Interval" "EscapeCoder$Interval" "raiseLow" "(J)V", Cond.selects RX1 ⟨"EscapeCoder$Interval", "raiseLow", "(J)V"⟩ yX1_raiseLow, Cond.instanceMethod yX1_raiseLow, Cond.code yX1_raiseLow cX1_raiseLow 3 none, Cond.selects RX2 ⟨"EscapeCoder$Interval", "raiseLow", "(J)V"⟩ yX2_raiseLow, Cond.instanceMethod yX2_raiseLow, Cond.code yX2_raiseLow cX2_raiseLow 3 none, Cond.fieldLink RX2 23 "EscapeCoder$CodeWriter" "low" "J", Cond.constantLong RX2 27 (4294967295), Cond.methodLink RX2 29 yX2_carry, Cond.instanceMethod yX2_carry, Cond.selects RX2 yX2_carry yX2_carry, Cond.code yX2_carry cX2_carry 3 none, Cond.fieldLink RX2 9 "EscapeCoder$CodeWriter" "code" "LEscapeCoder$ByteRow;", Cond.methodLink RX2 42 yX0_length, Cond.instanceMethod yX0_length, Cond.selects RX0 yX0_length yX0_length, Cond.initialized RX0, Cond.code yX0_length cX0_length 1 (some .int), Cond.fieldLink RX0 19 "EscapeCoder$ByteRow" "length" "I", Cond.methodLink RX2 45 yX0_byteAt]
def wsX6_tellPlainly_r4 : List Cond := [Cond.instanceMethod yX0_byteAt, Cond.selects RX0 yX0_byteAt yX0_byteAt, Cond.code yX0_byteAt cX0_byteAt 2 (some .int), Cond.fieldLink RX0 15 "EscapeCoder$ByteRow" "bytes" "[I", Cond.methodLink RX2 49 yX0_put, Cond.instanceMethod yX0_put, Cond.selects RX0 yX0_put yX0_put, Cond.code yX0_put cX0_put 3 (some .boolean), Cond.methodLink RX3 29 ⟨"EscapeCoder$Interval", "shiftOnce", "()V"⟩, Cond.sameMethod "EscapeCoder$Interval" "EscapeCoder$Interval" "shiftOnce" "()V", Cond.selects RX1 ⟨"EscapeCoder$Interval", "shiftOnce", "()V"⟩ yX1_shiftOnce, Cond.instanceMethod yX1_shiftOnce, Cond.code yX1_shiftOnce cX1_shiftOnce 1 none, Cond.constantLong RX1 39 (256), Cond.fieldLink RX1 22 "EscapeCoder$CodeReader" "taken" "I", Cond.fieldLink RX1 9 "EscapeCoder$CodeReader" "code" "LEscapeCoder$ByteRow;", Cond.methodLink RX1 41 yX0_length, Cond.methodLink RX1 47 yX0_byteAt, Cond.selects RX2 ⟨"EscapeCoder$Interval", "shiftOnce", "()V"⟩ yX2_shiftOnce, Cond.instanceMethod yX2_shiftOnce, Cond.code yX2_shiftOnce cX2_shiftOnce 1 none, Cond.methodLink RX2 32 yX0_add, Cond.instanceMethod yX0_add, Cond.selects RX0 yX0_add yX0_add]
def wsX6_tellPlainly_r5 : List Cond := [Cond.code yX0_add cX0_add 2 (some .boolean), Cond.fieldLink RX0 9 "EscapeCoder$ByteRow" "most" "I", Cond.static yX7_grown, Cond.code yX7_grown cX7_grown 2 (some .int), Cond.methodLink RX7 183 Lib.Math.min.name, Cond.static Lib.Math.min.name, Cond.code Lib.Math.min.name Lib.Math.min.code 2 (some .int), Cond.methodLink RX0 30 yJ7_copyOf_59c91, Cond.static yJ7_copyOf_59c91, Cond.initialized RJ7, Cond.code yJ7_copyOf_59c91 cJ7_copyOf_59c91 3 (some (.array .int)), Cond.methodLink RJ7 316 ⟨"[I", "clone", "()Ljava/lang/Object;"⟩, Cond.sameMethod "[I" "java/lang/Object" "clone" "()Ljava/lang/Object;", Cond.native ⟨"java/lang/Object", "clone", "()Ljava/lang/Object;"⟩, Cond.instanceMethod ⟨"java/lang/Object", "clone", "()Ljava/lang/Object;"⟩, Cond.selects "[I" ⟨"[I", "clone", "()Ljava/lang/Object;"⟩ ⟨"java/lang/Object", "clone", "()Ljava/lang/Object;"⟩, Cond.classLink RJ7 317 "[I", Cond.arrayClass .int, Cond.methodLink RJ7 304 Lib.Math.min.name, Cond.methodLink RJ7 150 arraycopyName, Cond.native arraycopyName, Cond.static arraycopyName, Cond.initialized "java/lang/System", Cond.selects RX2 ⟨"EscapeCoder$Interval", "narrow", "(III)V"⟩ yX3_narrow]
def wsX6_tellPlainly_r6 : List Cond := [Cond.methodLink RX6 99 yX5_add, Cond.instanceMethod yX5_add, Cond.selects RX5 yX5_add yX5_add, Cond.initialized RX5, Cond.code yX5_add cX5_add 6 none, Cond.fieldLink RX5 15 "EscapeCoder$StepRow" "made" "I", Cond.fieldLink RX5 11 "EscapeCoder$StepRow" "packed" "[J", Cond.fieldLink RX5 19 "EscapeCoder$StepRow" "escapes" "I", Cond.methodLink RX5 26 yJ7_copyOf_c38d5, Cond.static yJ7_copyOf_c38d5, Cond.code yJ7_copyOf_c38d5 cJ7_copyOf_c38d5 3 (some (.array .long)), Cond.methodLink RJ7 319 ⟨"[J", "clone", "()Ljava/lang/Object;"⟩, Cond.sameMethod "[J" "java/lang/Object" "clone" "()Ljava/lang/Object;", Cond.selects "[J" ⟨"[J", "clone", "()Ljava/lang/Object;"⟩ ⟨"java/lang/Object", "clone", "()Ljava/lang/Object;"⟩, Cond.classLink RJ7 320 "[J", Cond.arrayClass .long, Cond.methodLink RX6 114 yX6_plainSymbolAt, Cond.instanceMethod yX6_plainSymbolAt, Cond.selects RX6 yX6_plainSymbolAt yX6_plainSymbolAt, Cond.code yX6_plainSymbolAt cX6_plainSymbolAt 4 (some .int)]
def wsX6_tellPlainly : List Cond := .code yX6_tellPlainly cX6_tellPlainly 5 (some .int) :: ((wsX6_tellPlainly_r1 ++ (wsX6_tellPlainly_r2 ++ (wsX6_tellPlainly_r3 ++ (wsX6_tellPlainly_r4 ++ (wsX6_tellPlainly_r5 ++ wsX6_tellPlainly_r6))))) ++ wsX60 ++ wsX10 ++ wsX20 ++ wsX00 ++ wsX50)
def wsX6_tell_r1 : List Cond := [Cond.fieldLink RX6 30 "EscapeCoder$Teller" "turn" "I", Cond.fieldLink RX6 33 "EscapeCoder$Teller" "outs" "I", Cond.fieldLink RX6 9 "EscapeCoder$Teller" "model" "LEscapeCoder$Model;", Cond.fieldLink RX6 53 "EscapeCoder$Teller" "lives" "I", Cond.fieldLink RX6 26 "EscapeCoder$Teller" "toldOrder" "I", Cond.methodLink RX6 36 yX4_topOrder, Cond.instanceMethod yX4_topOrder, Cond.selects RX4 yX4_topOrder yX4_topOrder, Cond.initialized RX4, Cond.code yX4_topOrder cX4_topOrder 1 (some .int), Cond.fieldLink RX4 52 "EscapeCoder$Model" "topOrder" "I", Cond.methodLink RX6 42 yX4_keyHere, Cond.instanceMethod yX4_keyHere, Cond.selects RX4 yX4_keyHere yX4_keyHere, Cond.code yX4_keyHere cX4_keyHere 2 (some .int), Cond.fieldLink RX4 67 "EscapeCoder$Model" "before" "I", Cond.fieldLink RX4 70 "EscapeCoder$Model" "earlier" "I", Cond.static yX7_keyOf, Cond.initialized RX7, Cond.code yX7_keyOf cX7_keyOf 3 (some .int), Cond.methodLink RX7 180 yX7_isByte, Cond.static yX7_isByte, Cond.code yX7_isByte cX7_isByte 1 (some .boolean), Cond.methodLink RX6 46 yX4_find]
def wsX6_tell_r2 : List Cond := [Cond.instanceMethod yX4_find, Cond.selects RX4 yX4_find yX4_find, Cond.code yX4_find cX4_find 4 (some .int), Cond.fieldLink RX4 40 "EscapeCoder$Model" "bucketNewest" "[I", Cond.fieldLink RX4 64 "EscapeCoder$Model" "contexts" "I", Cond.fieldLink RX4 25 "EscapeCoder$Model" "contextKey" "[I", Cond.fieldLink RX4 37 "EscapeCoder$Model" "contextOlder" "[I", Cond.methodLink RX4 77 yX4_bucketOf, Cond.static yX4_bucketOf, Cond.code yX4_bucketOf cX4_bucketOf 1 (some .int), Cond.methodLink RX4 81 yX4_isContext, Cond.instanceMethod yX4_isContext, Cond.selects RX4 yX4_isContext yX4_isContext, Cond.code yX4_isContext cX4_isContext 2 (some .boolean), Cond.methodLink RX6 49 yX6_gather, Cond.instanceMethod yX6_gather, Cond.selects RX6 yX6_gather yX6_gather, Cond.initialized RX6, Cond.code yX6_gather cX6_gather 4 none, Cond.fieldLink RX6 64 "EscapeCoder$Teller" "liveTotal" "I", Cond.fieldLink RX6 23 "EscapeCoder$Teller" "live" "[I", Cond.methodLink RX6 67 yX4_firstNode, Cond.instanceMethod yX4_firstNode, Cond.selects RX4 yX4_firstNode yX4_firstNode]
def wsX6_tell_r3 : List Cond := [Cond.code yX4_firstNode cX4_firstNode 2 (some .int), Cond.fieldLink RX4 28 "EscapeCoder$Model" "contextFirst" "[I", Cond.methodLink RX6 70 yX4_nodesIn, Cond.instanceMethod yX4_nodesIn, Cond.selects RX4 yX4_nodesIn yX4_nodesIn, Cond.code yX4_nodesIn cX4_nodesIn 2 (some .int), Cond.fieldLink RX4 34 "EscapeCoder$Model" "contextNodes" "[I", Cond.methodLink RX6 73 yX4_byteOf, Cond.instanceMethod yX4_byteOf, Cond.selects RX4 yX4_byteOf yX4_byteOf, Cond.code yX4_byteOf cX4_byteOf 2 (some .int), Cond.fieldLink RX4 15 "EscapeCoder$Model" "nodeByte" "[I", Cond.methodLink RX4 85 yX4_isNode, Cond.instanceMethod yX4_isNode, Cond.selects RX4 yX4_isNode yX4_isNode, Cond.code yX4_isNode cX4_isNode 2 (some .boolean), Cond.fieldLink RX4 61 "EscapeCoder$Model" "nodes" "I", Cond.methodLink RX6 76 yX6_isOut, Cond.instanceMethod yX6_isOut, Cond.selects RX6 yX6_isOut yX6_isOut, Cond.code yX6_isOut cX6_isOut 2 (some .boolean), Cond.fieldLink RX6 19 "EscapeCoder$Teller" "outSince" "[I", Cond.methodLink RX6 80 yX4_countOf, Cond.instanceMethod yX4_countOf]
def wsX6_tell_r4 : List Cond := [Cond.selects RX4 yX4_countOf yX4_countOf, Cond.code yX4_countOf cX4_countOf 2 (some .int), Cond.fieldLink RX4 19 "EscapeCoder$Model" "nodeCount" "[I", Cond.methodLink RX6 83 yX4_nextNode, Cond.instanceMethod yX4_nextNode, Cond.selects RX4 yX4_nextNode yX4_nextNode, Cond.code yX4_nextNode cX4_nextNode 2 (some .int), Cond.fieldLink RX4 22 "EscapeCoder$Model" "nodeNext" "[I", Cond.methodLink RX6 56 yX6_tellAmongLive, Cond.instanceMethod yX6_tellAmongLive, Cond.selects RX6 yX6_tellAmongLive yX6_tellAmongLive, Cond.code yX6_tellAmongLive cX6_tellAmongLive 9 (some .int), Cond.fieldLink RX6 15 "EscapeCoder$Teller" "steps" "LEscapeCoder$StepRow;", Cond.methodLink RX6 86 yX6_liveBeginOf, Cond.instanceMethod yX6_liveBeginOf, Cond.selects RX6 yX6_liveBeginOf yX6_liveBeginOf, Cond.code yX6_liveBeginOf cX6_liveBeginOf 4 (some .int), Cond.methodLink RX6 89 ⟨"EscapeCoder$Interval", "placeIn", "(II)I"⟩, Cond.sameMethod "EscapeCoder$Interval" "EscapeCoder$Interval" "placeIn" "(II)I", Cond.selects RX1 ⟨"EscapeCoder$Interval", "placeIn", "(II)I"⟩ yX1_placeIn, Cond.instanceMethod yX1_placeIn, Cond.initialized RX1, Cond.code yX1_placeIn cX1_placeIn 5 (some .int), Cond.fieldLink RX1 18 "EscapeCoder$CodeReader" "ahead" "J"]
def wsX6_tell_r5 : List Cond := [Cond.methodLink RX1 33 Lib.MathLoose.min_long.x, Cond.static Lib.MathLoose.min_long.x, Cond.initialized "java/lang/Math", Cond.code Lib.MathLoose.min_long.x Lib.MathLoose.min_long.code 4 (some .long), Cond.methodLink RX1 29 ⟨"EscapeCoder$CodeReader", "unitOf", "(I)J"⟩, Cond.sameMethod "EscapeCoder$CodeReader" "EscapeCoder$Interval" "unitOf" "(I)J", Cond.selects RX1 ⟨"EscapeCoder$CodeReader", "unitOf", "(I)J"⟩ yX3_unitOf, Cond.instanceMethod yX3_unitOf, Cond.initialized RX3, Cond.code yX3_unitOf cX3_unitOf 2 (some .long), Cond.fieldLink RX3 7 "EscapeCoder$Interval" "range" "J", Cond.selects RX2 ⟨"EscapeCoder$Interval", "placeIn", "(II)I"⟩ yX2_placeIn, Cond.instanceMethod yX2_placeIn, Cond.initialized RX2, Cond.code yX2_placeIn cX2_placeIn 3 (some .int), Cond.methodLink RX6 95 ⟨"EscapeCoder$Interval", "narrow", "(III)V"⟩, Cond.sameMethod "EscapeCoder$Interval" "EscapeCoder$Interval" "narrow" "(III)V", Cond.selects RX1 ⟨"EscapeCoder$Interval", "narrow", "(III)V"⟩ yX3_narrow, Cond.instanceMethod yX3_narrow, Cond.code yX3_narrow cX3_narrow 7 none, Cond.constantLong RX3 27 (16777216), Cond.constantLong RX3 32 (256), Cond.fieldLink RX3 13 "EscapeCoder$Interval" "shifts" "I", Cond.methodLink RX3 19 ⟨"EscapeCoder$Interval", "unitOf", "(I)J"⟩]
def wsX6_tell_r6 : List Cond := [Cond.sameMethod "EscapeCoder$Interval" "EscapeCoder$Interval" "unitOf" "(I)J", Cond.selects RX1 ⟨"EscapeCoder$Interval", "unitOf", "(I)J"⟩ yX3_unitOf, Cond.selects RX2 ⟨"EscapeCoder$Interval", "unitOf", "(I)J"⟩ yX3_unitOf, Cond.methodLink RX3 23 ⟨"EscapeCoder$Interval", "raiseLow", "(J)V"⟩, Cond.sameMethod "EscapeCoder$Interval" "EscapeCoder$Interval" "raiseLow" "(J)V", Cond.selects RX1 ⟨"EscapeCoder$Interval", "raiseLow", "(J)V"⟩ yX1_raiseLow, Cond.instanceMethod yX1_raiseLow, Cond.code yX1_raiseLow cX1_raiseLow 3 none, Cond.selects RX2 ⟨"EscapeCoder$Interval", "raiseLow", "(J)V"⟩ yX2_raiseLow, Cond.instanceMethod yX2_raiseLow, Cond.code yX2_raiseLow cX2_raiseLow 3 none, Cond.fieldLink RX2 23 "EscapeCoder$CodeWriter" "low" "J", Cond.constantLong RX2 27 (4294967295), Cond.methodLink RX2 29 yX2_carry, Cond.instanceMethod yX2_carry, Cond.selects RX2 yX2_carry yX2_carry, Cond.code yX2_carry cX2_carry 3 none, Cond.fieldLink RX2 9 "EscapeCoder$CodeWriter" "code" "LEscapeCoder$ByteRow;", Cond.methodLink RX2 42 yX0_length, Cond.instanceMethod yX0_length, Cond.selects RX0 yX0_length yX0_length, Cond.initialized RX0, Cond.code yX0_length cX0_length 1 (some .int), Cond.fieldLink RX0 19 "EscapeCoder$ByteRow" "length" "I"]
def wsX6_tell_r7 : List Cond := [Cond.methodLink RX2 45 yX0_byteAt, Cond.instanceMethod yX0_byteAt, Cond.selects RX0 yX0_byteAt yX0_byteAt, Cond.code yX0_byteAt cX0_byteAt 2 (some .int), Cond.fieldLink RX0 15 "EscapeCoder$ByteRow" "bytes" "[I", Cond.methodLink RX2 49 yX0_put, Cond.instanceMethod yX0_put, Cond.selects RX0 yX0_put yX0_put, Cond.code yX0_put cX0_put 3 (some .boolean), Cond.methodLink RX3 29 ⟨"EscapeCoder$Interval", "shiftOnce", "()V"⟩, Cond.sameMethod "EscapeCoder$Interval" "EscapeCoder$Interval" "shiftOnce" "()V", Cond.selects RX1 ⟨"EscapeCoder$Interval", "shiftOnce", "()V"⟩ yX1_shiftOnce, Cond.instanceMethod yX1_shiftOnce, Cond.code yX1_shiftOnce cX1_shiftOnce 1 none, Cond.constantLong RX1 39 (256), Cond.fieldLink RX1 22 "EscapeCoder$CodeReader" "taken" "I", Cond.fieldLink RX1 9 "EscapeCoder$CodeReader" "code" "LEscapeCoder$ByteRow;", Cond.methodLink RX1 41 yX0_length, Cond.methodLink RX1 47 yX0_byteAt, Cond.selects RX2 ⟨"EscapeCoder$Interval", "shiftOnce", "()V"⟩ yX2_shiftOnce, Cond.instanceMethod yX2_shiftOnce, Cond.code yX2_shiftOnce cX2_shiftOnce 1 none, Cond.methodLink RX2 32 yX0_add, Cond.instanceMethod yX0_add]
def wsX6_tell_r8 : List Cond := [Cond.selects RX0 yX0_add yX0_add, Cond.code yX0_add cX0_add 2 (some .boolean), Cond.fieldLink RX0 9 "EscapeCoder$ByteRow" "most" "I", Cond.static yX7_grown, Cond.code yX7_grown cX7_grown 2 (some .int), Cond.methodLink RX7 183 Lib.Math.min.name, Cond.static Lib.Math.min.name, Cond.code Lib.Math.min.name Lib.Math.min.code 2 (some .int), Cond.methodLink RX0 30 yJ7_copyOf_59c91, Cond.static yJ7_copyOf_59c91, Cond.initialized RJ7, Cond.code yJ7_copyOf_59c91 cJ7_copyOf_59c91 3 (some (.array .int)), Cond.methodLink RJ7 316 ⟨"[I", "clone", "()Ljava/lang/Object;"⟩, Cond.sameMethod "[I" "java/lang/Object" "clone" "()Ljava/lang/Object;", Cond.native ⟨"java/lang/Object", "clone", "()Ljava/lang/Object;"⟩, Cond.instanceMethod ⟨"java/lang/Object", "clone", "()Ljava/lang/Object;"⟩, Cond.selects "[I" ⟨"[I", "clone", "()Ljava/lang/Object;"⟩ ⟨"java/lang/Object", "clone", "()Ljava/lang/Object;"⟩, Cond.classLink RJ7 317 "[I", Cond.arrayClass .int, Cond.methodLink RJ7 304 Lib.Math.min.name, Cond.methodLink RJ7 150 arraycopyName, Cond.native arraycopyName, Cond.static arraycopyName, Cond.initialized "java/lang/System"]
def wsX6_tell_r9 : List Cond := [Cond.selects RX2 ⟨"EscapeCoder$Interval", "narrow", "(III)V"⟩ yX3_narrow, Cond.methodLink RX6 99 yX5_add, Cond.instanceMethod yX5_add, Cond.selects RX5 yX5_add yX5_add, Cond.initialized RX5, Cond.code yX5_add cX5_add 6 none, Cond.fieldLink RX5 15 "EscapeCoder$StepRow" "made" "I", Cond.fieldLink RX5 11 "EscapeCoder$StepRow" "packed" "[J", Cond.fieldLink RX5 19 "EscapeCoder$StepRow" "escapes" "I", Cond.methodLink RX5 26 yJ7_copyOf_c38d5, Cond.static yJ7_copyOf_c38d5, Cond.code yJ7_copyOf_c38d5 cJ7_copyOf_c38d5 3 (some (.array .long)), Cond.methodLink RJ7 319 ⟨"[J", "clone", "()Ljava/lang/Object;"⟩, Cond.sameMethod "[J" "java/lang/Object" "clone" "()Ljava/lang/Object;", Cond.selects "[J" ⟨"[J", "clone", "()Ljava/lang/Object;"⟩ ⟨"java/lang/Object", "clone", "()Ljava/lang/Object;"⟩, Cond.classLink RJ7 320 "[J", Cond.arrayClass .long, Cond.methodLink RX6 105 yX6_putLiveOut, Cond.instanceMethod yX6_putLiveOut, Cond.selects RX6 yX6_putLiveOut yX6_putLiveOut, Cond.code yX6_putLiveOut cX6_putLiveOut 3 none, Cond.methodLink RX6 60 yX6_tellPlainly, Cond.instanceMethod yX6_tellPlainly, Cond.selects RX6 yX6_tellPlainly yX6_tellPlainly]
def wsX6_tell_r10 : List Cond := [Cond.code yX6_tellPlainly cX6_tellPlainly 5 (some .int), Cond.methodLink RX6 111 yX6_plainBeginOf, Cond.instanceMethod yX6_plainBeginOf, Cond.selects RX6 yX6_plainBeginOf yX6_plainBeginOf, Cond.code yX6_plainBeginOf cX6_plainBeginOf 4 (some .int), Cond.methodLink RX6 114 yX6_plainSymbolAt, Cond.instanceMethod yX6_plainSymbolAt, Cond.selects RX6 yX6_plainSymbolAt yX6_plainSymbolAt, Cond.code yX6_plainSymbolAt cX6_plainSymbolAt 4 (some .int)]
def wsX6_tell : List Cond := .code yX6_tell cX6_tell 5 (some .int) :: ((wsX6_tell_r1 ++ (wsX6_tell_r2 ++ (wsX6_tell_r3 ++ (wsX6_tell_r4 ++ (wsX6_tell_r5 ++ (wsX6_tell_r6 ++ (wsX6_tell_r7 ++ (wsX6_tell_r8 ++ (wsX6_tell_r9 ++ wsX6_tell_r10))))))))) ++ wsX60 ++ wsX40 ++ wsX10 ++ wsX20 ++ wsX00 ++ wsX50)
def wsX7_init_r1 : List Cond := [Cond.methodLink RX7 1 objectInit, Cond.instanceMethod objectInit, Cond.code objectInit ⟨#[0xb1]⟩ 1 none, Cond.classLink RX7 7 RX0, Cond.instantiable RX0 3, Cond.initialized RX0, Cond.fieldLink RX7 14 "EscapeCoder" "text" "LEscapeCoder$ByteRow;", Cond.fieldLink RX7 18 "EscapeCoder" "code" "LEscapeCoder$ByteRow;", Cond.fieldLink RX7 21 "EscapeCoder" "output" "LEscapeCoder$ByteRow;", Cond.classLink RX7 24 RX5, Cond.instantiable RX5 3, Cond.initialized RX5, Cond.fieldLink RX7 27 "EscapeCoder" "steps" "LEscapeCoder$StepRow;", Cond.classLink RX7 31 RX4, Cond.instantiable RX4 17, Cond.initialized RX4, Cond.fieldLink RX7 34 "EscapeCoder" "model" "LEscapeCoder$Model;", Cond.classLink RX7 38 RX6, Cond.instantiable RX6 9, Cond.initialized RX6, Cond.fieldLink RX7 43 "EscapeCoder" "teller" "LEscapeCoder$Teller;", Cond.classLink RX7 47 RX2, Cond.instantiable RX2 4, Cond.initialized RX2]
def wsX7_init_r2 : List Cond := [Cond.fieldLink RX7 52 "EscapeCoder" "writer" "LEscapeCoder$CodeWriter;", Cond.classLink RX7 56 RX1, Cond.instantiable RX1 5, Cond.initialized RX1, Cond.fieldLink RX7 59 "EscapeCoder" "reader" "LEscapeCoder$CodeReader;", Cond.methodLink RX7 11 yX0_init, Cond.instanceMethod yX0_init, Cond.code yX0_init cX0_init 2 none, Cond.methodLink RX0 3 objectInit, Cond.fieldLink RX0 9 "EscapeCoder$ByteRow" "most" "I", Cond.arrayClass .int, Cond.fieldLink RX0 15 "EscapeCoder$ByteRow" "bytes" "[I", Cond.methodLink RX7 26 yX5_init, Cond.instanceMethod yX5_init, Cond.code yX5_init cX5_init 1 none, Cond.methodLink RX5 5 objectInit, Cond.arrayClass .long, Cond.fieldLink RX5 11 "EscapeCoder$StepRow" "packed" "[J", Cond.methodLink RX7 33 yX4_init, Cond.instanceMethod yX4_init, Cond.code yX4_init cX4_init 2 none, Cond.methodLink RX4 3 objectInit, Cond.fieldLink RX4 9 "EscapeCoder$Model" "limit" "I", Cond.fieldLink RX4 15 "EscapeCoder$Model" "nodeByte" "[I"]
def wsX7_init_r3 : List Cond := [Cond.fieldLink RX4 19 "EscapeCoder$Model" "nodeCount" "[I", Cond.fieldLink RX4 22 "EscapeCoder$Model" "nodeNext" "[I", Cond.fieldLink RX4 25 "EscapeCoder$Model" "contextKey" "[I", Cond.fieldLink RX4 28 "EscapeCoder$Model" "contextFirst" "[I", Cond.fieldLink RX4 31 "EscapeCoder$Model" "contextLast" "[I", Cond.fieldLink RX4 34 "EscapeCoder$Model" "contextNodes" "[I", Cond.fieldLink RX4 37 "EscapeCoder$Model" "contextOlder" "[I", Cond.fieldLink RX4 40 "EscapeCoder$Model" "bucketNewest" "[I", Cond.methodLink RX4 43 yJ7_fill_53178, Cond.static yJ7_fill_53178, Cond.initialized RJ7, Cond.code yJ7_fill_53178 cJ7_fill_53178 4 none, Cond.methodLink RX7 40 yX6_init, Cond.instanceMethod yX6_init, Cond.code yX6_init cX6_init 3 none, Cond.methodLink RX6 3 objectInit, Cond.fieldLink RX6 9 "EscapeCoder$Teller" "model" "LEscapeCoder$Model;", Cond.fieldLink RX6 15 "EscapeCoder$Teller" "steps" "LEscapeCoder$StepRow;", Cond.fieldLink RX6 19 "EscapeCoder$Teller" "outSince" "[I", Cond.fieldLink RX6 23 "EscapeCoder$Teller" "live" "[I", Cond.methodLink RX7 49 yX2_init, Cond.instanceMethod yX2_init, Cond.code yX2_init cX2_init 2 none, Cond.fieldLink RX2 9 "EscapeCoder$CodeWriter" "code" "LEscapeCoder$ByteRow;"]
def wsX7_init_r4 : List Cond := [Cond.instanceMethod yX3_init, Cond.initialized RX3, Cond.code yX3_init cX3_init 1 none, Cond.methodLink RX3 1 objectInit, Cond.methodLink RX7 58 yX1_init, Cond.instanceMethod yX1_init, Cond.code yX1_init cX1_init 2 none, Cond.fieldLink RX1 9 "EscapeCoder$CodeReader" "code" "LEscapeCoder$ByteRow;"]
def wsX7_init : List Cond := .code yX7_init cX7_init 1 none :: ((wsX7_init_r1 ++ (wsX7_init_r2 ++ (wsX7_init_r3 ++ wsX7_init_r4))) ++ wsX00 ++ wsX70 ++ wsX50 ++ wsX40 ++ wsX60 ++ wsX20 ++ wsX10)
def wsX7_begin_r1 : List Cond := [Cond.fieldLink RX7 14 "EscapeCoder" "text" "LEscapeCoder$ByteRow;", Cond.fieldLink RX7 18 "EscapeCoder" "code" "LEscapeCoder$ByteRow;", Cond.fieldLink RX7 21 "EscapeCoder" "output" "LEscapeCoder$ByteRow;", Cond.fieldLink RX7 27 "EscapeCoder" "steps" "LEscapeCoder$StepRow;", Cond.fieldLink RX7 34 "EscapeCoder" "model" "LEscapeCoder$Model;", Cond.fieldLink RX7 73 "EscapeCoder" "latestShifts" "J", Cond.fieldLink RX7 77 "EscapeCoder" "latestRange" "J", Cond.methodLink RX7 63 yX0_clear, Cond.instanceMethod yX0_clear, Cond.selects RX0 yX0_clear yX0_clear, Cond.initialized RX0, Cond.code yX0_clear cX0_clear 1 none, Cond.fieldLink RX0 19 "EscapeCoder$ByteRow" "length" "I", Cond.methodLink RX7 66 yX5_clear, Cond.instanceMethod yX5_clear, Cond.selects RX5 yX5_clear yX5_clear, Cond.initialized RX5, Cond.code yX5_clear cX5_clear 1 none, Cond.fieldLink RX5 15 "EscapeCoder$StepRow" "made" "I", Cond.fieldLink RX5 19 "EscapeCoder$StepRow" "escapes" "I", Cond.methodLink RX7 67 yX4_restart, Cond.instanceMethod yX4_restart, Cond.selects RX4 yX4_restart yX4_restart, Cond.initialized RX4]
def wsX7_begin_r2 : List Cond := [Cond.code yX4_restart cX4_restart 1 none, Cond.fieldLink RX4 52 "EscapeCoder$Model" "topOrder" "I", Cond.fieldLink RX4 55 "EscapeCoder$Model" "rescalings" "I", Cond.fieldLink RX4 58 "EscapeCoder$Model" "resets" "I", Cond.methodLink RX4 49 yX4_dropAll, Cond.instanceMethod yX4_dropAll, Cond.selects RX4 yX4_dropAll yX4_dropAll, Cond.code yX4_dropAll cX4_dropAll 2 none, Cond.fieldLink RX4 64 "EscapeCoder$Model" "contexts" "I", Cond.fieldLink RX4 40 "EscapeCoder$Model" "bucketNewest" "[I", Cond.fieldLink RX4 25 "EscapeCoder$Model" "contextKey" "[I", Cond.fieldLink RX4 61 "EscapeCoder$Model" "nodes" "I", Cond.methodLink RX4 77 yX4_bucketOf, Cond.static yX4_bucketOf, Cond.code yX4_bucketOf cX4_bucketOf 1 (some .int), Cond.methodLink RX7 70 yX4_limitTo, Cond.instanceMethod yX4_limitTo, Cond.selects RX4 yX4_limitTo yX4_limitTo, Cond.code yX4_limitTo cX4_limitTo 2 none, Cond.fieldLink RX4 9 "EscapeCoder$Model" "limit" "I"]
def wsX7_begin : List Cond := .code yX7_begin cX7_begin 2 (some .boolean) :: ((wsX7_begin_r1 ++ wsX7_begin_r2) ++ wsX70 ++ wsX00 ++ wsX50 ++ wsX40)
def wsX7_feed_r1 : List Cond := [Cond.fieldLink RX7 14 "EscapeCoder" "text" "LEscapeCoder$ByteRow;", Cond.methodLink RX7 80 yX0_add, Cond.instanceMethod yX0_add, Cond.selects RX0 yX0_add yX0_add, Cond.initialized RX0, Cond.code yX0_add cX0_add 2 (some .boolean), Cond.fieldLink RX0 19 "EscapeCoder$ByteRow" "length" "I", Cond.fieldLink RX0 9 "EscapeCoder$ByteRow" "most" "I", Cond.fieldLink RX0 15 "EscapeCoder$ByteRow" "bytes" "[I", Cond.static yX7_isByte, Cond.initialized RX7, Cond.code yX7_isByte cX7_isByte 1 (some .boolean), Cond.static yX7_grown, Cond.code yX7_grown cX7_grown 2 (some .int), Cond.methodLink RX7 183 Lib.Math.min.name, Cond.static Lib.Math.min.name, Cond.initialized "java/lang/Math", Cond.code Lib.Math.min.name Lib.Math.min.code 2 (some .int), Cond.methodLink RX0 30 yJ7_copyOf_59c91, Cond.static yJ7_copyOf_59c91, Cond.initialized RJ7, Cond.code yJ7_copyOf_59c91 cJ7_copyOf_59c91 3 (some (.array .int)), Cond.methodLink RJ7 316 ⟨"[I", "clone", "()Ljava/lang/Object;"⟩, Cond.sameMethod "[I" "java/lang/Object" "clone" "()Ljava/lang/Object;"]
def wsX7_feed_r2 : List Cond := [Cond.native ⟨"java/lang/Object", "clone", "()Ljava/lang/Object;"⟩, Cond.instanceMethod ⟨"java/lang/Object", "clone", "()Ljava/lang/Object;"⟩, Cond.selects "[I" ⟨"[I", "clone", "()Ljava/lang/Object;"⟩ ⟨"java/lang/Object", "clone", "()Ljava/lang/Object;"⟩, Cond.classLink RJ7 317 "[I", Cond.arrayClass .int, Cond.methodLink RJ7 304 Lib.Math.min.name, Cond.methodLink RJ7 150 arraycopyName, Cond.native arraycopyName, Cond.static arraycopyName, Cond.initialized "java/lang/System"]
def wsX7_feed : List Cond := .code yX7_feed cX7_feed 2 (some .boolean) :: ((wsX7_feed_r1 ++ wsX7_feed_r2) ++ wsX70 ++ wsX00)
def wsX7_cut : List Cond := .code yX7_cut cX7_cut 2 (some .boolean) :: ([.fieldLink RX7 14 "EscapeCoder" "text" "LEscapeCoder$ByteRow;", .methodLink RX7 84 yX0_shorten, .instanceMethod yX0_shorten, .selects RX0 yX0_shorten yX0_shorten, .initialized RX0, .code yX0_shorten cX0_shorten 2 (some .boolean), .fieldLink RX0 19 "EscapeCoder$ByteRow" "length" "I"] ++ wsX70 ++ wsX00)
def wsX7_noteEnd : List Cond := .code yX7_noteEnd cX7_noteEnd 2 none :: ([.fieldLink RX7 73 "EscapeCoder" "latestShifts" "J", .fieldLink RX7 77 "EscapeCoder" "latestRange" "J", .methodLink RX7 173 ⟨"EscapeCoder$Interval", "shifts", "()I"⟩, .sameMethod "EscapeCoder$Interval" "EscapeCoder$Interval" "shifts" "()I", .selects RX1 ⟨"EscapeCoder$Interval", "shifts", "()I"⟩ yX3_shifts, .instanceMethod yX3_shifts, .initialized RX3, .code yX3_shifts cX3_shifts 1 (some .int), .fieldLink RX3 13 "EscapeCoder$Interval" "shifts" "I", .selects RX2 ⟨"EscapeCoder$Interval", "shifts", "()I"⟩ yX3_shifts, .methodLink RX7 176 ⟨"EscapeCoder$Interval", "range", "()J"⟩, .sameMethod "EscapeCoder$Interval" "EscapeCoder$Interval" "range" "()J", .selects RX1 ⟨"EscapeCoder$Interval", "range", "()J"⟩ yX3_range, .instanceMethod yX3_range, .code yX3_range cX3_range 1 (some .long), .fieldLink RX3 7 "EscapeCoder$Interval" "range" "J", .selects RX2 ⟨"EscapeCoder$Interval", "range", "()J"⟩ yX3_range] ++ wsX70 ++ wsX10 ++ wsX20)
def wsX7_encode_r1 : List Cond := [Cond.fieldLink RX7 27 "EscapeCoder" "steps" "LEscapeCoder$StepRow;", Cond.fieldLink RX7 34 "EscapeCoder" "model" "LEscapeCoder$Model;", Cond.fieldLink RX7 52 "EscapeCoder" "writer" "LEscapeCoder$CodeWriter;", Cond.fieldLink RX7 14 "EscapeCoder" "text" "LEscapeCoder$ByteRow;", Cond.fieldLink RX7 43 "EscapeCoder" "teller" "LEscapeCoder$Teller;", Cond.fieldLink RX7 18 "EscapeCoder" "code" "LEscapeCoder$ByteRow;", Cond.methodLink RX7 66 yX5_clear, Cond.instanceMethod yX5_clear, Cond.selects RX5 yX5_clear yX5_clear, Cond.initialized RX5, Cond.code yX5_clear cX5_clear 1 none, Cond.fieldLink RX5 15 "EscapeCoder$StepRow" "made" "I", Cond.fieldLink RX5 19 "EscapeCoder$StepRow" "escapes" "I", Cond.methodLink RX7 67 yX4_restart, Cond.instanceMethod yX4_restart, Cond.selects RX4 yX4_restart yX4_restart, Cond.initialized RX4, Cond.code yX4_restart cX4_restart 1 none, Cond.fieldLink RX4 52 "EscapeCoder$Model" "topOrder" "I", Cond.fieldLink RX4 55 "EscapeCoder$Model" "rescalings" "I", Cond.fieldLink RX4 58 "EscapeCoder$Model" "resets" "I", Cond.methodLink RX4 49 yX4_dropAll, Cond.instanceMethod yX4_dropAll, Cond.selects RX4 yX4_dropAll yX4_dropAll]
def wsX7_encode_r2 : List Cond := [Cond.code yX4_dropAll cX4_dropAll 2 none, Cond.fieldLink RX4 64 "EscapeCoder$Model" "contexts" "I", Cond.fieldLink RX4 40 "EscapeCoder$Model" "bucketNewest" "[I", Cond.fieldLink RX4 25 "EscapeCoder$Model" "contextKey" "[I", Cond.fieldLink RX4 61 "EscapeCoder$Model" "nodes" "I", Cond.methodLink RX4 77 yX4_bucketOf, Cond.static yX4_bucketOf, Cond.code yX4_bucketOf cX4_bucketOf 1 (some .int), Cond.methodLink RX7 87 yX2_restart, Cond.instanceMethod yX2_restart, Cond.selects RX2 yX2_restart yX2_restart, Cond.initialized RX2, Cond.code yX2_restart cX2_restart 1 none, Cond.fieldLink RX2 9 "EscapeCoder$CodeWriter" "code" "LEscapeCoder$ByteRow;", Cond.fieldLink RX2 23 "EscapeCoder$CodeWriter" "low" "J", Cond.methodLink RX2 15 ⟨"EscapeCoder$CodeWriter", "widen", "()V"⟩, Cond.sameMethod "EscapeCoder$CodeWriter" "EscapeCoder$Interval" "widen" "()V", Cond.selects RX2 ⟨"EscapeCoder$CodeWriter", "widen", "()V"⟩ yX3_widen, Cond.instanceMethod yX3_widen, Cond.initialized RX3, Cond.code yX3_widen cX3_widen 1 none, Cond.constantLong RX3 17 (4294967295), Cond.fieldLink RX3 7 "EscapeCoder$Interval" "range" "J", Cond.fieldLink RX3 13 "EscapeCoder$Interval" "shifts" "I"]
def wsX7_encode_r3 : List Cond := [Cond.methodLink RX2 18 yX0_clear, Cond.instanceMethod yX0_clear, Cond.selects RX0 yX0_clear yX0_clear, Cond.initialized RX0, Cond.code yX0_clear cX0_clear 1 none, Cond.fieldLink RX0 19 "EscapeCoder$ByteRow" "length" "I", Cond.methodLink RX7 88 yX0_length, Cond.instanceMethod yX0_length, Cond.selects RX0 yX0_length yX0_length, Cond.code yX0_length cX0_length 1 (some .int), Cond.methodLink RX7 92 yX0_byteAt, Cond.instanceMethod yX0_byteAt, Cond.selects RX0 yX0_byteAt yX0_byteAt, Cond.code yX0_byteAt cX0_byteAt 2 (some .int), Cond.fieldLink RX0 15 "EscapeCoder$ByteRow" "bytes" "[I", Cond.methodLink RX7 96 yX6_tell, Cond.instanceMethod yX6_tell, Cond.selects RX6 yX6_tell yX6_tell, Cond.initialized RX6, Cond.code yX6_tell cX6_tell 5 (some .int), Cond.fieldLink RX6 30 "EscapeCoder$Teller" "turn" "I", Cond.fieldLink RX6 33 "EscapeCoder$Teller" "outs" "I", Cond.fieldLink RX6 9 "EscapeCoder$Teller" "model" "LEscapeCoder$Model;", Cond.fieldLink RX6 53 "EscapeCoder$Teller" "lives" "I"]
def wsX7_encode_r4 : List Cond := [Cond.fieldLink RX6 26 "EscapeCoder$Teller" "toldOrder" "I", Cond.methodLink RX6 36 yX4_topOrder, Cond.instanceMethod yX4_topOrder, Cond.selects RX4 yX4_topOrder yX4_topOrder, Cond.code yX4_topOrder cX4_topOrder 1 (some .int), Cond.methodLink RX6 42 yX4_keyHere, Cond.instanceMethod yX4_keyHere, Cond.selects RX4 yX4_keyHere yX4_keyHere, Cond.code yX4_keyHere cX4_keyHere 2 (some .int), Cond.fieldLink RX4 67 "EscapeCoder$Model" "before" "I", Cond.fieldLink RX4 70 "EscapeCoder$Model" "earlier" "I", Cond.static yX7_keyOf, Cond.initialized RX7, Cond.code yX7_keyOf cX7_keyOf 3 (some .int), Cond.methodLink RX7 180 yX7_isByte, Cond.static yX7_isByte, Cond.code yX7_isByte cX7_isByte 1 (some .boolean), Cond.methodLink RX6 46 yX4_find, Cond.instanceMethod yX4_find, Cond.selects RX4 yX4_find yX4_find, Cond.code yX4_find cX4_find 4 (some .int), Cond.fieldLink RX4 37 "EscapeCoder$Model" "contextOlder" "[I", Cond.methodLink RX4 81 yX4_isContext, Cond.instanceMethod yX4_isContext]
def wsX7_encode_r5 : List Cond := [Cond.selects RX4 yX4_isContext yX4_isContext, Cond.code yX4_isContext cX4_isContext 2 (some .boolean), Cond.methodLink RX6 49 yX6_gather, Cond.instanceMethod yX6_gather, Cond.selects RX6 yX6_gather yX6_gather, Cond.code yX6_gather cX6_gather 4 none, Cond.fieldLink RX6 64 "EscapeCoder$Teller" "liveTotal" "I", Cond.fieldLink RX6 23 "EscapeCoder$Teller" "live" "[I", Cond.methodLink RX6 67 yX4_firstNode, Cond.instanceMethod yX4_firstNode, Cond.selects RX4 yX4_firstNode yX4_firstNode, Cond.code yX4_firstNode cX4_firstNode 2 (some .int), Cond.fieldLink RX4 28 "EscapeCoder$Model" "contextFirst" "[I", Cond.methodLink RX6 70 yX4_nodesIn, Cond.instanceMethod yX4_nodesIn, Cond.selects RX4 yX4_nodesIn yX4_nodesIn, Cond.code yX4_nodesIn cX4_nodesIn 2 (some .int), Cond.fieldLink RX4 34 "EscapeCoder$Model" "contextNodes" "[I", Cond.methodLink RX6 73 yX4_byteOf, Cond.instanceMethod yX4_byteOf, Cond.selects RX4 yX4_byteOf yX4_byteOf, Cond.code yX4_byteOf cX4_byteOf 2 (some .int), Cond.fieldLink RX4 15 "EscapeCoder$Model" "nodeByte" "[I", Cond.methodLink RX4 85 yX4_isNode]
def wsX7_encode_r6 : List Cond := [Cond.instanceMethod yX4_isNode, Cond.selects RX4 yX4_isNode yX4_isNode, Cond.code yX4_isNode cX4_isNode 2 (some .boolean), Cond.methodLink RX6 76 yX6_isOut, Cond.instanceMethod yX6_isOut, Cond.selects RX6 yX6_isOut yX6_isOut, Cond.code yX6_isOut cX6_isOut 2 (some .boolean), Cond.fieldLink RX6 19 "EscapeCoder$Teller" "outSince" "[I", Cond.methodLink RX6 80 yX4_countOf, Cond.instanceMethod yX4_countOf, Cond.selects RX4 yX4_countOf yX4_countOf, Cond.code yX4_countOf cX4_countOf 2 (some .int), Cond.fieldLink RX4 19 "EscapeCoder$Model" "nodeCount" "[I", Cond.methodLink RX6 83 yX4_nextNode, Cond.instanceMethod yX4_nextNode, Cond.selects RX4 yX4_nextNode yX4_nextNode, Cond.code yX4_nextNode cX4_nextNode 2 (some .int), Cond.fieldLink RX4 22 "EscapeCoder$Model" "nodeNext" "[I", Cond.methodLink RX6 56 yX6_tellAmongLive, Cond.instanceMethod yX6_tellAmongLive, Cond.selects RX6 yX6_tellAmongLive yX6_tellAmongLive, Cond.code yX6_tellAmongLive cX6_tellAmongLive 9 (some .int), Cond.fieldLink RX6 15 "EscapeCoder$Teller" "steps" "LEscapeCoder$StepRow;", Cond.methodLink RX6 86 yX6_liveBeginOf]
def wsX7_encode_r7 : List Cond := [Cond.instanceMethod yX6_liveBeginOf, Cond.selects RX6 yX6_liveBeginOf yX6_liveBeginOf, Cond.code yX6_liveBeginOf cX6_liveBeginOf 4 (some .int), Cond.methodLink RX6 89 ⟨"EscapeCoder$Interval", "placeIn", "(II)I"⟩, Cond.sameMethod "EscapeCoder$Interval" "EscapeCoder$Interval" "placeIn" "(II)I", Cond.selects RX1 ⟨"EscapeCoder$Interval", "placeIn", "(II)I"⟩ yX1_placeIn, Cond.instanceMethod yX1_placeIn, Cond.initialized RX1, Cond.code yX1_placeIn cX1_placeIn 5 (some .int), Cond.fieldLink RX1 18 "EscapeCoder$CodeReader" "ahead" "J", Cond.methodLink RX1 33 Lib.MathLoose.min_long.x, Cond.static Lib.MathLoose.min_long.x, Cond.initialized "java/lang/Math", Cond.code Lib.MathLoose.min_long.x Lib.MathLoose.min_long.code 4 (some .long), Cond.methodLink RX1 29 ⟨"EscapeCoder$CodeReader", "unitOf", "(I)J"⟩, Cond.sameMethod "EscapeCoder$CodeReader" "EscapeCoder$Interval" "unitOf" "(I)J", Cond.selects RX1 ⟨"EscapeCoder$CodeReader", "unitOf", "(I)J"⟩ yX3_unitOf, Cond.instanceMethod yX3_unitOf, Cond.code yX3_unitOf cX3_unitOf 2 (some .long), Cond.selects RX2 ⟨"EscapeCoder$Interval", "placeIn", "(II)I"⟩ yX2_placeIn, Cond.instanceMethod yX2_placeIn, Cond.code yX2_placeIn cX2_placeIn 3 (some .int), Cond.methodLink RX6 95 ⟨"EscapeCoder$Interval", "narrow", "(III)V"⟩, Cond.sameMethod "EscapeCoder$Interval" "EscapeCoder$Interval" "narrow" "(III)V"]
def wsX7_encode_r8 : List Cond := [Cond.selects RX1 ⟨"EscapeCoder$Interval", "narrow", "(III)V"⟩ yX3_narrow, Cond.instanceMethod yX3_narrow, Cond.code yX3_narrow cX3_narrow 7 none, Cond.constantLong RX3 27 (16777216), Cond.constantLong RX3 32 (256), Cond.methodLink RX3 19 ⟨"EscapeCoder$Interval", "unitOf", "(I)J"⟩, Cond.sameMethod "EscapeCoder$Interval" "EscapeCoder$Interval" "unitOf" "(I)J", Cond.selects RX1 ⟨"EscapeCoder$Interval", "unitOf", "(I)J"⟩ yX3_unitOf, Cond.selects RX2 ⟨"EscapeCoder$Interval", "unitOf", "(I)J"⟩ yX3_unitOf, Cond.methodLink RX3 23 ⟨"EscapeCoder$Interval", "raiseLow", "(J)V"⟩, Cond.sameMethod "EscapeCoder$Interval" "EscapeCoder$Interval" "raiseLow" "(J)V", Cond.selects RX1 ⟨"EscapeCoder$Interval", "raiseLow", "(J)V"⟩ yX1_raiseLow, Cond.instanceMethod yX1_raiseLow, Cond.code yX1_raiseLow cX1_raiseLow 3 none, Cond.selects RX2 ⟨"EscapeCoder$Interval", "raiseLow", "(J)V"⟩ yX2_raiseLow, Cond.instanceMethod yX2_raiseLow, Cond.code yX2_raiseLow cX2_raiseLow 3 none, Cond.constantLong RX2 27 (4294967295), Cond.methodLink RX2 29 yX2_carry, Cond.instanceMethod yX2_carry, Cond.selects RX2 yX2_carry yX2_carry, Cond.code yX2_carry cX2_carry 3 none, Cond.methodLink RX2 42 yX0_length, Cond.methodLink RX2 45 yX0_byteAt]
def wsX7_encode_r9 : List Cond := [Cond.methodLink RX2 49 yX0_put, Cond.instanceMethod yX0_put, Cond.selects RX0 yX0_put yX0_put, Cond.code yX0_put cX0_put 3 (some .boolean), Cond.methodLink RX3 29 ⟨"EscapeCoder$Interval", "shiftOnce", "()V"⟩, Cond.sameMethod "EscapeCoder$Interval" "EscapeCoder$Interval" "shiftOnce" "()V", Cond.selects RX1 ⟨"EscapeCoder$Interval", "shiftOnce", "()V"⟩ yX1_shiftOnce, Cond.instanceMethod yX1_shiftOnce, Cond.code yX1_shiftOnce cX1_shiftOnce 1 none, Cond.constantLong RX1 39 (256), Cond.fieldLink RX1 22 "EscapeCoder$CodeReader" "taken" "I", Cond.fieldLink RX1 9 "EscapeCoder$CodeReader" "code" "LEscapeCoder$ByteRow;", Cond.methodLink RX1 41 yX0_length, Cond.methodLink RX1 47 yX0_byteAt, Cond.selects RX2 ⟨"EscapeCoder$Interval", "shiftOnce", "()V"⟩ yX2_shiftOnce, Cond.instanceMethod yX2_shiftOnce, Cond.code yX2_shiftOnce cX2_shiftOnce 1 none, Cond.methodLink RX2 32 yX0_add, Cond.instanceMethod yX0_add, Cond.selects RX0 yX0_add yX0_add, Cond.code yX0_add cX0_add 2 (some .boolean), Cond.fieldLink RX0 9 "EscapeCoder$ByteRow" "most" "I", Cond.static yX7_grown, Cond.code yX7_grown cX7_grown 2 (some .int)]
def wsX7_encode_r10 : List Cond := [Cond.methodLink RX7 183 Lib.Math.min.name, Cond.static Lib.Math.min.name, Cond.code Lib.Math.min.name Lib.Math.min.code 2 (some .int), Cond.methodLink RX0 30 yJ7_copyOf_59c91, Cond.static yJ7_copyOf_59c91, Cond.initialized RJ7, Cond.code yJ7_copyOf_59c91 cJ7_copyOf_59c91 3 (some (.array .int)), Cond.methodLink RJ7 316 ⟨"[I", "clone", "()Ljava/lang/Object;"⟩, Cond.sameMethod "[I" "java/lang/Object" "clone" "()Ljava/lang/Object;", Cond.native ⟨"java/lang/Object", "clone", "()Ljava/lang/Object;"⟩, Cond.instanceMethod ⟨"java/lang/Object", "clone", "()Ljava/lang/Object;"⟩, Cond.selects "[I" ⟨"[I", "clone", "()Ljava/lang/Object;"⟩ ⟨"java/lang/Object", "clone", "()Ljava/lang/Object;"⟩, Cond.classLink RJ7 317 "[I", Cond.arrayClass .int, Cond.methodLink RJ7 304 Lib.Math.min.name, Cond.methodLink RJ7 150 arraycopyName, Cond.native arraycopyName, Cond.static arraycopyName, Cond.initialized "java/lang/System", Cond.selects RX2 ⟨"EscapeCoder$Interval", "narrow", "(III)V"⟩ yX3_narrow, Cond.methodLink RX6 99 yX5_add, Cond.instanceMethod yX5_add, Cond.selects RX5 yX5_add yX5_add, Cond.code yX5_add cX5_add 6 none]
def wsX7_encode_r11 : List Cond := [Cond.fieldLink RX5 11 "EscapeCoder$StepRow" "packed" "[J", Cond.methodLink RX5 26 yJ7_copyOf_c38d5, Cond.static yJ7_copyOf_c38d5, Cond.code yJ7_copyOf_c38d5 cJ7_copyOf_c38d5 3 (some (.array .long)), Cond.methodLink RJ7 319 ⟨"[J", "clone", "()Ljava/lang/Object;"⟩, Cond.sameMethod "[J" "java/lang/Object" "clone" "()Ljava/lang/Object;", Cond.selects "[J" ⟨"[J", "clone", "()Ljava/lang/Object;"⟩ ⟨"java/lang/Object", "clone", "()Ljava/lang/Object;"⟩, Cond.classLink RJ7 320 "[J", Cond.arrayClass .long, Cond.methodLink RX6 105 yX6_putLiveOut, Cond.instanceMethod yX6_putLiveOut, Cond.selects RX6 yX6_putLiveOut yX6_putLiveOut, Cond.code yX6_putLiveOut cX6_putLiveOut 3 none, Cond.methodLink RX6 60 yX6_tellPlainly, Cond.instanceMethod yX6_tellPlainly, Cond.selects RX6 yX6_tellPlainly yX6_tellPlainly, Cond.code yX6_tellPlainly cX6_tellPlainly 5 (some .int), Cond.methodLink RX6 111 yX6_plainBeginOf, Cond.instanceMethod yX6_plainBeginOf, Cond.selects RX6 yX6_plainBeginOf yX6_plainBeginOf, Cond.code yX6_plainBeginOf cX6_plainBeginOf 4 (some .int), Cond.methodLink RX6 114 yX6_plainSymbolAt, Cond.instanceMethod yX6_plainSymbolAt, Cond.selects RX6 yX6_plainSymbolAt yX6_plainSymbolAt]
def wsX7_encode_r12 : List Cond := [Cond.code yX6_plainSymbolAt cX6_plainSymbolAt 4 (some .int), Cond.methodLink RX7 100 yX6_toldOrder, Cond.instanceMethod yX6_toldOrder, Cond.selects RX6 yX6_toldOrder yX6_toldOrder, Cond.code yX6_toldOrder cX6_toldOrder 1 (some .int), Cond.methodLink RX7 103 yX4_learn, Cond.instanceMethod yX4_learn, Cond.selects RX4 yX4_learn yX4_learn, Cond.code yX4_learn cX4_learn 5 none, Cond.methodLink RX4 100 Lib.Math.max.name, Cond.static Lib.Math.max.name, Cond.code Lib.Math.max.name Lib.Math.max.code 2 (some .int), Cond.methodLink RX4 113 Lib.Math.min.name, Cond.methodLink RX4 106 yX4_keyHere, Cond.methodLink RX4 109 yX4_learnIn, Cond.instanceMethod yX4_learnIn, Cond.selects RX4 yX4_learnIn yX4_learnIn, Cond.code yX4_learnIn cX4_learnIn 5 (some .boolean), Cond.fieldLink RX4 9 "EscapeCoder$Model" "limit" "I", Cond.methodLink RX4 116 yX4_find, Cond.methodLink RX4 119 yX4_nodeOfByte, Cond.instanceMethod yX4_nodeOfByte, Cond.selects RX4 yX4_nodeOfByte yX4_nodeOfByte, Cond.code yX4_nodeOfByte cX4_nodeOfByte 5 (some .int)]
def wsX7_encode_r13 : List Cond := [Cond.methodLink RX4 88 yX4_firstNode, Cond.methodLink RX4 91 yX4_nodesIn, Cond.methodLink RX4 94 yX4_byteOf, Cond.methodLink RX4 97 yX4_nextNode, Cond.methodLink RX4 122 yX4_rescale, Cond.instanceMethod yX4_rescale, Cond.selects RX4 yX4_rescale yX4_rescale, Cond.code yX4_rescale cX4_rescale 4 none, Cond.methodLink RX4 126 yX4_addContext, Cond.instanceMethod yX4_addContext, Cond.selects RX4 yX4_addContext yX4_addContext, Cond.code yX4_addContext cX4_addContext 4 (some .int), Cond.fieldLink RX4 31 "EscapeCoder$Model" "contextLast" "[I", Cond.methodLink RX4 136 yX4_growContexts, Cond.instanceMethod yX4_growContexts, Cond.selects RX4 yX4_growContexts yX4_growContexts, Cond.code yX4_growContexts cX4_growContexts 2 none, Cond.methodLink RX4 142 yJ7_copyOf_59c91, Cond.methodLink RX4 129 yX4_addNode, Cond.instanceMethod yX4_addNode, Cond.selects RX4 yX4_addNode yX4_addNode, Cond.code yX4_addNode cX4_addNode 5 none, Cond.methodLink RX4 133 yX4_growNodes, Cond.instanceMethod yX4_growNodes]
def wsX7_encode_r14 : List Cond := [Cond.selects RX4 yX4_growNodes yX4_growNodes, Cond.code yX4_growNodes cX4_growNodes 2 none, Cond.methodLink RX7 107 yX7_noteEnd, Cond.instanceMethod yX7_noteEnd, Cond.selects RX7 yX7_noteEnd yX7_noteEnd, Cond.code yX7_noteEnd cX7_noteEnd 2 none, Cond.fieldLink RX7 73 "EscapeCoder" "latestShifts" "J", Cond.fieldLink RX7 77 "EscapeCoder" "latestRange" "J", Cond.methodLink RX7 173 ⟨"EscapeCoder$Interval", "shifts", "()I"⟩, Cond.sameMethod "EscapeCoder$Interval" "EscapeCoder$Interval" "shifts" "()I", Cond.selects RX1 ⟨"EscapeCoder$Interval", "shifts", "()I"⟩ yX3_shifts, Cond.instanceMethod yX3_shifts, Cond.code yX3_shifts cX3_shifts 1 (some .int), Cond.selects RX2 ⟨"EscapeCoder$Interval", "shifts", "()I"⟩ yX3_shifts, Cond.methodLink RX7 176 ⟨"EscapeCoder$Interval", "range", "()J"⟩, Cond.sameMethod "EscapeCoder$Interval" "EscapeCoder$Interval" "range" "()J", Cond.selects RX1 ⟨"EscapeCoder$Interval", "range", "()J"⟩ yX3_range, Cond.instanceMethod yX3_range, Cond.code yX3_range cX3_range 1 (some .long), Cond.selects RX2 ⟨"EscapeCoder$Interval", "range", "()J"⟩ yX3_range, Cond.methodLink RX7 111 yX2_finish, Cond.instanceMethod yX2_finish, Cond.selects RX2 yX2_finish yX2_finish, Cond.code yX2_finish cX2_finish 2 (some .boolean)]
def wsX7_encode_r15 : List Cond := [Cond.constantLong RX2 40 (255), Cond.methodLink RX2 36 ⟨"EscapeCoder$CodeWriter", "shifts", "()I"⟩, Cond.sameMethod "EscapeCoder$CodeWriter" "EscapeCoder$Interval" "shifts" "()I", Cond.selects RX2 ⟨"EscapeCoder$CodeWriter", "shifts", "()I"⟩ yX3_shifts]
def wsX7_encode : List Cond := .code yX7_encode cX7_encode 3 (some .int) :: ((wsX7_encode_r1 ++ (wsX7_encode_r2 ++ (wsX7_encode_r3 ++ (wsX7_encode_r4 ++ (wsX7_encode_r5 ++ (wsX7_encode_r6 ++ (wsX7_encode_r7 ++ (wsX7_encode_r8 ++ (wsX7_encode_r9 ++ (wsX7_encode_r10 ++ (wsX7_encode_r11 ++ (wsX7_encode_r12 ++ (wsX7_encode_r13 ++ (wsX7_encode_r14 ++ wsX7_encode_r15)))))))))))))) ++ wsX70 ++ wsX50 ++ wsX40 ++ wsX20 ++ wsX10 ++ wsX00 ++ wsX60)
def wsX7_readUpToEnd_r1 : List Cond := [Cond.fieldLink RX7 43 "EscapeCoder" "teller" "LEscapeCoder$Teller;", Cond.fieldLink RX7 59 "EscapeCoder" "reader" "LEscapeCoder$CodeReader;", Cond.fieldLink RX7 21 "EscapeCoder" "output" "LEscapeCoder$ByteRow;", Cond.fieldLink RX7 34 "EscapeCoder" "model" "LEscapeCoder$Model;", Cond.methodLink RX7 96 yX6_tell, Cond.instanceMethod yX6_tell, Cond.selects RX6 yX6_tell yX6_tell, Cond.initialized RX6, Cond.code yX6_tell cX6_tell 5 (some .int), Cond.fieldLink RX6 30 "EscapeCoder$Teller" "turn" "I", Cond.fieldLink RX6 33 "EscapeCoder$Teller" "outs" "I", Cond.fieldLink RX6 9 "EscapeCoder$Teller" "model" "LEscapeCoder$Model;", Cond.fieldLink RX6 53 "EscapeCoder$Teller" "lives" "I", Cond.fieldLink RX6 26 "EscapeCoder$Teller" "toldOrder" "I", Cond.methodLink RX6 36 yX4_topOrder, Cond.instanceMethod yX4_topOrder, Cond.selects RX4 yX4_topOrder yX4_topOrder, Cond.initialized RX4, Cond.code yX4_topOrder cX4_topOrder 1 (some .int), Cond.fieldLink RX4 52 "EscapeCoder$Model" "topOrder" "I", Cond.methodLink RX6 42 yX4_keyHere, Cond.instanceMethod yX4_keyHere, Cond.selects RX4 yX4_keyHere yX4_keyHere, Cond.code yX4_keyHere cX4_keyHere 2 (some .int)]
def wsX7_readUpToEnd_r2 : List Cond := [Cond.fieldLink RX4 67 "EscapeCoder$Model" "before" "I", Cond.fieldLink RX4 70 "EscapeCoder$Model" "earlier" "I", Cond.static yX7_keyOf, Cond.initialized RX7, Cond.code yX7_keyOf cX7_keyOf 3 (some .int), Cond.methodLink RX7 180 yX7_isByte, Cond.static yX7_isByte, Cond.code yX7_isByte cX7_isByte 1 (some .boolean), Cond.methodLink RX6 46 yX4_find, Cond.instanceMethod yX4_find, Cond.selects RX4 yX4_find yX4_find, Cond.code yX4_find cX4_find 4 (some .int), Cond.fieldLink RX4 40 "EscapeCoder$Model" "bucketNewest" "[I", Cond.fieldLink RX4 64 "EscapeCoder$Model" "contexts" "I", Cond.fieldLink RX4 25 "EscapeCoder$Model" "contextKey" "[I", Cond.fieldLink RX4 37 "EscapeCoder$Model" "contextOlder" "[I", Cond.methodLink RX4 77 yX4_bucketOf, Cond.static yX4_bucketOf, Cond.code yX4_bucketOf cX4_bucketOf 1 (some .int), Cond.methodLink RX4 81 yX4_isContext, Cond.instanceMethod yX4_isContext, Cond.selects RX4 yX4_isContext yX4_isContext, Cond.code yX4_isContext cX4_isContext 2 (some .boolean), Cond.methodLink RX6 49 yX6_gather]
def wsX7_readUpToEnd_r3 : List Cond := [Cond.instanceMethod yX6_gather, Cond.selects RX6 yX6_gather yX6_gather, Cond.code yX6_gather cX6_gather 4 none, Cond.fieldLink RX6 64 "EscapeCoder$Teller" "liveTotal" "I", Cond.fieldLink RX6 23 "EscapeCoder$Teller" "live" "[I", Cond.methodLink RX6 67 yX4_firstNode, Cond.instanceMethod yX4_firstNode, Cond.selects RX4 yX4_firstNode yX4_firstNode, Cond.code yX4_firstNode cX4_firstNode 2 (some .int), Cond.fieldLink RX4 28 "EscapeCoder$Model" "contextFirst" "[I", Cond.methodLink RX6 70 yX4_nodesIn, Cond.instanceMethod yX4_nodesIn, Cond.selects RX4 yX4_nodesIn yX4_nodesIn, Cond.code yX4_nodesIn cX4_nodesIn 2 (some .int), Cond.fieldLink RX4 34 "EscapeCoder$Model" "contextNodes" "[I", Cond.methodLink RX6 73 yX4_byteOf, Cond.instanceMethod yX4_byteOf, Cond.selects RX4 yX4_byteOf yX4_byteOf, Cond.code yX4_byteOf cX4_byteOf 2 (some .int), Cond.fieldLink RX4 15 "EscapeCoder$Model" "nodeByte" "[I", Cond.methodLink RX4 85 yX4_isNode, Cond.instanceMethod yX4_isNode, Cond.selects RX4 yX4_isNode yX4_isNode, Cond.code yX4_isNode cX4_isNode 2 (some .boolean)]
def wsX7_readUpToEnd_r4 : List Cond := [Cond.fieldLink RX4 61 "EscapeCoder$Model" "nodes" "I", Cond.methodLink RX6 76 yX6_isOut, Cond.instanceMethod yX6_isOut, Cond.selects RX6 yX6_isOut yX6_isOut, Cond.code yX6_isOut cX6_isOut 2 (some .boolean), Cond.fieldLink RX6 19 "EscapeCoder$Teller" "outSince" "[I", Cond.methodLink RX6 80 yX4_countOf, Cond.instanceMethod yX4_countOf, Cond.selects RX4 yX4_countOf yX4_countOf, Cond.code yX4_countOf cX4_countOf 2 (some .int), Cond.fieldLink RX4 19 "EscapeCoder$Model" "nodeCount" "[I", Cond.methodLink RX6 83 yX4_nextNode, Cond.instanceMethod yX4_nextNode, Cond.selects RX4 yX4_nextNode yX4_nextNode, Cond.code yX4_nextNode cX4_nextNode 2 (some .int), Cond.fieldLink RX4 22 "EscapeCoder$Model" "nodeNext" "[I", Cond.methodLink RX6 56 yX6_tellAmongLive, Cond.instanceMethod yX6_tellAmongLive, Cond.selects RX6 yX6_tellAmongLive yX6_tellAmongLive, Cond.code yX6_tellAmongLive cX6_tellAmongLive 9 (some .int), Cond.fieldLink RX6 15 "EscapeCoder$Teller" "steps" "LEscapeCoder$StepRow;", Cond.methodLink RX6 86 yX6_liveBeginOf, Cond.instanceMethod yX6_liveBeginOf, Cond.selects RX6 yX6_liveBeginOf yX6_liveBeginOf]
def wsX7_readUpToEnd_r5 : List Cond := [Cond.code yX6_liveBeginOf cX6_liveBeginOf 4 (some .int), Cond.methodLink RX6 89 ⟨"EscapeCoder$Interval", "placeIn", "(II)I"⟩, Cond.sameMethod "EscapeCoder$Interval" "EscapeCoder$Interval" "placeIn" "(II)I", Cond.selects RX1 ⟨"EscapeCoder$Interval", "placeIn", "(II)I"⟩ yX1_placeIn, Cond.instanceMethod yX1_placeIn, Cond.initialized RX1, Cond.code yX1_placeIn cX1_placeIn 5 (some .int), Cond.fieldLink RX1 18 "EscapeCoder$CodeReader" "ahead" "J", Cond.methodLink RX1 33 Lib.MathLoose.min_long.x, Cond.static Lib.MathLoose.min_long.x, Cond.initialized "java/lang/Math", Cond.code Lib.MathLoose.min_long.x Lib.MathLoose.min_long.code 4 (some .long), Cond.methodLink RX1 29 ⟨"EscapeCoder$CodeReader", "unitOf", "(I)J"⟩, Cond.sameMethod "EscapeCoder$CodeReader" "EscapeCoder$Interval" "unitOf" "(I)J", Cond.selects RX1 ⟨"EscapeCoder$CodeReader", "unitOf", "(I)J"⟩ yX3_unitOf, Cond.instanceMethod yX3_unitOf, Cond.initialized RX3, Cond.code yX3_unitOf cX3_unitOf 2 (some .long), Cond.fieldLink RX3 7 "EscapeCoder$Interval" "range" "J", Cond.selects RX2 ⟨"EscapeCoder$Interval", "placeIn", "(II)I"⟩ yX2_placeIn, Cond.instanceMethod yX2_placeIn, Cond.initialized RX2, Cond.code yX2_placeIn cX2_placeIn 3 (some .int), Cond.methodLink RX6 95 ⟨"EscapeCoder$Interval", "narrow", "(III)V"⟩]
def wsX7_readUpToEnd_r6 : List Cond := [Cond.sameMethod "EscapeCoder$Interval" "EscapeCoder$Interval" "narrow" "(III)V", Cond.selects RX1 ⟨"EscapeCoder$Interval", "narrow", "(III)V"⟩ yX3_narrow, Cond.instanceMethod yX3_narrow, Cond.code yX3_narrow cX3_narrow 7 none, Cond.constantLong RX3 27 (16777216), Cond.constantLong RX3 32 (256), Cond.fieldLink RX3 13 "EscapeCoder$Interval" "shifts" "I", Cond.methodLink RX3 19 ⟨"EscapeCoder$Interval", "unitOf", "(I)J"⟩, Cond.sameMethod "EscapeCoder$Interval" "EscapeCoder$Interval" "unitOf" "(I)J", Cond.selects RX1 ⟨"EscapeCoder$Interval", "unitOf", "(I)J"⟩ yX3_unitOf, Cond.selects RX2 ⟨"EscapeCoder$Interval", "unitOf", "(I)J"⟩ yX3_unitOf, Cond.methodLink RX3 23 ⟨"EscapeCoder$Interval", "raiseLow", "(J)V"⟩, Cond.sameMethod "EscapeCoder$Interval" "EscapeCoder$Interval" "raiseLow" "(J)V", Cond.selects RX1 ⟨"EscapeCoder$Interval", "raiseLow", "(J)V"⟩ yX1_raiseLow, Cond.instanceMethod yX1_raiseLow, Cond.code yX1_raiseLow cX1_raiseLow 3 none, Cond.selects RX2 ⟨"EscapeCoder$Interval", "raiseLow", "(J)V"⟩ yX2_raiseLow, Cond.instanceMethod yX2_raiseLow, Cond.code yX2_raiseLow cX2_raiseLow 3 none, Cond.fieldLink RX2 23 "EscapeCoder$CodeWriter" "low" "J", Cond.constantLong RX2 27 (4294967295), Cond.methodLink RX2 29 yX2_carry, Cond.instanceMethod yX2_carry, Cond.selects RX2 yX2_carry yX2_carry]
def wsX7_readUpToEnd_r7 : List Cond := [Cond.code yX2_carry cX2_carry 3 none, Cond.fieldLink RX2 9 "EscapeCoder$CodeWriter" "code" "LEscapeCoder$ByteRow;", Cond.methodLink RX2 42 yX0_length, Cond.instanceMethod yX0_length, Cond.selects RX0 yX0_length yX0_length, Cond.initialized RX0, Cond.code yX0_length cX0_length 1 (some .int), Cond.fieldLink RX0 19 "EscapeCoder$ByteRow" "length" "I", Cond.methodLink RX2 45 yX0_byteAt, Cond.instanceMethod yX0_byteAt, Cond.selects RX0 yX0_byteAt yX0_byteAt, Cond.code yX0_byteAt cX0_byteAt 2 (some .int), Cond.fieldLink RX0 15 "EscapeCoder$ByteRow" "bytes" "[I", Cond.methodLink RX2 49 yX0_put, Cond.instanceMethod yX0_put, Cond.selects RX0 yX0_put yX0_put, Cond.code yX0_put cX0_put 3 (some .boolean), Cond.methodLink RX3 29 ⟨"EscapeCoder$Interval", "shiftOnce", "()V"⟩, Cond.sameMethod "EscapeCoder$Interval" "EscapeCoder$Interval" "shiftOnce" "()V", Cond.selects RX1 ⟨"EscapeCoder$Interval", "shiftOnce", "()V"⟩ yX1_shiftOnce, Cond.instanceMethod yX1_shiftOnce, Cond.code yX1_shiftOnce cX1_shiftOnce 1 none, Cond.constantLong RX1 39 (256), Cond.fieldLink RX1 22 "EscapeCoder$CodeReader" "taken" "I"]
def wsX7_readUpToEnd_r8 : List Cond := [Cond.fieldLink RX1 9 "EscapeCoder$CodeReader" "code" "LEscapeCoder$ByteRow;", Cond.methodLink RX1 41 yX0_length, Cond.methodLink RX1 47 yX0_byteAt, Cond.selects RX2 ⟨"EscapeCoder$Interval", "shiftOnce", "()V"⟩ yX2_shiftOnce, Cond.instanceMethod yX2_shiftOnce, Cond.code yX2_shiftOnce cX2_shiftOnce 1 none, Cond.methodLink RX2 32 yX0_add, Cond.instanceMethod yX0_add, Cond.selects RX0 yX0_add yX0_add, Cond.code yX0_add cX0_add 2 (some .boolean), Cond.fieldLink RX0 9 "EscapeCoder$ByteRow" "most" "I", Cond.static yX7_grown, Cond.code yX7_grown cX7_grown 2 (some .int), Cond.methodLink RX7 183 Lib.Math.min.name, Cond.static Lib.Math.min.name, Cond.code Lib.Math.min.name Lib.Math.min.code 2 (some .int), Cond.methodLink RX0 30 yJ7_copyOf_59c91, Cond.static yJ7_copyOf_59c91, Cond.initialized RJ7, Cond.code yJ7_copyOf_59c91 cJ7_copyOf_59c91 3 (some (.array .int)), Cond.methodLink RJ7 316 ⟨"[I", "clone", "()Ljava/lang/Object;"⟩, Cond.sameMethod "[I" "java/lang/Object" "clone" "()Ljava/lang/Object;", Cond.native ⟨"java/lang/Object", "clone", "()Ljava/lang/Object;"⟩, Cond.instanceMethod ⟨"java/lang/Object", "clone", "()Ljava/lang/Object;"⟩]
def wsX7_readUpToEnd_r9 : List Cond := [Cond.selects "[I" ⟨"[I", "clone", "()Ljava/lang/Object;"⟩ ⟨"java/lang/Object", "clone", "()Ljava/lang/Object;"⟩, Cond.classLink RJ7 317 "[I", Cond.arrayClass .int, Cond.methodLink RJ7 304 Lib.Math.min.name, Cond.methodLink RJ7 150 arraycopyName, Cond.native arraycopyName, Cond.static arraycopyName, Cond.initialized "java/lang/System", Cond.selects RX2 ⟨"EscapeCoder$Interval", "narrow", "(III)V"⟩ yX3_narrow, Cond.methodLink RX6 99 yX5_add, Cond.instanceMethod yX5_add, Cond.selects RX5 yX5_add yX5_add, Cond.initialized RX5, Cond.code yX5_add cX5_add 6 none, Cond.fieldLink RX5 15 "EscapeCoder$StepRow" "made" "I", Cond.fieldLink RX5 11 "EscapeCoder$StepRow" "packed" "[J", Cond.fieldLink RX5 19 "EscapeCoder$StepRow" "escapes" "I", Cond.methodLink RX5 26 yJ7_copyOf_c38d5, Cond.static yJ7_copyOf_c38d5, Cond.code yJ7_copyOf_c38d5 cJ7_copyOf_c38d5 3 (some (.array .long)), Cond.methodLink RJ7 319 ⟨"[J", "clone", "()Ljava/lang/Object;"⟩, Cond.sameMethod "[J" "java/lang/Object" "clone" "()Ljava/lang/Object;", Cond.selects "[J" ⟨"[J", "clone", "()Ljava/lang/Object;"⟩ ⟨"java/lang/Object", "clone", "()Ljava/lang/Object;"⟩, Cond.classLink RJ7 320 "[J"]
def wsX7_readUpToEnd_r10 : List Cond := [Cond.arrayClass .long, Cond.methodLink RX6 105 yX6_putLiveOut, Cond.instanceMethod yX6_putLiveOut, Cond.selects RX6 yX6_putLiveOut yX6_putLiveOut, Cond.code yX6_putLiveOut cX6_putLiveOut 3 none, Cond.methodLink RX6 60 yX6_tellPlainly, Cond.instanceMethod yX6_tellPlainly, Cond.selects RX6 yX6_tellPlainly yX6_tellPlainly, Cond.code yX6_tellPlainly cX6_tellPlainly 5 (some .int), Cond.methodLink RX6 111 yX6_plainBeginOf, Cond.instanceMethod yX6_plainBeginOf, Cond.selects RX6 yX6_plainBeginOf yX6_plainBeginOf, Cond.code yX6_plainBeginOf cX6_plainBeginOf 4 (some .int), Cond.methodLink RX6 114 yX6_plainSymbolAt, Cond.instanceMethod yX6_plainSymbolAt, Cond.selects RX6 yX6_plainSymbolAt yX6_plainSymbolAt, Cond.code yX6_plainSymbolAt cX6_plainSymbolAt 4 (some .int), Cond.methodLink RX7 80 yX0_add, Cond.methodLink RX7 100 yX6_toldOrder, Cond.instanceMethod yX6_toldOrder, Cond.selects RX6 yX6_toldOrder yX6_toldOrder, Cond.code yX6_toldOrder cX6_toldOrder 1 (some .int), Cond.methodLink RX7 103 yX4_learn, Cond.instanceMethod yX4_learn]
def wsX7_readUpToEnd_r11 : List Cond := [Cond.selects RX4 yX4_learn yX4_learn, Cond.code yX4_learn cX4_learn 5 none, Cond.methodLink RX4 100 Lib.Math.max.name, Cond.static Lib.Math.max.name, Cond.code Lib.Math.max.name Lib.Math.max.code 2 (some .int), Cond.methodLink RX4 113 Lib.Math.min.name, Cond.methodLink RX4 106 yX4_keyHere, Cond.methodLink RX4 109 yX4_learnIn, Cond.instanceMethod yX4_learnIn, Cond.selects RX4 yX4_learnIn yX4_learnIn, Cond.code yX4_learnIn cX4_learnIn 5 (some .boolean), Cond.fieldLink RX4 9 "EscapeCoder$Model" "limit" "I", Cond.fieldLink RX4 58 "EscapeCoder$Model" "resets" "I", Cond.methodLink RX4 116 yX4_find, Cond.methodLink RX4 119 yX4_nodeOfByte, Cond.instanceMethod yX4_nodeOfByte, Cond.selects RX4 yX4_nodeOfByte yX4_nodeOfByte, Cond.code yX4_nodeOfByte cX4_nodeOfByte 5 (some .int), Cond.methodLink RX4 88 yX4_firstNode, Cond.methodLink RX4 91 yX4_nodesIn, Cond.methodLink RX4 94 yX4_byteOf, Cond.methodLink RX4 97 yX4_nextNode, Cond.methodLink RX4 122 yX4_rescale, Cond.instanceMethod yX4_rescale]
def wsX7_readUpToEnd_r12 : List Cond := [Cond.selects RX4 yX4_rescale yX4_rescale, Cond.code yX4_rescale cX4_rescale 4 none, Cond.fieldLink RX4 55 "EscapeCoder$Model" "rescalings" "I", Cond.methodLink RX4 49 yX4_dropAll, Cond.instanceMethod yX4_dropAll, Cond.selects RX4 yX4_dropAll yX4_dropAll, Cond.code yX4_dropAll cX4_dropAll 2 none, Cond.methodLink RX4 126 yX4_addContext, Cond.instanceMethod yX4_addContext, Cond.selects RX4 yX4_addContext yX4_addContext, Cond.code yX4_addContext cX4_addContext 4 (some .int), Cond.fieldLink RX4 31 "EscapeCoder$Model" "contextLast" "[I", Cond.methodLink RX4 136 yX4_growContexts, Cond.instanceMethod yX4_growContexts, Cond.selects RX4 yX4_growContexts yX4_growContexts, Cond.code yX4_growContexts cX4_growContexts 2 none, Cond.methodLink RX4 142 yJ7_copyOf_59c91, Cond.methodLink RX4 129 yX4_addNode, Cond.instanceMethod yX4_addNode, Cond.selects RX4 yX4_addNode yX4_addNode, Cond.code yX4_addNode cX4_addNode 5 none, Cond.methodLink RX4 133 yX4_growNodes, Cond.instanceMethod yX4_growNodes, Cond.selects RX4 yX4_growNodes yX4_growNodes]
def wsX7_readUpToEnd_r13 : List Cond := [Cond.code yX4_growNodes cX4_growNodes 2 none]
def wsX7_readUpToEnd : List Cond := .code yX7_readUpToEnd cX7_readUpToEnd 3 (some .boolean) :: ((wsX7_readUpToEnd_r1 ++ (wsX7_readUpToEnd_r2 ++ (wsX7_readUpToEnd_r3 ++ (wsX7_readUpToEnd_r4 ++ (wsX7_readUpToEnd_r5 ++ (wsX7_readUpToEnd_r6 ++ (wsX7_readUpToEnd_r7 ++ (wsX7_readUpToEnd_r8 ++ (wsX7_readUpToEnd_r9 ++ (wsX7_readUpToEnd_r10 ++ (wsX7_readUpToEnd_r11 ++ (wsX7_readUpToEnd_r12 ++ wsX7_readUpToEnd_r13)))))))))))) ++ wsX70 ++ wsX60 ++ wsX40 ++ wsX10 ++ wsX20 ++ wsX00 ++ wsX50)
def wsX7_decode_r1 : List Cond := [Cond.fieldLink RX7 27 "EscapeCoder" "steps" "LEscapeCoder$StepRow;", Cond.fieldLink RX7 34 "EscapeCoder" "model" "LEscapeCoder$Model;", Cond.fieldLink RX7 59 "EscapeCoder" "reader" "LEscapeCoder$CodeReader;", Cond.fieldLink RX7 21 "EscapeCoder" "output" "LEscapeCoder$ByteRow;", Cond.fieldLink RX7 18 "EscapeCoder" "code" "LEscapeCoder$ByteRow;", Cond.methodLink RX7 66 yX5_clear, Cond.instanceMethod yX5_clear, Cond.selects RX5 yX5_clear yX5_clear, Cond.initialized RX5, Cond.code yX5_clear cX5_clear 1 none, Cond.fieldLink RX5 15 "EscapeCoder$StepRow" "made" "I", Cond.fieldLink RX5 19 "EscapeCoder$StepRow" "escapes" "I", Cond.methodLink RX7 67 yX4_restart, Cond.instanceMethod yX4_restart, Cond.selects RX4 yX4_restart yX4_restart, Cond.initialized RX4, Cond.code yX4_restart cX4_restart 1 none, Cond.fieldLink RX4 52 "EscapeCoder$Model" "topOrder" "I", Cond.fieldLink RX4 55 "EscapeCoder$Model" "rescalings" "I", Cond.fieldLink RX4 58 "EscapeCoder$Model" "resets" "I", Cond.methodLink RX4 49 yX4_dropAll, Cond.instanceMethod yX4_dropAll, Cond.selects RX4 yX4_dropAll yX4_dropAll, Cond.code yX4_dropAll cX4_dropAll 2 none]
def wsX7_decode_r2 : List Cond := [Cond.fieldLink RX4 64 "EscapeCoder$Model" "contexts" "I", Cond.fieldLink RX4 40 "EscapeCoder$Model" "bucketNewest" "[I", Cond.fieldLink RX4 25 "EscapeCoder$Model" "contextKey" "[I", Cond.fieldLink RX4 61 "EscapeCoder$Model" "nodes" "I", Cond.methodLink RX4 77 yX4_bucketOf, Cond.static yX4_bucketOf, Cond.code yX4_bucketOf cX4_bucketOf 1 (some .int), Cond.methodLink RX7 115 yX1_restart, Cond.instanceMethod yX1_restart, Cond.selects RX1 yX1_restart yX1_restart, Cond.initialized RX1, Cond.code yX1_restart cX1_restart 2 none, Cond.fieldLink RX1 18 "EscapeCoder$CodeReader" "ahead" "J", Cond.fieldLink RX1 22 "EscapeCoder$CodeReader" "taken" "I", Cond.methodLink RX1 15 ⟨"EscapeCoder$CodeReader", "widen", "()V"⟩, Cond.sameMethod "EscapeCoder$CodeReader" "EscapeCoder$Interval" "widen" "()V", Cond.selects RX1 ⟨"EscapeCoder$CodeReader", "widen", "()V"⟩ yX3_widen, Cond.instanceMethod yX3_widen, Cond.initialized RX3, Cond.code yX3_widen cX3_widen 1 none, Cond.constantLong RX3 17 (4294967295), Cond.fieldLink RX3 7 "EscapeCoder$Interval" "range" "J", Cond.fieldLink RX3 13 "EscapeCoder$Interval" "shifts" "I", Cond.methodLink RX1 26 yX1_shiftOnce]
def wsX7_decode_r3 : List Cond := [Cond.instanceMethod yX1_shiftOnce, Cond.selects RX1 yX1_shiftOnce yX1_shiftOnce, Cond.code yX1_shiftOnce cX1_shiftOnce 1 none, Cond.constantLong RX1 39 (256), Cond.fieldLink RX1 9 "EscapeCoder$CodeReader" "code" "LEscapeCoder$ByteRow;", Cond.methodLink RX1 41 yX0_length, Cond.instanceMethod yX0_length, Cond.selects RX0 yX0_length yX0_length, Cond.initialized RX0, Cond.code yX0_length cX0_length 1 (some .int), Cond.fieldLink RX0 19 "EscapeCoder$ByteRow" "length" "I", Cond.methodLink RX1 47 yX0_byteAt, Cond.instanceMethod yX0_byteAt, Cond.selects RX0 yX0_byteAt yX0_byteAt, Cond.code yX0_byteAt cX0_byteAt 2 (some .int), Cond.fieldLink RX0 15 "EscapeCoder$ByteRow" "bytes" "[I", Cond.methodLink RX7 63 yX0_clear, Cond.instanceMethod yX0_clear, Cond.selects RX0 yX0_clear yX0_clear, Cond.code yX0_clear cX0_clear 1 none, Cond.methodLink RX7 116 yX7_readUpToEnd, Cond.instanceMethod yX7_readUpToEnd, Cond.selects RX7 yX7_readUpToEnd yX7_readUpToEnd, Cond.initialized RX7]
def wsX7_decode_r4 : List Cond := [Cond.code yX7_readUpToEnd cX7_readUpToEnd 3 (some .boolean), Cond.fieldLink RX7 43 "EscapeCoder" "teller" "LEscapeCoder$Teller;", Cond.methodLink RX7 96 yX6_tell, Cond.instanceMethod yX6_tell, Cond.selects RX6 yX6_tell yX6_tell, Cond.initialized RX6, Cond.code yX6_tell cX6_tell 5 (some .int), Cond.fieldLink RX6 30 "EscapeCoder$Teller" "turn" "I", Cond.fieldLink RX6 33 "EscapeCoder$Teller" "outs" "I", Cond.fieldLink RX6 9 "EscapeCoder$Teller" "model" "LEscapeCoder$Model;", Cond.fieldLink RX6 53 "EscapeCoder$Teller" "lives" "I", Cond.fieldLink RX6 26 "EscapeCoder$Teller" "toldOrder" "I", Cond.methodLink RX6 36 yX4_topOrder, Cond.instanceMethod yX4_topOrder, Cond.selects RX4 yX4_topOrder yX4_topOrder, Cond.code yX4_topOrder cX4_topOrder 1 (some .int), Cond.methodLink RX6 42 yX4_keyHere, Cond.instanceMethod yX4_keyHere, Cond.selects RX4 yX4_keyHere yX4_keyHere, Cond.code yX4_keyHere cX4_keyHere 2 (some .int), Cond.fieldLink RX4 67 "EscapeCoder$Model" "before" "I", Cond.fieldLink RX4 70 "EscapeCoder$Model" "earlier" "I", Cond.static yX7_keyOf, Cond.code yX7_keyOf cX7_keyOf 3 (some .int)]
def wsX7_decode_r5 : List Cond := [Cond.methodLink RX7 180 yX7_isByte, Cond.static yX7_isByte, Cond.code yX7_isByte cX7_isByte 1 (some .boolean), Cond.methodLink RX6 46 yX4_find, Cond.instanceMethod yX4_find, Cond.selects RX4 yX4_find yX4_find, Cond.code yX4_find cX4_find 4 (some .int), Cond.fieldLink RX4 37 "EscapeCoder$Model" "contextOlder" "[I", Cond.methodLink RX4 81 yX4_isContext, Cond.instanceMethod yX4_isContext, Cond.selects RX4 yX4_isContext yX4_isContext, Cond.code yX4_isContext cX4_isContext 2 (some .boolean), Cond.methodLink RX6 49 yX6_gather, Cond.instanceMethod yX6_gather, Cond.selects RX6 yX6_gather yX6_gather, Cond.code yX6_gather cX6_gather 4 none, Cond.fieldLink RX6 64 "EscapeCoder$Teller" "liveTotal" "I", Cond.fieldLink RX6 23 "EscapeCoder$Teller" "live" "[I", Cond.methodLink RX6 67 yX4_firstNode, Cond.instanceMethod yX4_firstNode, Cond.selects RX4 yX4_firstNode yX4_firstNode, Cond.code yX4_firstNode cX4_firstNode 2 (some .int), Cond.fieldLink RX4 28 "EscapeCoder$Model" "contextFirst" "[I", Cond.methodLink RX6 70 yX4_nodesIn]
def wsX7_decode_r6 : List Cond := [Cond.instanceMethod yX4_nodesIn, Cond.selects RX4 yX4_nodesIn yX4_nodesIn, Cond.code yX4_nodesIn cX4_nodesIn 2 (some .int), Cond.fieldLink RX4 34 "EscapeCoder$Model" "contextNodes" "[I", Cond.methodLink RX6 73 yX4_byteOf, Cond.instanceMethod yX4_byteOf, Cond.selects RX4 yX4_byteOf yX4_byteOf, Cond.code yX4_byteOf cX4_byteOf 2 (some .int), Cond.fieldLink RX4 15 "EscapeCoder$Model" "nodeByte" "[I", Cond.methodLink RX4 85 yX4_isNode, Cond.instanceMethod yX4_isNode, Cond.selects RX4 yX4_isNode yX4_isNode, Cond.code yX4_isNode cX4_isNode 2 (some .boolean), Cond.methodLink RX6 76 yX6_isOut, Cond.instanceMethod yX6_isOut, Cond.selects RX6 yX6_isOut yX6_isOut, Cond.code yX6_isOut cX6_isOut 2 (some .boolean), Cond.fieldLink RX6 19 "EscapeCoder$Teller" "outSince" "[I", Cond.methodLink RX6 80 yX4_countOf, Cond.instanceMethod yX4_countOf, Cond.selects RX4 yX4_countOf yX4_countOf, Cond.code yX4_countOf cX4_countOf 2 (some .int), Cond.fieldLink RX4 19 "EscapeCoder$Model" "nodeCount" "[I", Cond.methodLink RX6 83 yX4_nextNode]
def wsX7_decode_r7 : List Cond := [Cond.instanceMethod yX4_nextNode, Cond.selects RX4 yX4_nextNode yX4_nextNode, Cond.code yX4_nextNode cX4_nextNode 2 (some .int), Cond.fieldLink RX4 22 "EscapeCoder$Model" "nodeNext" "[I", Cond.methodLink RX6 56 yX6_tellAmongLive, Cond.instanceMethod yX6_tellAmongLive, Cond.selects RX6 yX6_tellAmongLive yX6_tellAmongLive, Cond.code yX6_tellAmongLive cX6_tellAmongLive 9 (some .int), Cond.fieldLink RX6 15 "EscapeCoder$Teller" "steps" "LEscapeCoder$StepRow;", Cond.methodLink RX6 86 yX6_liveBeginOf, Cond.instanceMethod yX6_liveBeginOf, Cond.selects RX6 yX6_liveBeginOf yX6_liveBeginOf, Cond.code yX6_liveBeginOf cX6_liveBeginOf 4 (some .int), Cond.methodLink RX6 89 ⟨"EscapeCoder$Interval", "placeIn", "(II)I"⟩, Cond.sameMethod "EscapeCoder$Interval" "EscapeCoder$Interval" "placeIn" "(II)I", Cond.selects RX1 ⟨"EscapeCoder$Interval", "placeIn", "(II)I"⟩ yX1_placeIn, Cond.instanceMethod yX1_placeIn, Cond.code yX1_placeIn cX1_placeIn 5 (some .int), Cond.methodLink RX1 33 Lib.MathLoose.min_long.x, Cond.static Lib.MathLoose.min_long.x, Cond.initialized "java/lang/Math", Cond.code Lib.MathLoose.min_long.x Lib.MathLoose.min_long.code 4 (some .long), Cond.methodLink RX1 29 ⟨"EscapeCoder$CodeReader", "unitOf", "(I)J"⟩, Cond.sameMethod "EscapeCoder$CodeReader" "EscapeCoder$Interval" "unitOf" "(I)J"]
def wsX7_decode_r8 : List Cond := [Cond.selects RX1 ⟨"EscapeCoder$CodeReader", "unitOf", "(I)J"⟩ yX3_unitOf, Cond.instanceMethod yX3_unitOf, Cond.code yX3_unitOf cX3_unitOf 2 (some .long), Cond.selects RX2 ⟨"EscapeCoder$Interval", "placeIn", "(II)I"⟩ yX2_placeIn, Cond.instanceMethod yX2_placeIn, Cond.initialized RX2, Cond.code yX2_placeIn cX2_placeIn 3 (some .int), Cond.methodLink RX6 95 ⟨"EscapeCoder$Interval", "narrow", "(III)V"⟩, Cond.sameMethod "EscapeCoder$Interval" "EscapeCoder$Interval" "narrow" "(III)V", Cond.selects RX1 ⟨"EscapeCoder$Interval", "narrow", "(III)V"⟩ yX3_narrow, Cond.instanceMethod yX3_narrow, Cond.code yX3_narrow cX3_narrow 7 none, Cond.constantLong RX3 27 (16777216), Cond.constantLong RX3 32 (256), Cond.methodLink RX3 19 ⟨"EscapeCoder$Interval", "unitOf", "(I)J"⟩, Cond.sameMethod "EscapeCoder$Interval" "EscapeCoder$Interval" "unitOf" "(I)J", Cond.selects RX1 ⟨"EscapeCoder$Interval", "unitOf", "(I)J"⟩ yX3_unitOf, Cond.selects RX2 ⟨"EscapeCoder$Interval", "unitOf", "(I)J"⟩ yX3_unitOf, Cond.methodLink RX3 23 ⟨"EscapeCoder$Interval", "raiseLow", "(J)V"⟩, Cond.sameMethod "EscapeCoder$Interval" "EscapeCoder$Interval" "raiseLow" "(J)V", Cond.selects RX1 ⟨"EscapeCoder$Interval", "raiseLow", "(J)V"⟩ yX1_raiseLow, Cond.instanceMethod yX1_raiseLow, Cond.code yX1_raiseLow cX1_raiseLow 3 none, Cond.selects RX2 ⟨"EscapeCoder$Interval", "raiseLow", "(J)V"⟩ yX2_raiseLow]
def wsX7_decode_r9 : List Cond := [Cond.instanceMethod yX2_raiseLow, Cond.code yX2_raiseLow cX2_raiseLow 3 none, Cond.fieldLink RX2 23 "EscapeCoder$CodeWriter" "low" "J", Cond.constantLong RX2 27 (4294967295), Cond.methodLink RX2 29 yX2_carry, Cond.instanceMethod yX2_carry, Cond.selects RX2 yX2_carry yX2_carry, Cond.code yX2_carry cX2_carry 3 none, Cond.fieldLink RX2 9 "EscapeCoder$CodeWriter" "code" "LEscapeCoder$ByteRow;", Cond.methodLink RX2 42 yX0_length, Cond.methodLink RX2 45 yX0_byteAt, Cond.methodLink RX2 49 yX0_put, Cond.instanceMethod yX0_put, Cond.selects RX0 yX0_put yX0_put, Cond.code yX0_put cX0_put 3 (some .boolean), Cond.methodLink RX3 29 ⟨"EscapeCoder$Interval", "shiftOnce", "()V"⟩, Cond.sameMethod "EscapeCoder$Interval" "EscapeCoder$Interval" "shiftOnce" "()V", Cond.selects RX1 ⟨"EscapeCoder$Interval", "shiftOnce", "()V"⟩ yX1_shiftOnce, Cond.selects RX2 ⟨"EscapeCoder$Interval", "shiftOnce", "()V"⟩ yX2_shiftOnce, Cond.instanceMethod yX2_shiftOnce, Cond.code yX2_shiftOnce cX2_shiftOnce 1 none, Cond.methodLink RX2 32 yX0_add, Cond.instanceMethod yX0_add, Cond.selects RX0 yX0_add yX0_add]
def wsX7_decode_r10 : List Cond := [Cond.code yX0_add cX0_add 2 (some .boolean), Cond.fieldLink RX0 9 "EscapeCoder$ByteRow" "most" "I", Cond.static yX7_grown, Cond.code yX7_grown cX7_grown 2 (some .int), Cond.methodLink RX7 183 Lib.Math.min.name, Cond.static Lib.Math.min.name, Cond.code Lib.Math.min.name Lib.Math.min.code 2 (some .int), Cond.methodLink RX0 30 yJ7_copyOf_59c91, Cond.static yJ7_copyOf_59c91, Cond.initialized RJ7, Cond.code yJ7_copyOf_59c91 cJ7_copyOf_59c91 3 (some (.array .int)), Cond.methodLink RJ7 316 ⟨"[I", "clone", "()Ljava/lang/Object;"⟩, Cond.sameMethod "[I" "java/lang/Object" "clone" "()Ljava/lang/Object;", Cond.native ⟨"java/lang/Object", "clone", "()Ljava/lang/Object;"⟩, Cond.instanceMethod ⟨"java/lang/Object", "clone", "()Ljava/lang/Object;"⟩, Cond.selects "[I" ⟨"[I", "clone", "()Ljava/lang/Object;"⟩ ⟨"java/lang/Object", "clone", "()Ljava/lang/Object;"⟩, Cond.classLink RJ7 317 "[I", Cond.arrayClass .int, Cond.methodLink RJ7 304 Lib.Math.min.name, Cond.methodLink RJ7 150 arraycopyName, Cond.native arraycopyName, Cond.static arraycopyName, Cond.initialized "java/lang/System", Cond.selects RX2 ⟨"EscapeCoder$Interval", "narrow", "(III)V"⟩ yX3_narrow]
def wsX7_decode_r11 : List Cond := [Cond.methodLink RX6 99 yX5_add, Cond.instanceMethod yX5_add, Cond.selects RX5 yX5_add yX5_add, Cond.code yX5_add cX5_add 6 none, Cond.fieldLink RX5 11 "EscapeCoder$StepRow" "packed" "[J", Cond.methodLink RX5 26 yJ7_copyOf_c38d5, Cond.static yJ7_copyOf_c38d5, Cond.code yJ7_copyOf_c38d5 cJ7_copyOf_c38d5 3 (some (.array .long)), Cond.methodLink RJ7 319 ⟨"[J", "clone", "()Ljava/lang/Object;"⟩, Cond.sameMethod "[J" "java/lang/Object" "clone" "()Ljava/lang/Object;", Cond.selects "[J" ⟨"[J", "clone", "()Ljava/lang/Object;"⟩ ⟨"java/lang/Object", "clone", "()Ljava/lang/Object;"⟩, Cond.classLink RJ7 320 "[J", Cond.arrayClass .long, Cond.methodLink RX6 105 yX6_putLiveOut, Cond.instanceMethod yX6_putLiveOut, Cond.selects RX6 yX6_putLiveOut yX6_putLiveOut, Cond.code yX6_putLiveOut cX6_putLiveOut 3 none, Cond.methodLink RX6 60 yX6_tellPlainly, Cond.instanceMethod yX6_tellPlainly, Cond.selects RX6 yX6_tellPlainly yX6_tellPlainly, Cond.code yX6_tellPlainly cX6_tellPlainly 5 (some .int), Cond.methodLink RX6 111 yX6_plainBeginOf, Cond.instanceMethod yX6_plainBeginOf, Cond.selects RX6 yX6_plainBeginOf yX6_plainBeginOf]
def wsX7_decode_r12 : List Cond := [Cond.code yX6_plainBeginOf cX6_plainBeginOf 4 (some .int), Cond.methodLink RX6 114 yX6_plainSymbolAt, Cond.instanceMethod yX6_plainSymbolAt, Cond.selects RX6 yX6_plainSymbolAt yX6_plainSymbolAt, Cond.code yX6_plainSymbolAt cX6_plainSymbolAt 4 (some .int), Cond.methodLink RX7 80 yX0_add, Cond.methodLink RX7 100 yX6_toldOrder, Cond.instanceMethod yX6_toldOrder, Cond.selects RX6 yX6_toldOrder yX6_toldOrder, Cond.code yX6_toldOrder cX6_toldOrder 1 (some .int), Cond.methodLink RX7 103 yX4_learn, Cond.instanceMethod yX4_learn, Cond.selects RX4 yX4_learn yX4_learn, Cond.code yX4_learn cX4_learn 5 none, Cond.methodLink RX4 100 Lib.Math.max.name, Cond.static Lib.Math.max.name, Cond.code Lib.Math.max.name Lib.Math.max.code 2 (some .int), Cond.methodLink RX4 113 Lib.Math.min.name, Cond.methodLink RX4 106 yX4_keyHere, Cond.methodLink RX4 109 yX4_learnIn, Cond.instanceMethod yX4_learnIn, Cond.selects RX4 yX4_learnIn yX4_learnIn, Cond.code yX4_learnIn cX4_learnIn 5 (some .boolean), Cond.fieldLink RX4 9 "EscapeCoder$Model" "limit" "I"]
def wsX7_decode_r13 : List Cond := [Cond.methodLink RX4 116 yX4_find, Cond.methodLink RX4 119 yX4_nodeOfByte, Cond.instanceMethod yX4_nodeOfByte, Cond.selects RX4 yX4_nodeOfByte yX4_nodeOfByte, Cond.code yX4_nodeOfByte cX4_nodeOfByte 5 (some .int), Cond.methodLink RX4 88 yX4_firstNode, Cond.methodLink RX4 91 yX4_nodesIn, Cond.methodLink RX4 94 yX4_byteOf, Cond.methodLink RX4 97 yX4_nextNode, Cond.methodLink RX4 122 yX4_rescale, Cond.instanceMethod yX4_rescale, Cond.selects RX4 yX4_rescale yX4_rescale, Cond.code yX4_rescale cX4_rescale 4 none, Cond.methodLink RX4 126 yX4_addContext, Cond.instanceMethod yX4_addContext, Cond.selects RX4 yX4_addContext yX4_addContext, Cond.code yX4_addContext cX4_addContext 4 (some .int), Cond.fieldLink RX4 31 "EscapeCoder$Model" "contextLast" "[I", Cond.methodLink RX4 136 yX4_growContexts, Cond.instanceMethod yX4_growContexts, Cond.selects RX4 yX4_growContexts yX4_growContexts, Cond.code yX4_growContexts cX4_growContexts 2 none, Cond.methodLink RX4 142 yJ7_copyOf_59c91, Cond.methodLink RX4 129 yX4_addNode]
def wsX7_decode_r14 : List Cond := [Cond.instanceMethod yX4_addNode, Cond.selects RX4 yX4_addNode yX4_addNode, Cond.code yX4_addNode cX4_addNode 5 none, Cond.methodLink RX4 133 yX4_growNodes, Cond.instanceMethod yX4_growNodes, Cond.selects RX4 yX4_growNodes yX4_growNodes, Cond.code yX4_growNodes cX4_growNodes 2 none, Cond.methodLink RX7 107 yX7_noteEnd, Cond.instanceMethod yX7_noteEnd, Cond.selects RX7 yX7_noteEnd yX7_noteEnd, Cond.code yX7_noteEnd cX7_noteEnd 2 none, Cond.fieldLink RX7 73 "EscapeCoder" "latestShifts" "J", Cond.fieldLink RX7 77 "EscapeCoder" "latestRange" "J", Cond.methodLink RX7 173 ⟨"EscapeCoder$Interval", "shifts", "()I"⟩, Cond.sameMethod "EscapeCoder$Interval" "EscapeCoder$Interval" "shifts" "()I", Cond.selects RX1 ⟨"EscapeCoder$Interval", "shifts", "()I"⟩ yX3_shifts, Cond.instanceMethod yX3_shifts, Cond.code yX3_shifts cX3_shifts 1 (some .int), Cond.selects RX2 ⟨"EscapeCoder$Interval", "shifts", "()I"⟩ yX3_shifts, Cond.methodLink RX7 176 ⟨"EscapeCoder$Interval", "range", "()J"⟩, Cond.sameMethod "EscapeCoder$Interval" "EscapeCoder$Interval" "range" "()J", Cond.selects RX1 ⟨"EscapeCoder$Interval", "range", "()J"⟩ yX3_range, Cond.instanceMethod yX3_range, Cond.code yX3_range cX3_range 1 (some .long)]
def wsX7_decode_r15 : List Cond := [Cond.selects RX2 ⟨"EscapeCoder$Interval", "range", "()J"⟩ yX3_range, Cond.methodLink RX7 88 yX0_length, Cond.methodLink RX7 119 ⟨"EscapeCoder$CodeReader", "shifts", "()I"⟩, Cond.sameMethod "EscapeCoder$CodeReader" "EscapeCoder$Interval" "shifts" "()I", Cond.selects RX1 ⟨"EscapeCoder$CodeReader", "shifts", "()I"⟩ yX3_shifts]
def wsX7_decode : List Cond := .code yX7_decode cX7_decode 3 (some .int) :: ((wsX7_decode_r1 ++ (wsX7_decode_r2 ++ (wsX7_decode_r3 ++ (wsX7_decode_r4 ++ (wsX7_decode_r5 ++ (wsX7_decode_r6 ++ (wsX7_decode_r7 ++ (wsX7_decode_r8 ++ (wsX7_decode_r9 ++ (wsX7_decode_r10 ++ (wsX7_decode_r11 ++ (wsX7_decode_r12 ++ (wsX7_decode_r13 ++ (wsX7_decode_r14 ++ wsX7_decode_r15)))))))))))))) ++ wsX70 ++ wsX50 ++ wsX40 ++ wsX10 ++ wsX20 ++ wsX00 ++ wsX60)
def wsX7_push_r1 : List Cond := [Cond.fieldLink RX7 18 "EscapeCoder" "code" "LEscapeCoder$ByteRow;", Cond.methodLink RX7 80 yX0_add, Cond.instanceMethod yX0_add, Cond.selects RX0 yX0_add yX0_add, Cond.initialized RX0, Cond.code yX0_add cX0_add 2 (some .boolean), Cond.fieldLink RX0 19 "EscapeCoder$ByteRow" "length" "I", Cond.fieldLink RX0 9 "EscapeCoder$ByteRow" "most" "I", Cond.fieldLink RX0 15 "EscapeCoder$ByteRow" "bytes" "[I", Cond.static yX7_isByte, Cond.initialized RX7, Cond.code yX7_isByte cX7_isByte 1 (some .boolean), Cond.static yX7_grown, Cond.code yX7_grown cX7_grown 2 (some .int), Cond.methodLink RX7 183 Lib.Math.min.name, Cond.static Lib.Math.min.name, Cond.initialized "java/lang/Math", Cond.code Lib.Math.min.name Lib.Math.min.code 2 (some .int), Cond.methodLink RX0 30 yJ7_copyOf_59c91, Cond.static yJ7_copyOf_59c91, Cond.initialized RJ7, Cond.code yJ7_copyOf_59c91 cJ7_copyOf_59c91 3 (some (.array .int)), Cond.methodLink RJ7 316 ⟨"[I", "clone", "()Ljava/lang/Object;"⟩, Cond.sameMethod "[I" "java/lang/Object" "clone" "()Ljava/lang/Object;"]
def wsX7_push_r2 : List Cond := [Cond.native ⟨"java/lang/Object", "clone", "()Ljava/lang/Object;"⟩, Cond.instanceMethod ⟨"java/lang/Object", "clone", "()Ljava/lang/Object;"⟩, Cond.selects "[I" ⟨"[I", "clone", "()Ljava/lang/Object;"⟩ ⟨"java/lang/Object", "clone", "()Ljava/lang/Object;"⟩, Cond.classLink RJ7 317 "[I", Cond.arrayClass .int, Cond.methodLink RJ7 304 Lib.Math.min.name, Cond.methodLink RJ7 150 arraycopyName, Cond.native arraycopyName, Cond.static arraycopyName, Cond.initialized "java/lang/System"]
def wsX7_push : List Cond := .code yX7_push cX7_push 2 (some .boolean) :: ((wsX7_push_r1 ++ wsX7_push_r2) ++ wsX70 ++ wsX00)
def wsX7_change : List Cond := .code yX7_change cX7_change 3 (some .boolean) :: ([.fieldLink RX7 18 "EscapeCoder" "code" "LEscapeCoder$ByteRow;", .methodLink RX7 122 yX0_put, .instanceMethod yX0_put, .selects RX0 yX0_put yX0_put, .initialized RX0, .code yX0_put cX0_put 3 (some .boolean), .fieldLink RX0 19 "EscapeCoder$ByteRow" "length" "I", .fieldLink RX0 15 "EscapeCoder$ByteRow" "bytes" "[I", .static yX7_isByte, .initialized RX7, .code yX7_isByte cX7_isByte 1 (some .boolean)] ++ wsX70 ++ wsX00)
def wsX7_keep : List Cond := .code yX7_keep cX7_keep 2 (some .boolean) :: ([.fieldLink RX7 18 "EscapeCoder" "code" "LEscapeCoder$ByteRow;", .methodLink RX7 84 yX0_shorten, .instanceMethod yX0_shorten, .selects RX0 yX0_shorten yX0_shorten, .initialized RX0, .code yX0_shorten cX0_shorten 2 (some .boolean), .fieldLink RX0 19 "EscapeCoder$ByteRow" "length" "I"] ++ wsX70 ++ wsX00)
def wsX7_rowOf : List Cond := .code yX7_rowOf cX7_rowOf 2 (some (.object "EscapeCoder$ByteRow")) :: ([.fieldLink RX7 14 "EscapeCoder" "text" "LEscapeCoder$ByteRow;", .fieldLink RX7 18 "EscapeCoder" "code" "LEscapeCoder$ByteRow;", .fieldLink RX7 21 "EscapeCoder" "output" "LEscapeCoder$ByteRow;"] ++ wsX70)
def wsX7_at : List Cond := .code yX7_at cX7_at 4 (some .int) :: ([.methodLink RX7 126 yX7_rowOf, .instanceMethod yX7_rowOf, .selects RX7 yX7_rowOf yX7_rowOf, .initialized RX7, .code yX7_rowOf cX7_rowOf 2 (some (.object "EscapeCoder$ByteRow")), .fieldLink RX7 14 "EscapeCoder" "text" "LEscapeCoder$ByteRow;", .fieldLink RX7 18 "EscapeCoder" "code" "LEscapeCoder$ByteRow;", .fieldLink RX7 21 "EscapeCoder" "output" "LEscapeCoder$ByteRow;", .methodLink RX7 92 yX0_byteAt, .instanceMethod yX0_byteAt, .selects RX0 yX0_byteAt yX0_byteAt, .initialized RX0, .code yX0_byteAt cX0_byteAt 2 (some .int), .fieldLink RX0 19 "EscapeCoder$ByteRow" "length" "I", .fieldLink RX0 15 "EscapeCoder$ByteRow" "bytes" "[I"] ++ wsX70 ++ wsX00)
def wsX7_size : List Cond := .code yX7_size cX7_size 3 (some .int) :: ([.methodLink RX7 126 yX7_rowOf, .instanceMethod yX7_rowOf, .selects RX7 yX7_rowOf yX7_rowOf, .initialized RX7, .code yX7_rowOf cX7_rowOf 2 (some (.object "EscapeCoder$ByteRow")), .fieldLink RX7 14 "EscapeCoder" "text" "LEscapeCoder$ByteRow;", .fieldLink RX7 18 "EscapeCoder" "code" "LEscapeCoder$ByteRow;", .fieldLink RX7 21 "EscapeCoder" "output" "LEscapeCoder$ByteRow;", .methodLink RX7 88 yX0_length, .instanceMethod yX0_length, .selects RX0 yX0_length yX0_length, .initialized RX0, .code yX0_length cX0_length 1 (some .int), .fieldLink RX0 19 "EscapeCoder$ByteRow" "length" "I"] ++ wsX70 ++ wsX00)
def wsX7_step : List Cond := .code yX7_step cX7_step 3 (some .int) :: ([.fieldLink RX7 27 "EscapeCoder" "steps" "LEscapeCoder$StepRow;", .methodLink RX7 130 yX5_answer, .instanceMethod yX5_answer, .selects RX5 yX5_answer yX5_answer, .initialized RX5, .code yX5_answer cX5_answer 5 (some .int), .fieldLink RX5 15 "EscapeCoder$StepRow" "made" "I", .fieldLink RX5 11 "EscapeCoder$StepRow" "packed" "[J", .constantLong RX5 32 (1048575), .constantLong RX5 34 (3)] ++ wsX70 ++ wsX50)
def wsX7_count_r1 : List Cond := [Cond.fieldLink RX7 27 "EscapeCoder" "steps" "LEscapeCoder$StepRow;", Cond.fieldLink RX7 73 "EscapeCoder" "latestShifts" "J", Cond.fieldLink RX7 34 "EscapeCoder" "model" "LEscapeCoder$Model;", Cond.fieldLink RX7 77 "EscapeCoder" "latestRange" "J", Cond.constantLong RX7 152 (-1), Cond.methodLink RX7 134 yX5_made, Cond.instanceMethod yX5_made, Cond.selects RX5 yX5_made yX5_made, Cond.initialized RX5, Cond.code yX5_made cX5_made 1 (some .int), Cond.fieldLink RX5 15 "EscapeCoder$StepRow" "made" "I", Cond.methodLink RX7 137 yX5_escapes, Cond.instanceMethod yX5_escapes, Cond.selects RX5 yX5_escapes yX5_escapes, Cond.code yX5_escapes cX5_escapes 1 (some .int), Cond.fieldLink RX5 19 "EscapeCoder$StepRow" "escapes" "I", Cond.methodLink RX7 140 yX4_rescalings, Cond.instanceMethod yX4_rescalings, Cond.selects RX4 yX4_rescalings yX4_rescalings, Cond.initialized RX4, Cond.code yX4_rescalings cX4_rescalings 1 (some .int), Cond.fieldLink RX4 55 "EscapeCoder$Model" "rescalings" "I", Cond.methodLink RX7 143 yX4_resets, Cond.instanceMethod yX4_resets]
def wsX7_count_r2 : List Cond := [Cond.selects RX4 yX4_resets yX4_resets, Cond.code yX4_resets cX4_resets 1 (some .int), Cond.fieldLink RX4 58 "EscapeCoder$Model" "resets" "I", Cond.methodLink RX7 146 yX4_nodes, Cond.instanceMethod yX4_nodes, Cond.selects RX4 yX4_nodes yX4_nodes, Cond.code yX4_nodes cX4_nodes 1 (some .int), Cond.fieldLink RX4 61 "EscapeCoder$Model" "nodes" "I", Cond.methodLink RX7 149 yX4_contexts, Cond.instanceMethod yX4_contexts, Cond.selects RX4 yX4_contexts yX4_contexts, Cond.code yX4_contexts cX4_contexts 1 (some .int), Cond.fieldLink RX4 64 "EscapeCoder$Model" "contexts" "I"]
def wsX7_count : List Cond := .code yX7_count cX7_count 2 (some .long) :: ((wsX7_count_r1 ++ wsX7_count_r2) ++ wsX70 ++ wsX50 ++ wsX40)
def wsX7_learnt_r1 : List Cond := [Cond.fieldLink RX7 34 "EscapeCoder" "model" "LEscapeCoder$Model;", Cond.methodLink RX7 154 yX7_keyOf, Cond.static yX7_keyOf, Cond.initialized RX7, Cond.code yX7_keyOf cX7_keyOf 3 (some .int), Cond.methodLink RX7 180 yX7_isByte, Cond.static yX7_isByte, Cond.code yX7_isByte cX7_isByte 1 (some .boolean), Cond.methodLink RX7 158 yX4_find, Cond.instanceMethod yX4_find, Cond.selects RX4 yX4_find yX4_find, Cond.initialized RX4, Cond.code yX4_find cX4_find 4 (some .int), Cond.fieldLink RX4 40 "EscapeCoder$Model" "bucketNewest" "[I", Cond.fieldLink RX4 64 "EscapeCoder$Model" "contexts" "I", Cond.fieldLink RX4 25 "EscapeCoder$Model" "contextKey" "[I", Cond.fieldLink RX4 37 "EscapeCoder$Model" "contextOlder" "[I", Cond.methodLink RX4 77 yX4_bucketOf, Cond.static yX4_bucketOf, Cond.code yX4_bucketOf cX4_bucketOf 1 (some .int), Cond.methodLink RX4 81 yX4_isContext, Cond.instanceMethod yX4_isContext, Cond.selects RX4 yX4_isContext yX4_isContext, Cond.code yX4_isContext cX4_isContext 2 (some .boolean)]
def wsX7_learnt_r2 : List Cond := [Cond.methodLink RX7 161 yX4_nodeOfByte, Cond.instanceMethod yX4_nodeOfByte, Cond.selects RX4 yX4_nodeOfByte yX4_nodeOfByte, Cond.code yX4_nodeOfByte cX4_nodeOfByte 5 (some .int), Cond.methodLink RX4 88 yX4_firstNode, Cond.instanceMethod yX4_firstNode, Cond.selects RX4 yX4_firstNode yX4_firstNode, Cond.code yX4_firstNode cX4_firstNode 2 (some .int), Cond.fieldLink RX4 28 "EscapeCoder$Model" "contextFirst" "[I", Cond.methodLink RX4 91 yX4_nodesIn, Cond.instanceMethod yX4_nodesIn, Cond.selects RX4 yX4_nodesIn yX4_nodesIn, Cond.code yX4_nodesIn cX4_nodesIn 2 (some .int), Cond.fieldLink RX4 34 "EscapeCoder$Model" "contextNodes" "[I", Cond.methodLink RX4 94 yX4_byteOf, Cond.instanceMethod yX4_byteOf, Cond.selects RX4 yX4_byteOf yX4_byteOf, Cond.code yX4_byteOf cX4_byteOf 2 (some .int), Cond.fieldLink RX4 15 "EscapeCoder$Model" "nodeByte" "[I", Cond.methodLink RX4 85 yX4_isNode, Cond.instanceMethod yX4_isNode, Cond.selects RX4 yX4_isNode yX4_isNode, Cond.code yX4_isNode cX4_isNode 2 (some .boolean), Cond.fieldLink RX4 61 "EscapeCoder$Model" "nodes" "I"]
def wsX7_learnt_r3 : List Cond := [Cond.methodLink RX4 97 yX4_nextNode, Cond.instanceMethod yX4_nextNode, Cond.selects RX4 yX4_nextNode yX4_nextNode, Cond.code yX4_nextNode cX4_nextNode 2 (some .int), Cond.fieldLink RX4 22 "EscapeCoder$Model" "nodeNext" "[I", Cond.methodLink RX7 164 yX4_countOf, Cond.instanceMethod yX4_countOf, Cond.selects RX4 yX4_countOf yX4_countOf, Cond.code yX4_countOf cX4_countOf 2 (some .int), Cond.fieldLink RX4 19 "EscapeCoder$Model" "nodeCount" "[I"]
def wsX7_learnt : List Cond := .code yX7_learnt cX7_learnt 6 (some .int) :: ((wsX7_learnt_r1 ++ (wsX7_learnt_r2 ++ wsX7_learnt_r3)) ++ wsX70 ++ wsX40)
def wsX7_node_r1 : List Cond := [Cond.fieldLink RX7 34 "EscapeCoder" "model" "LEscapeCoder$Model;", Cond.methodLink RX7 154 yX7_keyOf, Cond.static yX7_keyOf, Cond.initialized RX7, Cond.code yX7_keyOf cX7_keyOf 3 (some .int), Cond.methodLink RX7 180 yX7_isByte, Cond.static yX7_isByte, Cond.code yX7_isByte cX7_isByte 1 (some .boolean), Cond.methodLink RX7 158 yX4_find, Cond.instanceMethod yX4_find, Cond.selects RX4 yX4_find yX4_find, Cond.initialized RX4, Cond.code yX4_find cX4_find 4 (some .int), Cond.fieldLink RX4 40 "EscapeCoder$Model" "bucketNewest" "[I", Cond.fieldLink RX4 64 "EscapeCoder$Model" "contexts" "I", Cond.fieldLink RX4 25 "EscapeCoder$Model" "contextKey" "[I", Cond.fieldLink RX4 37 "EscapeCoder$Model" "contextOlder" "[I", Cond.methodLink RX4 77 yX4_bucketOf, Cond.static yX4_bucketOf, Cond.code yX4_bucketOf cX4_bucketOf 1 (some .int), Cond.methodLink RX4 81 yX4_isContext, Cond.instanceMethod yX4_isContext, Cond.selects RX4 yX4_isContext yX4_isContext, Cond.code yX4_isContext cX4_isContext 2 (some .boolean)]
def wsX7_node_r2 : List Cond := [Cond.methodLink RX7 167 yX4_nodeAt, Cond.instanceMethod yX4_nodeAt, Cond.selects RX4 yX4_nodeAt yX4_nodeAt, Cond.code yX4_nodeAt cX4_nodeAt 5 (some .int), Cond.methodLink RX4 91 yX4_nodesIn, Cond.instanceMethod yX4_nodesIn, Cond.selects RX4 yX4_nodesIn yX4_nodesIn, Cond.code yX4_nodesIn cX4_nodesIn 2 (some .int), Cond.fieldLink RX4 34 "EscapeCoder$Model" "contextNodes" "[I", Cond.methodLink RX4 88 yX4_firstNode, Cond.instanceMethod yX4_firstNode, Cond.selects RX4 yX4_firstNode yX4_firstNode, Cond.code yX4_firstNode cX4_firstNode 2 (some .int), Cond.fieldLink RX4 28 "EscapeCoder$Model" "contextFirst" "[I", Cond.methodLink RX4 97 yX4_nextNode, Cond.instanceMethod yX4_nextNode, Cond.selects RX4 yX4_nextNode yX4_nextNode, Cond.code yX4_nextNode cX4_nextNode 2 (some .int), Cond.fieldLink RX4 22 "EscapeCoder$Model" "nodeNext" "[I", Cond.methodLink RX4 85 yX4_isNode, Cond.instanceMethod yX4_isNode, Cond.selects RX4 yX4_isNode yX4_isNode, Cond.code yX4_isNode cX4_isNode 2 (some .boolean), Cond.fieldLink RX4 61 "EscapeCoder$Model" "nodes" "I"]
def wsX7_node_r3 : List Cond := [Cond.methodLink RX7 170 yX4_byteOf, Cond.instanceMethod yX4_byteOf, Cond.selects RX4 yX4_byteOf yX4_byteOf, Cond.code yX4_byteOf cX4_byteOf 2 (some .int), Cond.fieldLink RX4 15 "EscapeCoder$Model" "nodeByte" "[I"]
def wsX7_node : List Cond := .code yX7_node cX7_node 6 (some .int) :: ((wsX7_node_r1 ++ (wsX7_node_r2 ++ wsX7_node_r3)) ++ wsX70 ++ wsX40)
def wsX8_startModel : List Cond := .code yX8_startModel cX8_startModel 1 none :: ([.fieldLink RX8 70 "EscapeCoderModel" "nodes" "I", .fieldLink RX8 73 "EscapeCoderModel" "steps" "I", .fieldLink RX8 76 "EscapeCoderModel" "escapes" "I", .fieldLink RX8 79 "EscapeCoderModel" "shifts" "I", .fieldLink RX8 82 "EscapeCoderModel" "rescalings" "I", .fieldLink RX8 85 "EscapeCoderModel" "resets" "I", .fieldLink RX8 88 "EscapeCoderModel" "told" "I", .fieldLink RX8 91 "EscapeCoderModel" "before" "I", .fieldLink RX8 94 "EscapeCoderModel" "earlier" "I", .constantLong RX8 97 (4294967295), .fieldLink RX8 66 "EscapeCoderModel" "range" "J"] ++ wsX80)
def wsX8_begin : List Cond := .code yX8_begin cX8_begin 2 (some .boolean) :: ([.fieldLink RX8 19 "EscapeCoderModel" "limit" "I", .fieldLink RX8 54 "EscapeCoderModel" "textSize" "I", .fieldLink RX8 57 "EscapeCoderModel" "codeSize" "I", .fieldLink RX8 60 "EscapeCoderModel" "outputSize" "I", .fieldLink RX8 66 "EscapeCoderModel" "range" "J", .methodLink RX8 63 yX8_startModel, .instanceMethod yX8_startModel, .selects RX8 yX8_startModel yX8_startModel, .initialized RX8, .code yX8_startModel cX8_startModel 1 none, .fieldLink RX8 70 "EscapeCoderModel" "nodes" "I", .fieldLink RX8 73 "EscapeCoderModel" "steps" "I", .fieldLink RX8 76 "EscapeCoderModel" "escapes" "I", .fieldLink RX8 79 "EscapeCoderModel" "shifts" "I", .fieldLink RX8 82 "EscapeCoderModel" "rescalings" "I", .fieldLink RX8 85 "EscapeCoderModel" "resets" "I", .fieldLink RX8 88 "EscapeCoderModel" "told" "I", .fieldLink RX8 91 "EscapeCoderModel" "before" "I", .fieldLink RX8 94 "EscapeCoderModel" "earlier" "I", .constantLong RX8 97 (4294967295)] ++ wsX80)
def wsX8_init_r1 : List Cond := [Cond.methodLink RX8 1 objectInit, Cond.instanceMethod objectInit, Cond.code objectInit ⟨#[0xb1]⟩ 1 none, Cond.arrayClass .byte, Cond.fieldLink RX8 7 "EscapeCoderModel" "text" "[B", Cond.fieldLink RX8 13 "EscapeCoderModel" "code" "[B", Cond.fieldLink RX8 16 "EscapeCoderModel" "output" "[B", Cond.fieldLink RX8 19 "EscapeCoderModel" "limit" "I", Cond.arrayClass .int, Cond.fieldLink RX8 23 "EscapeCoderModel" "context" "[I", Cond.arrayClass .short, Cond.fieldLink RX8 27 "EscapeCoderModel" "symbol" "[S", Cond.fieldLink RX8 31 "EscapeCoderModel" "counts" "[S", Cond.fieldLink RX8 34 "EscapeCoderModel" "stepBegin" "[S", Cond.fieldLink RX8 37 "EscapeCoderModel" "stepPart" "[S", Cond.fieldLink RX8 40 "EscapeCoderModel" "stepWhole" "[S", Cond.fieldLink RX8 43 "EscapeCoderModel" "stepOrder" "[B", Cond.arrayClass .boolean, Cond.fieldLink RX8 46 "EscapeCoderModel" "isOut" "[Z", Cond.methodLink RX8 50 yX8_begin, Cond.instanceMethod yX8_begin, Cond.selects RX8 yX8_begin yX8_begin, Cond.initialized RX8, Cond.code yX8_begin cX8_begin 2 (some .boolean)]
def wsX8_init_r2 : List Cond := [Cond.fieldLink RX8 54 "EscapeCoderModel" "textSize" "I", Cond.fieldLink RX8 57 "EscapeCoderModel" "codeSize" "I", Cond.fieldLink RX8 60 "EscapeCoderModel" "outputSize" "I", Cond.fieldLink RX8 66 "EscapeCoderModel" "range" "J", Cond.methodLink RX8 63 yX8_startModel, Cond.instanceMethod yX8_startModel, Cond.selects RX8 yX8_startModel yX8_startModel, Cond.code yX8_startModel cX8_startModel 1 none, Cond.fieldLink RX8 70 "EscapeCoderModel" "nodes" "I", Cond.fieldLink RX8 73 "EscapeCoderModel" "steps" "I", Cond.fieldLink RX8 76 "EscapeCoderModel" "escapes" "I", Cond.fieldLink RX8 79 "EscapeCoderModel" "shifts" "I", Cond.fieldLink RX8 82 "EscapeCoderModel" "rescalings" "I", Cond.fieldLink RX8 85 "EscapeCoderModel" "resets" "I", Cond.fieldLink RX8 88 "EscapeCoderModel" "told" "I", Cond.fieldLink RX8 91 "EscapeCoderModel" "before" "I", Cond.fieldLink RX8 94 "EscapeCoderModel" "earlier" "I", Cond.constantLong RX8 97 (4294967295)]
def wsX8_init : List Cond := .code yX8_init cX8_init 1 none :: ((wsX8_init_r1 ++ wsX8_init_r2) ++ wsX80)
def wsX8_feed : List Cond := .code yX8_feed cX8_feed 2 (some .boolean) :: ([.fieldLink RX8 54 "EscapeCoderModel" "textSize" "I", .fieldLink RX8 7 "EscapeCoderModel" "text" "[B"] ++ wsX80)
def wsX8_cut : List Cond := .code yX8_cut cX8_cut 2 (some .boolean) :: ([.fieldLink RX8 54 "EscapeCoderModel" "textSize" "I"] ++ wsX80)
def wsX8_contextOf : List Cond := .code yX8_contextOf cX8_contextOf 3 (some .int) :: ([])
def wsX8_here : List Cond := .code yX8_here cX8_here 2 (some .int) :: ([.fieldLink RX8 91 "EscapeCoderModel" "before" "I", .fieldLink RX8 94 "EscapeCoderModel" "earlier" "I", .methodLink RX8 99 yX8_contextOf, .static yX8_contextOf, .initialized RX8, .code yX8_contextOf cX8_contextOf 3 (some .int)] ++ wsX80)
def wsX8_find : List Cond := .code yX8_find cX8_find 4 (some .int) :: ([.fieldLink RX8 70 "EscapeCoderModel" "nodes" "I", .fieldLink RX8 23 "EscapeCoderModel" "context" "[I", .fieldLink RX8 27 "EscapeCoderModel" "symbol" "[S"] ++ wsX80)
def wsX8_halve : List Cond := .code yX8_halve cX8_halve 3 none :: ([.fieldLink RX8 70 "EscapeCoderModel" "nodes" "I", .fieldLink RX8 23 "EscapeCoderModel" "context" "[I", .fieldLink RX8 31 "EscapeCoderModel" "counts" "[S", .fieldLink RX8 82 "EscapeCoderModel" "rescalings" "I"] ++ wsX80)
def wsX8_learn_r1 : List Cond := [Cond.fieldLink RX8 88 "EscapeCoderModel" "told" "I", Cond.fieldLink RX8 70 "EscapeCoderModel" "nodes" "I", Cond.fieldLink RX8 19 "EscapeCoderModel" "limit" "I", Cond.fieldLink RX8 85 "EscapeCoderModel" "resets" "I", Cond.fieldLink RX8 23 "EscapeCoderModel" "context" "[I", Cond.fieldLink RX8 27 "EscapeCoderModel" "symbol" "[S", Cond.fieldLink RX8 31 "EscapeCoderModel" "counts" "[S", Cond.methodLink RX8 103 yX8_here, Cond.instanceMethod yX8_here, Cond.selects RX8 yX8_here yX8_here, Cond.initialized RX8, Cond.code yX8_here cX8_here 2 (some .int), Cond.fieldLink RX8 91 "EscapeCoderModel" "before" "I", Cond.fieldLink RX8 94 "EscapeCoderModel" "earlier" "I", Cond.methodLink RX8 99 yX8_contextOf, Cond.static yX8_contextOf, Cond.code yX8_contextOf cX8_contextOf 3 (some .int), Cond.methodLink RX8 107 yX8_find, Cond.instanceMethod yX8_find, Cond.selects RX8 yX8_find yX8_find, Cond.code yX8_find cX8_find 4 (some .int), Cond.methodLink RX8 111 yX8_halve, Cond.instanceMethod yX8_halve, Cond.selects RX8 yX8_halve yX8_halve]
def wsX8_learn_r2 : List Cond := [Cond.code yX8_halve cX8_halve 3 none, Cond.fieldLink RX8 82 "EscapeCoderModel" "rescalings" "I"]
def wsX8_learn : List Cond := .code yX8_learn cX8_learn 7 none :: ((wsX8_learn_r1 ++ wsX8_learn_r2) ++ wsX80)
def wsX8_goBy : List Cond := .code yX8_goBy cX8_goBy 2 none :: ([.fieldLink RX8 91 "EscapeCoderModel" "before" "I", .fieldLink RX8 94 "EscapeCoderModel" "earlier" "I", .fieldLink RX8 88 "EscapeCoderModel" "told" "I"] ++ wsX80)
def wsX8_note : List Cond := .code yX8_note cX8_note 5 none :: ([.fieldLink RX8 73 "EscapeCoderModel" "steps" "I", .fieldLink RX8 34 "EscapeCoderModel" "stepBegin" "[S", .fieldLink RX8 37 "EscapeCoderModel" "stepPart" "[S", .fieldLink RX8 40 "EscapeCoderModel" "stepWhole" "[S", .fieldLink RX8 43 "EscapeCoderModel" "stepOrder" "[B"] ++ wsX80)
def wsX8_addLow : List Cond := .code yX8_addLow cX8_addLow 6 none :: ([.fieldLink RX8 57 "EscapeCoderModel" "codeSize" "I", .fieldLink RX8 136 "EscapeCoderModel" "isFull" "Z", .fieldLink RX8 13 "EscapeCoderModel" "code" "[B"] ++ wsX80)
def wsX8_nextByte : List Cond := .code yX8_nextByte cX8_nextByte 2 (some .int) :: ([.fieldLink RX8 139 "EscapeCoderModel" "next" "I", .fieldLink RX8 57 "EscapeCoderModel" "codeSize" "I", .fieldLink RX8 13 "EscapeCoderModel" "code" "[B"] ++ wsX80)
def wsX8_narrow : List Cond := .code yX8_narrow cX8_narrow 8 none :: ([.fieldLink RX8 66 "EscapeCoderModel" "range" "J", .fieldLink RX8 115 "EscapeCoderModel" "reads" "Z", .fieldLink RX8 119 "EscapeCoderModel" "above" "J", .constantLong RX8 126 (16777216), .constantLong RX8 128 (256), .fieldLink RX8 79 "EscapeCoderModel" "shifts" "I", .constantLong RX8 134 (35184372088832), .fieldLink RX8 57 "EscapeCoderModel" "codeSize" "I", .fieldLink RX8 13 "EscapeCoderModel" "code" "[B", .fieldLink RX8 136 "EscapeCoderModel" "isFull" "Z", .methodLink RX8 122 yX8_addLow, .instanceMethod yX8_addLow, .selects RX8 yX8_addLow yX8_addLow, .initialized RX8, .code yX8_addLow cX8_addLow 6 none, .methodLink RX8 130 yX8_nextByte, .instanceMethod yX8_nextByte, .selects RX8 yX8_nextByte yX8_nextByte, .code yX8_nextByte cX8_nextByte 2 (some .int), .fieldLink RX8 139 "EscapeCoderModel" "next" "I"] ++ wsX80)
def wsX8_placeOf : List Cond := .code yX8_placeOf cX8_placeOf 4 (some .int) :: ([.fieldLink RX8 119 "EscapeCoderModel" "above" "J", .fieldLink RX8 66 "EscapeCoderModel" "range" "J"] ++ wsX80)
def wsX8_tellIn_r1 : List Cond := [Cond.fieldLink RX8 115 "EscapeCoderModel" "reads" "Z", Cond.fieldLink RX8 70 "EscapeCoderModel" "nodes" "I", Cond.fieldLink RX8 23 "EscapeCoderModel" "context" "[I", Cond.fieldLink RX8 46 "EscapeCoderModel" "isOut" "[Z", Cond.fieldLink RX8 27 "EscapeCoderModel" "symbol" "[S", Cond.fieldLink RX8 31 "EscapeCoderModel" "counts" "[S", Cond.fieldLink RX8 73 "EscapeCoderModel" "steps" "I", Cond.fieldLink RX8 43 "EscapeCoderModel" "stepOrder" "[B", Cond.fieldLink RX8 76 "EscapeCoderModel" "escapes" "I", Cond.methodLink RX8 149 yX8_placeOf, Cond.instanceMethod yX8_placeOf, Cond.selects RX8 yX8_placeOf yX8_placeOf, Cond.initialized RX8, Cond.code yX8_placeOf cX8_placeOf 4 (some .int), Cond.fieldLink RX8 119 "EscapeCoderModel" "above" "J", Cond.fieldLink RX8 66 "EscapeCoderModel" "range" "J", Cond.methodLink RX8 152 yX8_note, Cond.instanceMethod yX8_note, Cond.selects RX8 yX8_note yX8_note, Cond.code yX8_note cX8_note 5 none, Cond.fieldLink RX8 34 "EscapeCoderModel" "stepBegin" "[S", Cond.fieldLink RX8 37 "EscapeCoderModel" "stepPart" "[S", Cond.fieldLink RX8 40 "EscapeCoderModel" "stepWhole" "[S", Cond.methodLink RX8 156 yX8_narrow]
def wsX8_tellIn_r2 : List Cond := [Cond.instanceMethod yX8_narrow, Cond.selects RX8 yX8_narrow yX8_narrow, Cond.code yX8_narrow cX8_narrow 8 none, Cond.constantLong RX8 126 (16777216), Cond.constantLong RX8 128 (256), Cond.fieldLink RX8 79 "EscapeCoderModel" "shifts" "I", Cond.constantLong RX8 134 (35184372088832), Cond.fieldLink RX8 57 "EscapeCoderModel" "codeSize" "I", Cond.fieldLink RX8 13 "EscapeCoderModel" "code" "[B", Cond.fieldLink RX8 136 "EscapeCoderModel" "isFull" "Z", Cond.methodLink RX8 122 yX8_addLow, Cond.instanceMethod yX8_addLow, Cond.selects RX8 yX8_addLow yX8_addLow, Cond.code yX8_addLow cX8_addLow 6 none, Cond.methodLink RX8 130 yX8_nextByte, Cond.instanceMethod yX8_nextByte, Cond.selects RX8 yX8_nextByte yX8_nextByte, Cond.code yX8_nextByte cX8_nextByte 2 (some .int), Cond.fieldLink RX8 139 "EscapeCoderModel" "next" "I"]
def wsX8_tellIn : List Cond := .code yX8_tellIn cX8_tellIn 13 (some .int) :: ((wsX8_tellIn_r1 ++ wsX8_tellIn_r2) ++ wsX80)
def wsX8_tell_r1 : List Cond := [Cond.fieldLink RX8 46 "EscapeCoderModel" "isOut" "[Z", Cond.fieldLink RX8 88 "EscapeCoderModel" "told" "I", Cond.fieldLink RX8 70 "EscapeCoderModel" "nodes" "I", Cond.fieldLink RX8 23 "EscapeCoderModel" "context" "[I", Cond.fieldLink RX8 27 "EscapeCoderModel" "symbol" "[S", Cond.fieldLink RX8 31 "EscapeCoderModel" "counts" "[S", Cond.fieldLink RX8 146 "EscapeCoderModel" "toldIn" "I", Cond.fieldLink RX8 115 "EscapeCoderModel" "reads" "Z", Cond.methodLink RX8 103 yX8_here, Cond.instanceMethod yX8_here, Cond.selects RX8 yX8_here yX8_here, Cond.initialized RX8, Cond.code yX8_here cX8_here 2 (some .int), Cond.fieldLink RX8 91 "EscapeCoderModel" "before" "I", Cond.fieldLink RX8 94 "EscapeCoderModel" "earlier" "I", Cond.methodLink RX8 99 yX8_contextOf, Cond.static yX8_contextOf, Cond.code yX8_contextOf cX8_contextOf 3 (some .int), Cond.methodLink RX8 142 yX8_tellIn, Cond.instanceMethod yX8_tellIn, Cond.selects RX8 yX8_tellIn yX8_tellIn, Cond.code yX8_tellIn cX8_tellIn 13 (some .int), Cond.fieldLink RX8 73 "EscapeCoderModel" "steps" "I", Cond.fieldLink RX8 43 "EscapeCoderModel" "stepOrder" "[B"]
def wsX8_tell_r2 : List Cond := [Cond.fieldLink RX8 76 "EscapeCoderModel" "escapes" "I", Cond.methodLink RX8 149 yX8_placeOf, Cond.instanceMethod yX8_placeOf, Cond.selects RX8 yX8_placeOf yX8_placeOf, Cond.code yX8_placeOf cX8_placeOf 4 (some .int), Cond.fieldLink RX8 119 "EscapeCoderModel" "above" "J", Cond.fieldLink RX8 66 "EscapeCoderModel" "range" "J", Cond.methodLink RX8 152 yX8_note, Cond.instanceMethod yX8_note, Cond.selects RX8 yX8_note yX8_note, Cond.code yX8_note cX8_note 5 none, Cond.fieldLink RX8 34 "EscapeCoderModel" "stepBegin" "[S", Cond.fieldLink RX8 37 "EscapeCoderModel" "stepPart" "[S", Cond.fieldLink RX8 40 "EscapeCoderModel" "stepWhole" "[S", Cond.methodLink RX8 156 yX8_narrow, Cond.instanceMethod yX8_narrow, Cond.selects RX8 yX8_narrow yX8_narrow, Cond.code yX8_narrow cX8_narrow 8 none, Cond.constantLong RX8 126 (16777216), Cond.constantLong RX8 128 (256), Cond.fieldLink RX8 79 "EscapeCoderModel" "shifts" "I", Cond.constantLong RX8 134 (35184372088832), Cond.fieldLink RX8 57 "EscapeCoderModel" "codeSize" "I", Cond.fieldLink RX8 13 "EscapeCoderModel" "code" "[B"]
def wsX8_tell_r3 : List Cond := [Cond.fieldLink RX8 136 "EscapeCoderModel" "isFull" "Z", Cond.methodLink RX8 122 yX8_addLow, Cond.instanceMethod yX8_addLow, Cond.selects RX8 yX8_addLow yX8_addLow, Cond.code yX8_addLow cX8_addLow 6 none, Cond.methodLink RX8 130 yX8_nextByte, Cond.instanceMethod yX8_nextByte, Cond.selects RX8 yX8_nextByte yX8_nextByte, Cond.code yX8_nextByte cX8_nextByte 2 (some .int), Cond.fieldLink RX8 139 "EscapeCoderModel" "next" "I"]
def wsX8_tell : List Cond := .code yX8_tell cX8_tell 7 (some .int) :: ((wsX8_tell_r1 ++ (wsX8_tell_r2 ++ wsX8_tell_r3)) ++ wsX80)
def wsX8_encode_r1 : List Cond := [Cond.fieldLink RX8 115 "EscapeCoderModel" "reads" "Z", Cond.fieldLink RX8 136 "EscapeCoderModel" "isFull" "Z", Cond.fieldLink RX8 57 "EscapeCoderModel" "codeSize" "I", Cond.fieldLink RX8 13 "EscapeCoderModel" "code" "[B", Cond.fieldLink RX8 54 "EscapeCoderModel" "textSize" "I", Cond.fieldLink RX8 7 "EscapeCoderModel" "text" "[B", Cond.fieldLink RX8 146 "EscapeCoderModel" "toldIn" "I", Cond.methodLink RX8 63 yX8_startModel, Cond.instanceMethod yX8_startModel, Cond.selects RX8 yX8_startModel yX8_startModel, Cond.initialized RX8, Cond.code yX8_startModel cX8_startModel 1 none, Cond.fieldLink RX8 70 "EscapeCoderModel" "nodes" "I", Cond.fieldLink RX8 73 "EscapeCoderModel" "steps" "I", Cond.fieldLink RX8 76 "EscapeCoderModel" "escapes" "I", Cond.fieldLink RX8 79 "EscapeCoderModel" "shifts" "I", Cond.fieldLink RX8 82 "EscapeCoderModel" "rescalings" "I", Cond.fieldLink RX8 85 "EscapeCoderModel" "resets" "I", Cond.fieldLink RX8 88 "EscapeCoderModel" "told" "I", Cond.fieldLink RX8 91 "EscapeCoderModel" "before" "I", Cond.fieldLink RX8 94 "EscapeCoderModel" "earlier" "I", Cond.constantLong RX8 97 (4294967295), Cond.fieldLink RX8 66 "EscapeCoderModel" "range" "J", Cond.methodLink RX8 160 yX8_tell]
def wsX8_encode_r2 : List Cond := [Cond.instanceMethod yX8_tell, Cond.selects RX8 yX8_tell yX8_tell, Cond.code yX8_tell cX8_tell 7 (some .int), Cond.fieldLink RX8 46 "EscapeCoderModel" "isOut" "[Z", Cond.fieldLink RX8 23 "EscapeCoderModel" "context" "[I", Cond.fieldLink RX8 27 "EscapeCoderModel" "symbol" "[S", Cond.fieldLink RX8 31 "EscapeCoderModel" "counts" "[S", Cond.methodLink RX8 103 yX8_here, Cond.instanceMethod yX8_here, Cond.selects RX8 yX8_here yX8_here, Cond.code yX8_here cX8_here 2 (some .int), Cond.methodLink RX8 99 yX8_contextOf, Cond.static yX8_contextOf, Cond.code yX8_contextOf cX8_contextOf 3 (some .int), Cond.methodLink RX8 142 yX8_tellIn, Cond.instanceMethod yX8_tellIn, Cond.selects RX8 yX8_tellIn yX8_tellIn, Cond.code yX8_tellIn cX8_tellIn 13 (some .int), Cond.fieldLink RX8 43 "EscapeCoderModel" "stepOrder" "[B", Cond.methodLink RX8 149 yX8_placeOf, Cond.instanceMethod yX8_placeOf, Cond.selects RX8 yX8_placeOf yX8_placeOf, Cond.code yX8_placeOf cX8_placeOf 4 (some .int), Cond.fieldLink RX8 119 "EscapeCoderModel" "above" "J"]
def wsX8_encode_r3 : List Cond := [Cond.methodLink RX8 152 yX8_note, Cond.instanceMethod yX8_note, Cond.selects RX8 yX8_note yX8_note, Cond.code yX8_note cX8_note 5 none, Cond.fieldLink RX8 34 "EscapeCoderModel" "stepBegin" "[S", Cond.fieldLink RX8 37 "EscapeCoderModel" "stepPart" "[S", Cond.fieldLink RX8 40 "EscapeCoderModel" "stepWhole" "[S", Cond.methodLink RX8 156 yX8_narrow, Cond.instanceMethod yX8_narrow, Cond.selects RX8 yX8_narrow yX8_narrow, Cond.code yX8_narrow cX8_narrow 8 none, Cond.constantLong RX8 126 (16777216), Cond.constantLong RX8 128 (256), Cond.constantLong RX8 134 (35184372088832), Cond.methodLink RX8 122 yX8_addLow, Cond.instanceMethod yX8_addLow, Cond.selects RX8 yX8_addLow yX8_addLow, Cond.code yX8_addLow cX8_addLow 6 none, Cond.methodLink RX8 130 yX8_nextByte, Cond.instanceMethod yX8_nextByte, Cond.selects RX8 yX8_nextByte yX8_nextByte, Cond.code yX8_nextByte cX8_nextByte 2 (some .int), Cond.fieldLink RX8 139 "EscapeCoderModel" "next" "I", Cond.methodLink RX8 163 yX8_learn]
def wsX8_encode_r4 : List Cond := [Cond.instanceMethod yX8_learn, Cond.selects RX8 yX8_learn yX8_learn, Cond.code yX8_learn cX8_learn 7 none, Cond.fieldLink RX8 19 "EscapeCoderModel" "limit" "I", Cond.methodLink RX8 107 yX8_find, Cond.instanceMethod yX8_find, Cond.selects RX8 yX8_find yX8_find, Cond.code yX8_find cX8_find 4 (some .int), Cond.methodLink RX8 111 yX8_halve, Cond.instanceMethod yX8_halve, Cond.selects RX8 yX8_halve yX8_halve, Cond.code yX8_halve cX8_halve 3 none, Cond.methodLink RX8 167 yX8_goBy, Cond.instanceMethod yX8_goBy, Cond.selects RX8 yX8_goBy yX8_goBy, Cond.code yX8_goBy cX8_goBy 2 none]
def wsX8_encode : List Cond := .code yX8_encode cX8_encode 3 (some .int) :: ((wsX8_encode_r1 ++ (wsX8_encode_r2 ++ (wsX8_encode_r3 ++ wsX8_encode_r4))) ++ wsX80)
def wsX8_decode_r1 : List Cond := [Cond.fieldLink RX8 115 "EscapeCoderModel" "reads" "Z", Cond.fieldLink RX8 60 "EscapeCoderModel" "outputSize" "I", Cond.fieldLink RX8 139 "EscapeCoderModel" "next" "I", Cond.fieldLink RX8 119 "EscapeCoderModel" "above" "J", Cond.constantLong RX8 128 (256), Cond.fieldLink RX8 16 "EscapeCoderModel" "output" "[B", Cond.fieldLink RX8 146 "EscapeCoderModel" "toldIn" "I", Cond.fieldLink RX8 57 "EscapeCoderModel" "codeSize" "I", Cond.fieldLink RX8 79 "EscapeCoderModel" "shifts" "I", Cond.methodLink RX8 63 yX8_startModel, Cond.instanceMethod yX8_startModel, Cond.selects RX8 yX8_startModel yX8_startModel, Cond.initialized RX8, Cond.code yX8_startModel cX8_startModel 1 none, Cond.fieldLink RX8 70 "EscapeCoderModel" "nodes" "I", Cond.fieldLink RX8 73 "EscapeCoderModel" "steps" "I", Cond.fieldLink RX8 76 "EscapeCoderModel" "escapes" "I", Cond.fieldLink RX8 82 "EscapeCoderModel" "rescalings" "I", Cond.fieldLink RX8 85 "EscapeCoderModel" "resets" "I", Cond.fieldLink RX8 88 "EscapeCoderModel" "told" "I", Cond.fieldLink RX8 91 "EscapeCoderModel" "before" "I", Cond.fieldLink RX8 94 "EscapeCoderModel" "earlier" "I", Cond.constantLong RX8 97 (4294967295), Cond.fieldLink RX8 66 "EscapeCoderModel" "range" "J"]
def wsX8_decode_r2 : List Cond := [Cond.methodLink RX8 130 yX8_nextByte, Cond.instanceMethod yX8_nextByte, Cond.selects RX8 yX8_nextByte yX8_nextByte, Cond.code yX8_nextByte cX8_nextByte 2 (some .int), Cond.fieldLink RX8 13 "EscapeCoderModel" "code" "[B", Cond.methodLink RX8 160 yX8_tell, Cond.instanceMethod yX8_tell, Cond.selects RX8 yX8_tell yX8_tell, Cond.code yX8_tell cX8_tell 7 (some .int), Cond.fieldLink RX8 46 "EscapeCoderModel" "isOut" "[Z", Cond.fieldLink RX8 23 "EscapeCoderModel" "context" "[I", Cond.fieldLink RX8 27 "EscapeCoderModel" "symbol" "[S", Cond.fieldLink RX8 31 "EscapeCoderModel" "counts" "[S", Cond.methodLink RX8 103 yX8_here, Cond.instanceMethod yX8_here, Cond.selects RX8 yX8_here yX8_here, Cond.code yX8_here cX8_here 2 (some .int), Cond.methodLink RX8 99 yX8_contextOf, Cond.static yX8_contextOf, Cond.code yX8_contextOf cX8_contextOf 3 (some .int), Cond.methodLink RX8 142 yX8_tellIn, Cond.instanceMethod yX8_tellIn, Cond.selects RX8 yX8_tellIn yX8_tellIn, Cond.code yX8_tellIn cX8_tellIn 13 (some .int)]
def wsX8_decode_r3 : List Cond := [Cond.fieldLink RX8 43 "EscapeCoderModel" "stepOrder" "[B", Cond.methodLink RX8 149 yX8_placeOf, Cond.instanceMethod yX8_placeOf, Cond.selects RX8 yX8_placeOf yX8_placeOf, Cond.code yX8_placeOf cX8_placeOf 4 (some .int), Cond.methodLink RX8 152 yX8_note, Cond.instanceMethod yX8_note, Cond.selects RX8 yX8_note yX8_note, Cond.code yX8_note cX8_note 5 none, Cond.fieldLink RX8 34 "EscapeCoderModel" "stepBegin" "[S", Cond.fieldLink RX8 37 "EscapeCoderModel" "stepPart" "[S", Cond.fieldLink RX8 40 "EscapeCoderModel" "stepWhole" "[S", Cond.methodLink RX8 156 yX8_narrow, Cond.instanceMethod yX8_narrow, Cond.selects RX8 yX8_narrow yX8_narrow, Cond.code yX8_narrow cX8_narrow 8 none, Cond.constantLong RX8 126 (16777216), Cond.constantLong RX8 134 (35184372088832), Cond.fieldLink RX8 136 "EscapeCoderModel" "isFull" "Z", Cond.methodLink RX8 122 yX8_addLow, Cond.instanceMethod yX8_addLow, Cond.selects RX8 yX8_addLow yX8_addLow, Cond.code yX8_addLow cX8_addLow 6 none, Cond.methodLink RX8 163 yX8_learn]
def wsX8_decode_r4 : List Cond := [Cond.instanceMethod yX8_learn, Cond.selects RX8 yX8_learn yX8_learn, Cond.code yX8_learn cX8_learn 7 none, Cond.fieldLink RX8 19 "EscapeCoderModel" "limit" "I", Cond.methodLink RX8 107 yX8_find, Cond.instanceMethod yX8_find, Cond.selects RX8 yX8_find yX8_find, Cond.code yX8_find cX8_find 4 (some .int), Cond.methodLink RX8 111 yX8_halve, Cond.instanceMethod yX8_halve, Cond.selects RX8 yX8_halve yX8_halve, Cond.code yX8_halve cX8_halve 3 none, Cond.methodLink RX8 167 yX8_goBy, Cond.instanceMethod yX8_goBy, Cond.selects RX8 yX8_goBy yX8_goBy, Cond.code yX8_goBy cX8_goBy 2 none]
def wsX8_decode : List Cond := .code yX8_decode cX8_decode 2 (some .int) :: ((wsX8_decode_r1 ++ (wsX8_decode_r2 ++ (wsX8_decode_r3 ++ wsX8_decode_r4))) ++ wsX80)
def wsX8_push : List Cond := .code yX8_push cX8_push 2 (some .boolean) :: ([.fieldLink RX8 57 "EscapeCoderModel" "codeSize" "I", .fieldLink RX8 13 "EscapeCoderModel" "code" "[B"] ++ wsX80)
def wsX8_change : List Cond := .code yX8_change cX8_change 3 (some .boolean) :: ([.fieldLink RX8 57 "EscapeCoderModel" "codeSize" "I", .fieldLink RX8 13 "EscapeCoderModel" "code" "[B"] ++ wsX80)
def wsX8_keep : List Cond := .code yX8_keep cX8_keep 2 (some .boolean) :: ([.fieldLink RX8 57 "EscapeCoderModel" "codeSize" "I"] ++ wsX80)
def wsX8_size : List Cond := .code yX8_size cX8_size 2 (some .int) :: ([.fieldLink RX8 54 "EscapeCoderModel" "textSize" "I", .fieldLink RX8 57 "EscapeCoderModel" "codeSize" "I", .fieldLink RX8 60 "EscapeCoderModel" "outputSize" "I"] ++ wsX80)
def wsX8_at : List Cond := .code yX8_at cX8_at 3 (some .int) :: ([.fieldLink RX8 7 "EscapeCoderModel" "text" "[B", .fieldLink RX8 13 "EscapeCoderModel" "code" "[B", .fieldLink RX8 16 "EscapeCoderModel" "output" "[B", .methodLink RX8 170 yX8_size, .instanceMethod yX8_size, .selects RX8 yX8_size yX8_size, .initialized RX8, .code yX8_size cX8_size 2 (some .int), .fieldLink RX8 54 "EscapeCoderModel" "textSize" "I", .fieldLink RX8 57 "EscapeCoderModel" "codeSize" "I", .fieldLink RX8 60 "EscapeCoderModel" "outputSize" "I"] ++ wsX80)
def wsX8_step : List Cond := .code yX8_step cX8_step 4 (some .int) :: ([.fieldLink RX8 73 "EscapeCoderModel" "steps" "I", .fieldLink RX8 43 "EscapeCoderModel" "stepOrder" "[B", .fieldLink RX8 34 "EscapeCoderModel" "stepBegin" "[S", .constant RX8 173 (65535), .fieldLink RX8 37 "EscapeCoderModel" "stepPart" "[S", .fieldLink RX8 40 "EscapeCoderModel" "stepWhole" "[S"] ++ wsX80)
def wsX8_count : List Cond := .code yX8_count cX8_count 6 (some .long) :: ([.fieldLink RX8 73 "EscapeCoderModel" "steps" "I", .fieldLink RX8 76 "EscapeCoderModel" "escapes" "I", .fieldLink RX8 79 "EscapeCoderModel" "shifts" "I", .fieldLink RX8 82 "EscapeCoderModel" "rescalings" "I", .fieldLink RX8 85 "EscapeCoderModel" "resets" "I", .fieldLink RX8 70 "EscapeCoderModel" "nodes" "I", .fieldLink RX8 66 "EscapeCoderModel" "range" "J", .fieldLink RX8 23 "EscapeCoderModel" "context" "[I", .constantLong RX8 174 (-1)] ++ wsX80)
def wsX8_isByte : List Cond := .code yX8_isByte cX8_isByte 1 (some .boolean) :: ([])
def wsX8_isContext : List Cond := .code yX8_isContext cX8_isContext 3 (some .boolean) :: ([.methodLink RX8 176 yX8_isByte, .static yX8_isByte, .initialized RX8, .code yX8_isByte cX8_isByte 1 (some .boolean)])
def wsX8_learnt : List Cond := .code yX8_learnt cX8_learnt 6 (some .int) :: ([.fieldLink RX8 31 "EscapeCoderModel" "counts" "[S", .methodLink RX8 179 yX8_isContext, .static yX8_isContext, .initialized RX8, .code yX8_isContext cX8_isContext 3 (some .boolean), .methodLink RX8 176 yX8_isByte, .static yX8_isByte, .code yX8_isByte cX8_isByte 1 (some .boolean), .methodLink RX8 99 yX8_contextOf, .static yX8_contextOf, .code yX8_contextOf cX8_contextOf 3 (some .int), .methodLink RX8 107 yX8_find, .instanceMethod yX8_find, .selects RX8 yX8_find yX8_find, .code yX8_find cX8_find 4 (some .int), .fieldLink RX8 70 "EscapeCoderModel" "nodes" "I", .fieldLink RX8 23 "EscapeCoderModel" "context" "[I", .fieldLink RX8 27 "EscapeCoderModel" "symbol" "[S"] ++ wsX80)
def wsX8_node : List Cond := .code yX8_node cX8_node 8 (some .int) :: ([.fieldLink RX8 70 "EscapeCoderModel" "nodes" "I", .fieldLink RX8 23 "EscapeCoderModel" "context" "[I", .fieldLink RX8 27 "EscapeCoderModel" "symbol" "[S", .methodLink RX8 179 yX8_isContext, .static yX8_isContext, .initialized RX8, .code yX8_isContext cX8_isContext 3 (some .boolean), .methodLink RX8 176 yX8_isByte, .static yX8_isByte, .code yX8_isByte cX8_isByte 1 (some .boolean), .methodLink RX8 99 yX8_contextOf, .static yX8_contextOf, .code yX8_contextOf cX8_contextOf 3 (some .int)] ++ wsX80)
def wsJ9_max_7cf53 : List Cond := .code yJ9_max_7cf53 cJ9_max_7cf53 2 (some .int) :: ([])
def wsJ9_min_7cf53 : List Cond := .code yJ9_min_7cf53 cJ9_min_7cf53 2 (some .int) :: ([])
def wsJ9_min_f86c9 : List Cond := .code yJ9_min_f86c9 cJ9_min_f86c9 4 (some .long) :: ([])
theorem inJx8e188 : ∀ w ∈ wsJx8e1880, w ∈ lw_tbl := by decide +kernel
theorem inJ9 : ∀ w ∈ wsJ90, w ∈ lw_tbl := by decide +kernel
theorem inJ10 : ∀ w ∈ wsJ100, w ∈ lw_tbl := by decide +kernel
theorem inJ7 : ∀ w ∈ wsJ70, w ∈ lw_tbl := by decide +kernel
abbrev vwCl : List vw_C := [(RX0, TX0, 3), (RX1, TX1, 5), (RX2, TX2, 4), (RX4, TX4, 17), (RX5, TX5, 3), (RX6, TX6, 9), (RX7, TX7, 10), (RX8, TX8, 30)]
end
section
theorem dX0_init_0 : decode cX0_init 0 = .ok (.aload_n 0, 1) := by decide +kernel
theorem dX0_init_1 : decode cX0_init 1 = .ok (.invokespecial 3, 3) := by decide +kernel
theorem dX0_init_4 : decode cX0_init 4 = .ok (.aload_n 0, 1) := by decide +kernel
theorem dX0_init_5 : decode cX0_init 5 = .ok (.iload_n 1, 1) := by decide +kernel
theorem dX0_init_6 : decode cX0_init 6 = .ok (.putfield 9, 3) := by decide +kernel
theorem dX0_init_9 : decode cX0_init 9 = .ok (.aload_n 0, 1) := by decide +kernel
theorem dX0_init_10 : decode cX0_init 10 = .ok (.bipush 64, 2) := by decide +kernel
theorem dX0_init_12 : decode cX0_init 12 = .ok (.newarray .int, 2) := by decide +kernel
theorem dX0_init_14 : decode cX0_init 14 = .ok (.putfield 15, 3) := by decide +kernel
theorem dX0_init_17 : decode cX0_init 17 = .ok (.return_, 1) := by decide +kernel
theorem dX0_length_0 : decode cX0_length 0 = .ok (.aload_n 0, 1) := by decide +kernel
theorem dX0_length_1 : decode cX0_length 1 = .ok (.getfield 19, 3) := by decide +kernel
theorem dX0_length_4 : decode cX0_length 4 = .ok (.ireturn, 1) := by decide +kernel
theorem dX0_clear_0 : decode cX0_clear 0 = .ok (.aload_n 0, 1) := by decide +kernel
theorem dX0_clear_1 : decode cX0_clear 1 = .ok (.iconst 0, 1) := by decide +kernel
theorem dX0_clear_2 : decode cX0_clear 2 = .ok (.putfield 19, 3) := by decide +kernel
theorem dX0_clear_5 : decode cX0_clear 5 = .ok (.return_, 1) := by decide +kernel
theorem dX0_add_0 : decode cX0_add 0 = .ok (.iload_n 1, 1) := by decide +kernel
theorem dX0_add_1 : decode cX0_add 1 = .ok (.invokestatic 22, 3) := by decide +kernel
theorem dX0_add_4 : decode cX0_add 4 = .ok (.ifCond .eq 14, 3) := by decide +kernel
theorem dX0_add_7 : decode cX0_add 7 = .ok (.aload_n 0, 1) := by decide +kernel
theorem dX0_add_8 : decode cX0_add 8 = .ok (.getfield 19, 3) := by decide +kernel
theorem dX0_add_11 : decode cX0_add 11 = .ok (.aload_n 0, 1) := by decide +kernel
theorem dX0_add_12 : decode cX0_add 12 = .ok (.getfield 9, 3) := by decide +kernel
theorem dX0_add_15 : decode cX0_add 15 = .ok (.if_icmp .lt 5, 3) := by decide +kernel
theorem dX0_add_18 : decode cX0_add 18 = .ok (.iconst 0, 1) := by decide +kernel
theorem dX0_add_19 : decode cX0_add 19 = .ok (.ireturn, 1) := by decide +kernel
theorem dX0_add_20 : decode cX0_add 20 = .ok (.aload_n 0, 1) := by decide +kernel
theorem dX0_add_21 : decode cX0_add 21 = .ok (.getfield 19, 3) := by decide +kernel
theorem dX0_add_24 : decode cX0_add 24 = .ok (.aload_n 0, 1) := by decide +kernel
theorem dX0_add_25 : decode cX0_add 25 = .ok (.getfield 15, 3) := by decide +kernel
theorem dX0_add_28 : decode cX0_add 28 = .ok (.arraylength, 1) := by decide +kernel
theorem dX0_add_29 : decode cX0_add 29 = .ok (.if_icmp .lt 25, 3) := by decide +kernel
theorem dX0_add_32 : decode cX0_add 32 = .ok (.aload_n 0, 1) := by decide +kernel
theorem dX0_add_33 : decode cX0_add 33 = .ok (.aload_n 0, 1) := by decide +kernel
theorem dX0_add_34 : decode cX0_add 34 = .ok (.getfield 15, 3) := by decide +kernel
theorem dX0_add_37 : decode cX0_add 37 = .ok (.aload_n 0, 1) := by decide +kernel
theorem dX0_add_38 : decode cX0_add 38 = .ok (.getfield 19, 3) := by decide +kernel
theorem dX0_add_41 : decode cX0_add 41 = .ok (.aload_n 0, 1) := by decide +kernel
theorem dX0_add_42 : decode cX0_add 42 = .ok (.getfield 9, 3) := by decide +kernel
theorem dX0_add_45 : decode cX0_add 45 = .ok (.invokestatic 26, 3) := by decide +kernel
theorem dX0_add_48 : decode cX0_add 48 = .ok (.invokestatic 30, 3) := by decide +kernel
theorem dX0_add_51 : decode cX0_add 51 = .ok (.putfield 15, 3) := by decide +kernel
theorem dX0_add_54 : decode cX0_add 54 = .ok (.aload_n 0, 1) := by decide +kernel
theorem dX0_add_55 : decode cX0_add 55 = .ok (.getfield 15, 3) := by decide +kernel
theorem dX0_add_58 : decode cX0_add 58 = .ok (.aload_n 0, 1) := by decide +kernel
theorem dX0_add_59 : decode cX0_add 59 = .ok (.getfield 19, 3) := by decide +kernel
theorem dX0_add_62 : decode cX0_add 62 = .ok (.iload_n 1, 1) := by decide +kernel
theorem dX0_add_63 : decode cX0_add 63 = .ok (.iastore, 1) := by decide +kernel
theorem dX0_add_64 : decode cX0_add 64 = .ok (.aload_n 0, 1) := by decide +kernel
theorem dX0_add_65 : decode cX0_add 65 = .ok (.dup, 1) := by decide +kernel
theorem dX0_add_66 : decode cX0_add 66 = .ok (.getfield 19, 3) := by decide +kernel
theorem dX0_add_69 : decode cX0_add 69 = .ok (.iconst 1, 1) := by decide +kernel
theorem dX0_add_70 : decode cX0_add 70 = .ok (.iadd, 1) := by decide +kernel
theorem dX0_add_71 : decode cX0_add 71 = .ok (.putfield 19, 3) := by decide +kernel
theorem dX0_add_74 : decode cX0_add 74 = .ok (.iconst 1, 1) := by decide +kernel
theorem dX0_add_75 : decode cX0_add 75 = .ok (.ireturn, 1) := by decide +kernel
theorem dX0_put_0 : decode cX0_put 0 = .ok (.iload_n 2, 1) := by decide +kernel
theorem dX0_put_1 : decode cX0_put 1 = .ok (.invokestatic 22, 3) := by decide +kernel
theorem dX0_put_4 : decode cX0_put 4 = .ok (.ifCond .eq 15, 3) := by decide +kernel
theorem dX0_put_7 : decode cX0_put 7 = .ok (.iload_n 1, 1) := by decide +kernel
theorem dX0_put_8 : decode cX0_put 8 = .ok (.ifCond .lt 11, 3) := by decide +kernel
theorem dX0_put_11 : decode cX0_put 11 = .ok (.iload_n 1, 1) := by decide +kernel
theorem dX0_put_12 : decode cX0_put 12 = .ok (.aload_n 0, 1) := by decide +kernel
theorem dX0_put_13 : decode cX0_put 13 = .ok (.getfield 19, 3) := by decide +kernel
theorem dX0_put_16 : decode cX0_put 16 = .ok (.if_icmp .lt 5, 3) := by decide +kernel
theorem dX0_put_19 : decode cX0_put 19 = .ok (.iconst 0, 1) := by decide +kernel
theorem dX0_put_20 : decode cX0_put 20 = .ok (.ireturn, 1) := by decide +kernel
theorem dX0_put_21 : decode cX0_put 21 = .ok (.aload_n 0, 1) := by decide +kernel
theorem dX0_put_22 : decode cX0_put 22 = .ok (.getfield 15, 3) := by decide +kernel
theorem dX0_put_25 : decode cX0_put 25 = .ok (.iload_n 1, 1) := by decide +kernel
theorem dX0_put_26 : decode cX0_put 26 = .ok (.iload_n 2, 1) := by decide +kernel
theorem dX0_put_27 : decode cX0_put 27 = .ok (.iastore, 1) := by decide +kernel
theorem dX0_put_28 : decode cX0_put 28 = .ok (.iconst 1, 1) := by decide +kernel
theorem dX0_put_29 : decode cX0_put 29 = .ok (.ireturn, 1) := by decide +kernel
theorem dX0_shorten_0 : decode cX0_shorten 0 = .ok (.iload_n 1, 1) := by decide +kernel
theorem dX0_shorten_1 : decode cX0_shorten 1 = .ok (.ifCond .lt 11, 3) := by decide +kernel
theorem dX0_shorten_4 : decode cX0_shorten 4 = .ok (.iload_n 1, 1) := by decide +kernel
theorem dX0_shorten_5 : decode cX0_shorten 5 = .ok (.aload_n 0, 1) := by decide +kernel
theorem dX0_shorten_6 : decode cX0_shorten 6 = .ok (.getfield 19, 3) := by decide +kernel
theorem dX0_shorten_9 : decode cX0_shorten 9 = .ok (.if_icmp .le 5, 3) := by decide +kernel
theorem dX0_shorten_12 : decode cX0_shorten 12 = .ok (.iconst 0, 1) := by decide +kernel
theorem dX0_shorten_13 : decode cX0_shorten 13 = .ok (.ireturn, 1) := by decide +kernel
theorem dX0_shorten_14 : decode cX0_shorten 14 = .ok (.aload_n 0, 1) := by decide +kernel
theorem dX0_shorten_15 : decode cX0_shorten 15 = .ok (.iload_n 1, 1) := by decide +kernel
theorem dX0_shorten_16 : decode cX0_shorten 16 = .ok (.putfield 19, 3) := by decide +kernel
theorem dX0_shorten_19 : decode cX0_shorten 19 = .ok (.iconst 1, 1) := by decide +kernel
theorem dX0_shorten_20 : decode cX0_shorten 20 = .ok (.ireturn, 1) := by decide +kernel
theorem dX0_byteAt_0 : decode cX0_byteAt 0 = .ok (.iload_n 1, 1) := by decide +kernel
theorem dX0_byteAt_1 : decode cX0_byteAt 1 = .ok (.ifCond .lt 11, 3) := by decide +kernel
theorem dX0_byteAt_4 : decode cX0_byteAt 4 = .ok (.iload_n 1, 1) := by decide +kernel
theorem dX0_byteAt_5 : decode cX0_byteAt 5 = .ok (.aload_n 0, 1) := by decide +kernel
theorem dX0_byteAt_6 : decode cX0_byteAt 6 = .ok (.getfield 19, 3) := by decide +kernel
theorem dX0_byteAt_9 : decode cX0_byteAt 9 = .ok (.if_icmp .lt 7, 3) := by decide +kernel
theorem dX0_byteAt_12 : decode cX0_byteAt 12 = .ok (.iconst (-1), 1) := by decide +kernel
theorem dX0_byteAt_13 : decode cX0_byteAt 13 = .ok (.goto 9, 3) := by decide +kernel
theorem dX0_byteAt_16 : decode cX0_byteAt 16 = .ok (.aload_n 0, 1) := by decide +kernel
theorem dX0_byteAt_17 : decode cX0_byteAt 17 = .ok (.getfield 15, 3) := by decide +kernel
theorem dX0_byteAt_20 : decode cX0_byteAt 20 = .ok (.iload_n 1, 1) := by decide +kernel
theorem dX0_byteAt_21 : decode cX0_byteAt 21 = .ok (.iaload, 1) := by decide +kernel
theorem dX0_byteAt_22 : decode cX0_byteAt 22 = .ok (.ireturn, 1) := by decide +kernel
theorem dX1_init_0 : decode cX1_init 0 = .ok (.aload_n 0, 1) := by decide +kernel
theorem dX1_init_1 : decode cX1_init 1 = .ok (.invokespecial 3, 3) := by decide +kernel
theorem dX1_init_4 : decode cX1_init 4 = .ok (.aload_n 0, 1) := by decide +kernel
theorem dX1_init_5 : decode cX1_init 5 = .ok (.aload_n 1, 1) := by decide +kernel
theorem dX1_init_6 : decode cX1_init 6 = .ok (.putfield 9, 3) := by decide +kernel
theorem dX1_init_9 : decode cX1_init 9 = .ok (.return_, 1) := by decide +kernel
theorem dX1_restart_0 : decode cX1_restart 0 = .ok (.aload_n 0, 1) := by decide +kernel
theorem dX1_restart_1 : decode cX1_restart 1 = .ok (.invokevirtual 15, 3) := by decide +kernel
theorem dX1_restart_4 : decode cX1_restart 4 = .ok (.aload_n 0, 1) := by decide +kernel
theorem dX1_restart_5 : decode cX1_restart 5 = .ok (.lconst 0, 1) := by decide +kernel
theorem dX1_restart_6 : decode cX1_restart 6 = .ok (.putfield 18, 3) := by decide +kernel
theorem dX1_restart_9 : decode cX1_restart 9 = .ok (.aload_n 0, 1) := by decide +kernel
theorem dX1_restart_10 : decode cX1_restart 10 = .ok (.iconst 0, 1) := by decide +kernel
theorem dX1_restart_11 : decode cX1_restart 11 = .ok (.putfield 22, 3) := by decide +kernel
theorem dX1_restart_14 : decode cX1_restart 14 = .ok (.iconst 0, 1) := by decide +kernel
theorem dX1_restart_15 : decode cX1_restart 15 = .ok (.istore_n 1, 1) := by decide +kernel
theorem dX1_restart_16 : decode cX1_restart 16 = .ok (.iload_n 1, 1) := by decide +kernel
theorem dX1_restart_17 : decode cX1_restart 17 = .ok (.iconst 4, 1) := by decide +kernel
theorem dX1_restart_18 : decode cX1_restart 18 = .ok (.if_icmp .ge 13, 3) := by decide +kernel
theorem dX1_restart_21 : decode cX1_restart 21 = .ok (.aload_n 0, 1) := by decide +kernel
theorem dX1_restart_22 : decode cX1_restart 22 = .ok (.invokevirtual 26, 3) := by decide +kernel
theorem dX1_restart_25 : decode cX1_restart 25 = .ok (.iinc 1 1, 3) := by decide +kernel
theorem dX1_restart_28 : decode cX1_restart 28 = .ok (.goto (-12), 3) := by decide +kernel
theorem dX1_restart_31 : decode cX1_restart 31 = .ok (.return_, 1) := by decide +kernel
theorem dX1_placeIn_0 : decode cX1_placeIn 0 = .ok (.aload_n 0, 1) := by decide +kernel
theorem dX1_placeIn_1 : decode cX1_placeIn 1 = .ok (.iload_n 1, 1) := by decide +kernel
theorem dX1_placeIn_2 : decode cX1_placeIn 2 = .ok (.invokevirtual 29, 3) := by decide +kernel
theorem dX1_placeIn_5 : decode cX1_placeIn 5 = .ok (.lstore_n 3, 1) := by decide +kernel
theorem dX1_placeIn_6 : decode cX1_placeIn 6 = .ok (.lload_n 3, 1) := by decide +kernel
theorem dX1_placeIn_7 : decode cX1_placeIn 7 = .ok (.lconst 1, 1) := by decide +kernel
theorem dX1_placeIn_8 : decode cX1_placeIn 8 = .ok (.lcmp, 1) := by decide +kernel
theorem dX1_placeIn_9 : decode cX1_placeIn 9 = .ok (.ifCond .ge 7, 3) := by decide +kernel
theorem dX1_placeIn_12 : decode cX1_placeIn 12 = .ok (.iconst 0, 1) := by decide +kernel
theorem dX1_placeIn_13 : decode cX1_placeIn 13 = .ok (.goto 17, 3) := by decide +kernel
theorem dX1_placeIn_16 : decode cX1_placeIn 16 = .ok (.aload_n 0, 1) := by decide +kernel
theorem dX1_placeIn_17 : decode cX1_placeIn 17 = .ok (.getfield 18, 3) := by decide +kernel
theorem dX1_placeIn_20 : decode cX1_placeIn 20 = .ok (.lload_n 3, 1) := by decide +kernel
theorem dX1_placeIn_21 : decode cX1_placeIn 21 = .ok (.ldiv, 1) := by decide +kernel
theorem dX1_placeIn_22 : decode cX1_placeIn 22 = .ok (.iload_n 1, 1) := by decide +kernel
theorem dX1_placeIn_23 : decode cX1_placeIn 23 = .ok (.iconst 1, 1) := by decide +kernel
theorem dX1_placeIn_24 : decode cX1_placeIn 24 = .ok (.isub, 1) := by decide +kernel
theorem dX1_placeIn_25 : decode cX1_placeIn 25 = .ok (.i2l, 1) := by decide +kernel
theorem dX1_placeIn_26 : decode cX1_placeIn 26 = .ok (.invokestatic 33, 3) := by decide +kernel
theorem dX1_placeIn_29 : decode cX1_placeIn 29 = .ok (.l2i, 1) := by decide +kernel
theorem dX1_placeIn_30 : decode cX1_placeIn 30 = .ok (.ireturn, 1) := by decide +kernel
theorem dX1_raiseLow_0 : decode cX1_raiseLow 0 = .ok (.aload_n 0, 1) := by decide +kernel
theorem dX1_raiseLow_1 : decode cX1_raiseLow 1 = .ok (.dup, 1) := by decide +kernel
theorem dX1_raiseLow_2 : decode cX1_raiseLow 2 = .ok (.getfield 18, 3) := by decide +kernel
theorem dX1_raiseLow_5 : decode cX1_raiseLow 5 = .ok (.lload_n 1, 1) := by decide +kernel
theorem dX1_raiseLow_6 : decode cX1_raiseLow 6 = .ok (.lsub, 1) := by decide +kernel
theorem dX1_raiseLow_7 : decode cX1_raiseLow 7 = .ok (.putfield 18, 3) := by decide +kernel
theorem dX1_raiseLow_10 : decode cX1_raiseLow 10 = .ok (.return_, 1) := by decide +kernel
theorem dX1_shiftOnce_0 : decode cX1_shiftOnce 0 = .ok (.aload_n 0, 1) := by decide +kernel
theorem dX1_shiftOnce_1 : decode cX1_shiftOnce 1 = .ok (.aload_n 0, 1) := by decide +kernel
theorem dX1_shiftOnce_2 : decode cX1_shiftOnce 2 = .ok (.getfield 18, 3) := by decide +kernel
theorem dX1_shiftOnce_5 : decode cX1_shiftOnce 5 = .ok (.ldc2_w 39, 3) := by decide +kernel
theorem dX1_shiftOnce_8 : decode cX1_shiftOnce 8 = .ok (.lmul, 1) := by decide +kernel
theorem dX1_shiftOnce_9 : decode cX1_shiftOnce 9 = .ok (.aload_n 0, 1) := by decide +kernel
theorem dX1_shiftOnce_10 : decode cX1_shiftOnce 10 = .ok (.getfield 22, 3) := by decide +kernel
theorem dX1_shiftOnce_13 : decode cX1_shiftOnce 13 = .ok (.aload_n 0, 1) := by decide +kernel
theorem dX1_shiftOnce_14 : decode cX1_shiftOnce 14 = .ok (.getfield 9, 3) := by decide +kernel
theorem dX1_shiftOnce_17 : decode cX1_shiftOnce 17 = .ok (.invokevirtual 41, 3) := by decide +kernel
theorem dX1_shiftOnce_20 : decode cX1_shiftOnce 20 = .ok (.if_icmp .ge 17, 3) := by decide +kernel
theorem dX1_shiftOnce_23 : decode cX1_shiftOnce 23 = .ok (.aload_n 0, 1) := by decide +kernel
theorem dX1_shiftOnce_24 : decode cX1_shiftOnce 24 = .ok (.getfield 9, 3) := by decide +kernel
theorem dX1_shiftOnce_27 : decode cX1_shiftOnce 27 = .ok (.aload_n 0, 1) := by decide +kernel
theorem dX1_shiftOnce_28 : decode cX1_shiftOnce 28 = .ok (.getfield 22, 3) := by decide +kernel
theorem dX1_shiftOnce_31 : decode cX1_shiftOnce 31 = .ok (.invokevirtual 47, 3) := by decide +kernel
theorem dX1_shiftOnce_34 : decode cX1_shiftOnce 34 = .ok (.goto 4, 3) := by decide +kernel
theorem dX1_shiftOnce_37 : decode cX1_shiftOnce 37 = .ok (.iconst 0, 1) := by decide +kernel
theorem dX1_shiftOnce_38 : decode cX1_shiftOnce 38 = .ok (.i2l, 1) := by decide +kernel
theorem dX1_shiftOnce_39 : decode cX1_shiftOnce 39 = .ok (.ladd, 1) := by decide +kernel
theorem dX1_shiftOnce_40 : decode cX1_shiftOnce 40 = .ok (.putfield 18, 3) := by decide +kernel
theorem dX1_shiftOnce_43 : decode cX1_shiftOnce 43 = .ok (.aload_n 0, 1) := by decide +kernel
theorem dX1_shiftOnce_44 : decode cX1_shiftOnce 44 = .ok (.dup, 1) := by decide +kernel
theorem dX1_shiftOnce_45 : decode cX1_shiftOnce 45 = .ok (.getfield 22, 3) := by decide +kernel
theorem dX1_shiftOnce_48 : decode cX1_shiftOnce 48 = .ok (.iconst 1, 1) := by decide +kernel
theorem dX1_shiftOnce_49 : decode cX1_shiftOnce 49 = .ok (.iadd, 1) := by decide +kernel
theorem dX1_shiftOnce_50 : decode cX1_shiftOnce 50 = .ok (.putfield 22, 3) := by decide +kernel
theorem dX1_shiftOnce_53 : decode cX1_shiftOnce 53 = .ok (.return_, 1) := by decide +kernel
theorem dX2_init_0 : decode cX2_init 0 = .ok (.aload_n 0, 1) := by decide +kernel
theorem dX2_init_1 : decode cX2_init 1 = .ok (.invokespecial 3, 3) := by decide +kernel
theorem dX2_init_4 : decode cX2_init 4 = .ok (.aload_n 0, 1) := by decide +kernel
theorem dX2_init_5 : decode cX2_init 5 = .ok (.aload_n 1, 1) := by decide +kernel
theorem dX2_init_6 : decode cX2_init 6 = .ok (.putfield 9, 3) := by decide +kernel
theorem dX2_init_9 : decode cX2_init 9 = .ok (.return_, 1) := by decide +kernel
theorem dX2_restart_0 : decode cX2_restart 0 = .ok (.aload_n 0, 1) := by decide +kernel
theorem dX2_restart_1 : decode cX2_restart 1 = .ok (.invokevirtual 15, 3) := by decide +kernel
theorem dX2_restart_4 : decode cX2_restart 4 = .ok (.aload_n 0, 1) := by decide +kernel
theorem dX2_restart_5 : decode cX2_restart 5 = .ok (.getfield 9, 3) := by decide +kernel
theorem dX2_restart_8 : decode cX2_restart 8 = .ok (.invokevirtual 18, 3) := by decide +kernel
theorem dX2_restart_11 : decode cX2_restart 11 = .ok (.aload_n 0, 1) := by decide +kernel
theorem dX2_restart_12 : decode cX2_restart 12 = .ok (.lconst 0, 1) := by decide +kernel
theorem dX2_restart_13 : decode cX2_restart 13 = .ok (.putfield 23, 3) := by decide +kernel
theorem dX2_restart_16 : decode cX2_restart 16 = .ok (.return_, 1) := by decide +kernel
theorem dX2_placeIn_0 : decode cX2_placeIn 0 = .ok (.iload_n 2, 1) := by decide +kernel
theorem dX2_placeIn_1 : decode cX2_placeIn 1 = .ok (.ireturn, 1) := by decide +kernel
theorem dX2_raiseLow_0 : decode cX2_raiseLow 0 = .ok (.aload_n 0, 1) := by decide +kernel
theorem dX2_raiseLow_1 : decode cX2_raiseLow 1 = .ok (.dup, 1) := by decide +kernel
theorem dX2_raiseLow_2 : decode cX2_raiseLow 2 = .ok (.getfield 23, 3) := by decide +kernel
theorem dX2_raiseLow_5 : decode cX2_raiseLow 5 = .ok (.lload_n 1, 1) := by decide +kernel
theorem dX2_raiseLow_6 : decode cX2_raiseLow 6 = .ok (.ladd, 1) := by decide +kernel
theorem dX2_raiseLow_7 : decode cX2_raiseLow 7 = .ok (.putfield 23, 3) := by decide +kernel
theorem dX2_raiseLow_10 : decode cX2_raiseLow 10 = .ok (.aload_n 0, 1) := by decide +kernel
theorem dX2_raiseLow_11 : decode cX2_raiseLow 11 = .ok (.getfield 23, 3) := by decide +kernel
theorem dX2_raiseLow_14 : decode cX2_raiseLow 14 = .ok (.ldc2_w 27, 3) := by decide +kernel
theorem dX2_raiseLow_17 : decode cX2_raiseLow 17 = .ok (.lcmp, 1) := by decide +kernel
theorem dX2_raiseLow_18 : decode cX2_raiseLow 18 = .ok (.ifCond .le 19, 3) := by decide +kernel
theorem dX2_raiseLow_21 : decode cX2_raiseLow 21 = .ok (.aload_n 0, 1) := by decide +kernel
theorem dX2_raiseLow_22 : decode cX2_raiseLow 22 = .ok (.dup, 1) := by decide +kernel
theorem dX2_raiseLow_23 : decode cX2_raiseLow 23 = .ok (.getfield 23, 3) := by decide +kernel
theorem dX2_raiseLow_26 : decode cX2_raiseLow 26 = .ok (.ldc2_w 27, 3) := by decide +kernel
theorem dX2_raiseLow_29 : decode cX2_raiseLow 29 = .ok (.land, 1) := by decide +kernel
theorem dX2_raiseLow_30 : decode cX2_raiseLow 30 = .ok (.putfield 23, 3) := by decide +kernel
theorem dX2_raiseLow_33 : decode cX2_raiseLow 33 = .ok (.aload_n 0, 1) := by decide +kernel
theorem dX2_raiseLow_34 : decode cX2_raiseLow 34 = .ok (.invokevirtual 29, 3) := by decide +kernel
theorem dX2_raiseLow_37 : decode cX2_raiseLow 37 = .ok (.return_, 1) := by decide +kernel
theorem dX2_shiftOnce_0 : decode cX2_shiftOnce 0 = .ok (.aload_n 0, 1) := by decide +kernel
theorem dX2_shiftOnce_1 : decode cX2_shiftOnce 1 = .ok (.getfield 9, 3) := by decide +kernel
theorem dX2_shiftOnce_4 : decode cX2_shiftOnce 4 = .ok (.aload_n 0, 1) := by decide +kernel
theorem dX2_shiftOnce_5 : decode cX2_shiftOnce 5 = .ok (.getfield 23, 3) := by decide +kernel
theorem dX2_shiftOnce_8 : decode cX2_shiftOnce 8 = .ok (.bipush 24, 2) := by decide +kernel
theorem dX2_shiftOnce_10 : decode cX2_shiftOnce 10 = .ok (.lushr, 1) := by decide +kernel
theorem dX2_shiftOnce_11 : decode cX2_shiftOnce 11 = .ok (.l2i, 1) := by decide +kernel
theorem dX2_shiftOnce_12 : decode cX2_shiftOnce 12 = .ok (.invokevirtual 32, 3) := by decide +kernel
theorem dX2_shiftOnce_15 : decode cX2_shiftOnce 15 = .ok (.pop, 1) := by decide +kernel
theorem dX2_shiftOnce_16 : decode cX2_shiftOnce 16 = .ok (.aload_n 0, 1) := by decide +kernel
theorem dX2_shiftOnce_17 : decode cX2_shiftOnce 17 = .ok (.aload_n 0, 1) := by decide +kernel
theorem dX2_shiftOnce_18 : decode cX2_shiftOnce 18 = .ok (.getfield 23, 3) := by decide +kernel
theorem dX2_shiftOnce_21 : decode cX2_shiftOnce 21 = .ok (.bipush 8, 2) := by decide +kernel
theorem dX2_shiftOnce_23 : decode cX2_shiftOnce 23 = .ok (.lshl, 1) := by decide +kernel
theorem dX2_shiftOnce_24 : decode cX2_shiftOnce 24 = .ok (.ldc2_w 27, 3) := by decide +kernel
theorem dX2_shiftOnce_27 : decode cX2_shiftOnce 27 = .ok (.land, 1) := by decide +kernel
theorem dX2_shiftOnce_28 : decode cX2_shiftOnce 28 = .ok (.putfield 23, 3) := by decide +kernel
theorem dX2_shiftOnce_31 : decode cX2_shiftOnce 31 = .ok (.return_, 1) := by decide +kernel
theorem dX2_finish_0 : decode cX2_finish 0 = .ok (.aload_n 0, 1) := by decide +kernel
theorem dX2_finish_1 : decode cX2_finish 1 = .ok (.invokevirtual 36, 3) := by decide +kernel
theorem dX2_finish_4 : decode cX2_finish 4 = .ok (.iconst 4, 1) := by decide +kernel
theorem dX2_finish_5 : decode cX2_finish 5 = .ok (.iadd, 1) := by decide +kernel
theorem dX2_finish_6 : decode cX2_finish 6 = .ok (.sipush 8000, 3) := by decide +kernel
theorem dX2_finish_9 : decode cX2_finish 9 = .ok (.if_icmp .le 12, 3) := by decide +kernel
theorem dX2_finish_12 : decode cX2_finish 12 = .ok (.aload_n 0, 1) := by decide +kernel
theorem dX2_finish_13 : decode cX2_finish 13 = .ok (.getfield 9, 3) := by decide +kernel
theorem dX2_finish_16 : decode cX2_finish 16 = .ok (.invokevirtual 18, 3) := by decide +kernel
theorem dX2_finish_19 : decode cX2_finish 19 = .ok (.iconst 0, 1) := by decide +kernel
theorem dX2_finish_20 : decode cX2_finish 20 = .ok (.ireturn, 1) := by decide +kernel
theorem dX2_finish_21 : decode cX2_finish 21 = .ok (.bipush 24, 2) := by decide +kernel
theorem dX2_finish_23 : decode cX2_finish 23 = .ok (.istore_n 1, 1) := by decide +kernel
theorem dX2_finish_24 : decode cX2_finish 24 = .ok (.iload_n 1, 1) := by decide +kernel
theorem dX2_finish_25 : decode cX2_finish 25 = .ok (.ifCond .lt 28, 3) := by decide +kernel
theorem dX2_finish_28 : decode cX2_finish 28 = .ok (.aload_n 0, 1) := by decide +kernel
theorem dX2_finish_29 : decode cX2_finish 29 = .ok (.getfield 9, 3) := by decide +kernel
theorem dX2_finish_32 : decode cX2_finish 32 = .ok (.aload_n 0, 1) := by decide +kernel
theorem dX2_finish_33 : decode cX2_finish 33 = .ok (.getfield 23, 3) := by decide +kernel
theorem dX2_finish_36 : decode cX2_finish 36 = .ok (.iload_n 1, 1) := by decide +kernel
theorem dX2_finish_37 : decode cX2_finish 37 = .ok (.lushr, 1) := by decide +kernel
theorem dX2_finish_38 : decode cX2_finish 38 = .ok (.ldc2_w 40, 3) := by decide +kernel
theorem dX2_finish_41 : decode cX2_finish 41 = .ok (.land, 1) := by decide +kernel
theorem dX2_finish_42 : decode cX2_finish 42 = .ok (.l2i, 1) := by decide +kernel
theorem dX2_finish_43 : decode cX2_finish 43 = .ok (.invokevirtual 32, 3) := by decide +kernel
theorem dX2_finish_46 : decode cX2_finish 46 = .ok (.pop, 1) := by decide +kernel
theorem dX2_finish_47 : decode cX2_finish 47 = .ok (.iinc 1 (-8), 3) := by decide +kernel
theorem dX2_finish_50 : decode cX2_finish 50 = .ok (.goto (-26), 3) := by decide +kernel
theorem dX2_finish_53 : decode cX2_finish 53 = .ok (.iconst 1, 1) := by decide +kernel
theorem dX2_finish_54 : decode cX2_finish 54 = .ok (.ireturn, 1) := by decide +kernel
theorem dX2_carry_0 : decode cX2_carry 0 = .ok (.aload_n 0, 1) := by decide +kernel
theorem dX2_carry_1 : decode cX2_carry 1 = .ok (.getfield 9, 3) := by decide +kernel
theorem dX2_carry_4 : decode cX2_carry 4 = .ok (.invokevirtual 42, 3) := by decide +kernel
theorem dX2_carry_7 : decode cX2_carry 7 = .ok (.iconst 1, 1) := by decide +kernel
theorem dX2_carry_8 : decode cX2_carry 8 = .ok (.isub, 1) := by decide +kernel
theorem dX2_carry_9 : decode cX2_carry 9 = .ok (.istore_n 1, 1) := by decide +kernel
theorem dX2_carry_10 : decode cX2_carry 10 = .ok (.iload_n 1, 1) := by decide +kernel
theorem dX2_carry_11 : decode cX2_carry 11 = .ok (.ifCond .lt 48, 3) := by decide +kernel
theorem dX2_carry_14 : decode cX2_carry 14 = .ok (.aload_n 0, 1) := by decide +kernel
theorem dX2_carry_15 : decode cX2_carry 15 = .ok (.getfield 9, 3) := by decide +kernel
theorem dX2_carry_18 : decode cX2_carry 18 = .ok (.iload_n 1, 1) := by decide +kernel
theorem dX2_carry_19 : decode cX2_carry 19 = .ok (.invokevirtual 45, 3) := by decide +kernel
theorem dX2_carry_22 : decode cX2_carry 22 = .ok (.istore_n 2, 1) := by decide +kernel
theorem dX2_carry_23 : decode cX2_carry 23 = .ok (.iload_n 2, 1) := by decide +kernel
theorem dX2_carry_24 : decode cX2_carry 24 = .ok (.sipush 255, 3) := by decide +kernel
theorem dX2_carry_27 : decode cX2_carry 27 = .ok (.if_icmp .ge 16, 3) := by decide +kernel
theorem dX2_carry_30 : decode cX2_carry 30 = .ok (.aload_n 0, 1) := by decide +kernel
theorem dX2_carry_31 : decode cX2_carry 31 = .ok (.getfield 9, 3) := by decide +kernel
theorem dX2_carry_34 : decode cX2_carry 34 = .ok (.iload_n 1, 1) := by decide +kernel
theorem dX2_carry_35 : decode cX2_carry 35 = .ok (.iload_n 2, 1) := by decide +kernel
theorem dX2_carry_36 : decode cX2_carry 36 = .ok (.iconst 1, 1) := by decide +kernel
theorem dX2_carry_37 : decode cX2_carry 37 = .ok (.iadd, 1) := by decide +kernel
theorem dX2_carry_38 : decode cX2_carry 38 = .ok (.invokevirtual 49, 3) := by decide +kernel
theorem dX2_carry_41 : decode cX2_carry 41 = .ok (.pop, 1) := by decide +kernel
theorem dX2_carry_42 : decode cX2_carry 42 = .ok (.return_, 1) := by decide +kernel
theorem dX2_carry_43 : decode cX2_carry 43 = .ok (.aload_n 0, 1) := by decide +kernel
theorem dX2_carry_44 : decode cX2_carry 44 = .ok (.getfield 9, 3) := by decide +kernel
theorem dX2_carry_47 : decode cX2_carry 47 = .ok (.iload_n 1, 1) := by decide +kernel
theorem dX2_carry_48 : decode cX2_carry 48 = .ok (.iconst 0, 1) := by decide +kernel
theorem dX2_carry_49 : decode cX2_carry 49 = .ok (.invokevirtual 49, 3) := by decide +kernel
theorem dX2_carry_52 : decode cX2_carry 52 = .ok (.pop, 1) := by decide +kernel
theorem dX2_carry_53 : decode cX2_carry 53 = .ok (.iinc 1 (-1), 3) := by decide +kernel
theorem dX2_carry_56 : decode cX2_carry 56 = .ok (.goto (-46), 3) := by decide +kernel
theorem dX2_carry_59 : decode cX2_carry 59 = .ok (.return_, 1) := by decide +kernel
theorem dX3_init_0 : decode cX3_init 0 = .ok (.aload_n 0, 1) := by decide +kernel
theorem dX3_init_1 : decode cX3_init 1 = .ok (.invokespecial 1, 3) := by decide +kernel
theorem dX3_init_4 : decode cX3_init 4 = .ok (.return_, 1) := by decide +kernel
theorem dX3_range_0 : decode cX3_range 0 = .ok (.aload_n 0, 1) := by decide +kernel
theorem dX3_range_1 : decode cX3_range 1 = .ok (.getfield 7, 3) := by decide +kernel
theorem dX3_range_4 : decode cX3_range 4 = .ok (.lreturn, 1) := by decide +kernel
theorem dX3_shifts_0 : decode cX3_shifts 0 = .ok (.aload_n 0, 1) := by decide +kernel
theorem dX3_shifts_1 : decode cX3_shifts 1 = .ok (.getfield 13, 3) := by decide +kernel
theorem dX3_shifts_4 : decode cX3_shifts 4 = .ok (.ireturn, 1) := by decide +kernel
theorem dX3_widen_0 : decode cX3_widen 0 = .ok (.aload_n 0, 1) := by decide +kernel
theorem dX3_widen_1 : decode cX3_widen 1 = .ok (.ldc2_w 17, 3) := by decide +kernel
theorem dX3_widen_4 : decode cX3_widen 4 = .ok (.putfield 7, 3) := by decide +kernel
theorem dX3_widen_7 : decode cX3_widen 7 = .ok (.aload_n 0, 1) := by decide +kernel
theorem dX3_widen_8 : decode cX3_widen 8 = .ok (.iconst 0, 1) := by decide +kernel
theorem dX3_widen_9 : decode cX3_widen 9 = .ok (.putfield 13, 3) := by decide +kernel
theorem dX3_widen_12 : decode cX3_widen 12 = .ok (.return_, 1) := by decide +kernel
theorem dX3_unitOf_0 : decode cX3_unitOf 0 = .ok (.iload_n 1, 1) := by decide +kernel
theorem dX3_unitOf_1 : decode cX3_unitOf 1 = .ok (.iconst 1, 1) := by decide +kernel
theorem dX3_unitOf_2 : decode cX3_unitOf 2 = .ok (.if_icmp .ge 10, 3) := by decide +kernel
theorem dX3_unitOf_5 : decode cX3_unitOf 5 = .ok (.aload_n 0, 1) := by decide +kernel
theorem dX3_unitOf_6 : decode cX3_unitOf 6 = .ok (.getfield 7, 3) := by decide +kernel
theorem dX3_unitOf_9 : decode cX3_unitOf 9 = .ok (.goto 10, 3) := by decide +kernel
theorem dX3_unitOf_12 : decode cX3_unitOf 12 = .ok (.aload_n 0, 1) := by decide +kernel
theorem dX3_unitOf_13 : decode cX3_unitOf 13 = .ok (.getfield 7, 3) := by decide +kernel
theorem dX3_unitOf_16 : decode cX3_unitOf 16 = .ok (.iload_n 1, 1) := by decide +kernel
theorem dX3_unitOf_17 : decode cX3_unitOf 17 = .ok (.i2l, 1) := by decide +kernel
theorem dX3_unitOf_18 : decode cX3_unitOf 18 = .ok (.ldiv, 1) := by decide +kernel
theorem dX3_unitOf_19 : decode cX3_unitOf 19 = .ok (.lreturn, 1) := by decide +kernel
theorem dX3_narrow_0 : decode cX3_narrow 0 = .ok (.aload_n 0, 1) := by decide +kernel
theorem dX3_narrow_1 : decode cX3_narrow 1 = .ok (.iload_n 3, 1) := by decide +kernel
theorem dX3_narrow_2 : decode cX3_narrow 2 = .ok (.invokevirtual 19, 3) := by decide +kernel
theorem dX3_narrow_5 : decode cX3_narrow 5 = .ok (.lstore 4, 2) := by decide +kernel
theorem dX3_narrow_7 : decode cX3_narrow 7 = .ok (.aload_n 0, 1) := by decide +kernel
theorem dX3_narrow_8 : decode cX3_narrow 8 = .ok (.lload 4, 2) := by decide +kernel
theorem dX3_narrow_10 : decode cX3_narrow 10 = .ok (.iload_n 1, 1) := by decide +kernel
theorem dX3_narrow_11 : decode cX3_narrow 11 = .ok (.i2l, 1) := by decide +kernel
theorem dX3_narrow_12 : decode cX3_narrow 12 = .ok (.lmul, 1) := by decide +kernel
theorem dX3_narrow_13 : decode cX3_narrow 13 = .ok (.invokevirtual 23, 3) := by decide +kernel
theorem dX3_narrow_16 : decode cX3_narrow 16 = .ok (.aload_n 0, 1) := by decide +kernel
theorem dX3_narrow_17 : decode cX3_narrow 17 = .ok (.iload_n 1, 1) := by decide +kernel
theorem dX3_narrow_18 : decode cX3_narrow 18 = .ok (.iload_n 2, 1) := by decide +kernel
theorem dX3_narrow_19 : decode cX3_narrow 19 = .ok (.iadd, 1) := by decide +kernel
theorem dX3_narrow_20 : decode cX3_narrow 20 = .ok (.iload_n 3, 1) := by decide +kernel
theorem dX3_narrow_21 : decode cX3_narrow 21 = .ok (.if_icmp .ne 16, 3) := by decide +kernel
theorem dX3_narrow_24 : decode cX3_narrow 24 = .ok (.aload_n 0, 1) := by decide +kernel
theorem dX3_narrow_25 : decode cX3_narrow 25 = .ok (.getfield 7, 3) := by decide +kernel
theorem dX3_narrow_28 : decode cX3_narrow 28 = .ok (.lload 4, 2) := by decide +kernel
theorem dX3_narrow_30 : decode cX3_narrow 30 = .ok (.iload_n 1, 1) := by decide +kernel
theorem dX3_narrow_31 : decode cX3_narrow 31 = .ok (.i2l, 1) := by decide +kernel
theorem dX3_narrow_32 : decode cX3_narrow 32 = .ok (.lmul, 1) := by decide +kernel
theorem dX3_narrow_33 : decode cX3_narrow 33 = .ok (.lsub, 1) := by decide +kernel
theorem dX3_narrow_34 : decode cX3_narrow 34 = .ok (.goto 8, 3) := by decide +kernel
theorem dX3_narrow_37 : decode cX3_narrow 37 = .ok (.lload 4, 2) := by decide +kernel
theorem dX3_narrow_39 : decode cX3_narrow 39 = .ok (.iload_n 2, 1) := by decide +kernel
theorem dX3_narrow_40 : decode cX3_narrow 40 = .ok (.i2l, 1) := by decide +kernel
theorem dX3_narrow_41 : decode cX3_narrow 41 = .ok (.lmul, 1) := by decide +kernel
theorem dX3_narrow_42 : decode cX3_narrow 42 = .ok (.putfield 7, 3) := by decide +kernel
theorem dX3_narrow_45 : decode cX3_narrow 45 = .ok (.iconst 0, 1) := by decide +kernel
theorem dX3_narrow_46 : decode cX3_narrow 46 = .ok (.istore 6, 2) := by decide +kernel
theorem dX3_narrow_48 : decode cX3_narrow 48 = .ok (.iload 6, 2) := by decide +kernel
theorem dX3_narrow_50 : decode cX3_narrow 50 = .ok (.iconst 4, 1) := by decide +kernel
theorem dX3_narrow_51 : decode cX3_narrow 51 = .ok (.if_icmp .ge 46, 3) := by decide +kernel
theorem dX3_narrow_54 : decode cX3_narrow 54 = .ok (.aload_n 0, 1) := by decide +kernel
theorem dX3_narrow_55 : decode cX3_narrow 55 = .ok (.getfield 7, 3) := by decide +kernel
theorem dX3_narrow_58 : decode cX3_narrow 58 = .ok (.ldc2_w 27, 3) := by decide +kernel
theorem dX3_narrow_61 : decode cX3_narrow 61 = .ok (.lcmp, 1) := by decide +kernel
theorem dX3_narrow_62 : decode cX3_narrow 62 = .ok (.ifCond .ge 35, 3) := by decide +kernel
theorem dX3_narrow_65 : decode cX3_narrow 65 = .ok (.aload_n 0, 1) := by decide +kernel
theorem dX3_narrow_66 : decode cX3_narrow 66 = .ok (.invokevirtual 29, 3) := by decide +kernel
theorem dX3_narrow_69 : decode cX3_narrow 69 = .ok (.aload_n 0, 1) := by decide +kernel
theorem dX3_narrow_70 : decode cX3_narrow 70 = .ok (.dup, 1) := by decide +kernel
theorem dX3_narrow_71 : decode cX3_narrow 71 = .ok (.getfield 7, 3) := by decide +kernel
theorem dX3_narrow_74 : decode cX3_narrow 74 = .ok (.ldc2_w 32, 3) := by decide +kernel
theorem dX3_narrow_77 : decode cX3_narrow 77 = .ok (.lmul, 1) := by decide +kernel
theorem dX3_narrow_78 : decode cX3_narrow 78 = .ok (.putfield 7, 3) := by decide +kernel
theorem dX3_narrow_81 : decode cX3_narrow 81 = .ok (.aload_n 0, 1) := by decide +kernel
theorem dX3_narrow_82 : decode cX3_narrow 82 = .ok (.dup, 1) := by decide +kernel
theorem dX3_narrow_83 : decode cX3_narrow 83 = .ok (.getfield 13, 3) := by decide +kernel
theorem dX3_narrow_86 : decode cX3_narrow 86 = .ok (.iconst 1, 1) := by decide +kernel
theorem dX3_narrow_87 : decode cX3_narrow 87 = .ok (.iadd, 1) := by decide +kernel
theorem dX3_narrow_88 : decode cX3_narrow 88 = .ok (.putfield 13, 3) := by decide +kernel
theorem dX3_narrow_91 : decode cX3_narrow 91 = .ok (.iinc 6 1, 3) := by decide +kernel
theorem dX3_narrow_94 : decode cX3_narrow 94 = .ok (.goto (-46), 3) := by decide +kernel
theorem dX3_narrow_97 : decode cX3_narrow 97 = .ok (.return_, 1) := by decide +kernel
theorem dX4_init_0 : decode cX4_init 0 = .ok (.aload_n 0, 1) := by decide +kernel
theorem dX4_init_1 : decode cX4_init 1 = .ok (.invokespecial 3, 3) := by decide +kernel
theorem dX4_init_4 : decode cX4_init 4 = .ok (.aload_n 0, 1) := by decide +kernel
theorem dX4_init_5 : decode cX4_init 5 = .ok (.iload_n 1, 1) := by decide +kernel
theorem dX4_init_6 : decode cX4_init 6 = .ok (.putfield 9, 3) := by decide +kernel
theorem dX4_init_9 : decode cX4_init 9 = .ok (.aload_n 0, 1) := by decide +kernel
theorem dX4_init_10 : decode cX4_init 10 = .ok (.bipush 64, 2) := by decide +kernel
theorem dX4_init_12 : decode cX4_init 12 = .ok (.newarray .int, 2) := by decide +kernel
theorem dX4_init_14 : decode cX4_init 14 = .ok (.putfield 15, 3) := by decide +kernel
theorem dX4_init_17 : decode cX4_init 17 = .ok (.aload_n 0, 1) := by decide +kernel
theorem dX4_init_18 : decode cX4_init 18 = .ok (.bipush 64, 2) := by decide +kernel
theorem dX4_init_20 : decode cX4_init 20 = .ok (.newarray .int, 2) := by decide +kernel
theorem dX4_init_22 : decode cX4_init 22 = .ok (.putfield 19, 3) := by decide +kernel
theorem dX4_init_25 : decode cX4_init 25 = .ok (.aload_n 0, 1) := by decide +kernel
theorem dX4_init_26 : decode cX4_init 26 = .ok (.bipush 64, 2) := by decide +kernel
theorem dX4_init_28 : decode cX4_init 28 = .ok (.newarray .int, 2) := by decide +kernel
theorem dX4_init_30 : decode cX4_init 30 = .ok (.putfield 22, 3) := by decide +kernel
theorem dX4_init_33 : decode cX4_init 33 = .ok (.aload_n 0, 1) := by decide +kernel
theorem dX4_init_34 : decode cX4_init 34 = .ok (.bipush 64, 2) := by decide +kernel
theorem dX4_init_36 : decode cX4_init 36 = .ok (.newarray .int, 2) := by decide +kernel
theorem dX4_init_38 : decode cX4_init 38 = .ok (.putfield 25, 3) := by decide +kernel
theorem dX4_init_41 : decode cX4_init 41 = .ok (.aload_n 0, 1) := by decide +kernel
theorem dX4_init_42 : decode cX4_init 42 = .ok (.bipush 64, 2) := by decide +kernel
theorem dX4_init_44 : decode cX4_init 44 = .ok (.newarray .int, 2) := by decide +kernel
theorem dX4_init_46 : decode cX4_init 46 = .ok (.putfield 28, 3) := by decide +kernel
theorem dX4_init_49 : decode cX4_init 49 = .ok (.aload_n 0, 1) := by decide +kernel
theorem dX4_init_50 : decode cX4_init 50 = .ok (.bipush 64, 2) := by decide +kernel
theorem dX4_init_52 : decode cX4_init 52 = .ok (.newarray .int, 2) := by decide +kernel
theorem dX4_init_54 : decode cX4_init 54 = .ok (.putfield 31, 3) := by decide +kernel
theorem dX4_init_57 : decode cX4_init 57 = .ok (.aload_n 0, 1) := by decide +kernel
theorem dX4_init_58 : decode cX4_init 58 = .ok (.bipush 64, 2) := by decide +kernel
theorem dX4_init_60 : decode cX4_init 60 = .ok (.newarray .int, 2) := by decide +kernel
theorem dX4_init_62 : decode cX4_init 62 = .ok (.putfield 34, 3) := by decide +kernel
theorem dX4_init_65 : decode cX4_init 65 = .ok (.aload_n 0, 1) := by decide +kernel
theorem dX4_init_66 : decode cX4_init 66 = .ok (.bipush 64, 2) := by decide +kernel
theorem dX4_init_68 : decode cX4_init 68 = .ok (.newarray .int, 2) := by decide +kernel
theorem dX4_init_70 : decode cX4_init 70 = .ok (.putfield 37, 3) := by decide +kernel
theorem dX4_init_73 : decode cX4_init 73 = .ok (.aload_n 0, 1) := by decide +kernel
theorem dX4_init_74 : decode cX4_init 74 = .ok (.sipush 256, 3) := by decide +kernel
theorem dX4_init_77 : decode cX4_init 77 = .ok (.newarray .int, 2) := by decide +kernel
theorem dX4_init_79 : decode cX4_init 79 = .ok (.putfield 40, 3) := by decide +kernel
theorem dX4_init_82 : decode cX4_init 82 = .ok (.aload_n 0, 1) := by decide +kernel
theorem dX4_init_83 : decode cX4_init 83 = .ok (.getfield 40, 3) := by decide +kernel
theorem dX4_init_86 : decode cX4_init 86 = .ok (.iconst (-1), 1) := by decide +kernel
theorem dX4_init_87 : decode cX4_init 87 = .ok (.invokestatic 43, 3) := by decide +kernel
theorem dX4_init_90 : decode cX4_init 90 = .ok (.return_, 1) := by decide +kernel
theorem dX4_limitTo_0 : decode cX4_limitTo 0 = .ok (.aload_n 0, 1) := by decide +kernel
theorem dX4_limitTo_1 : decode cX4_limitTo 1 = .ok (.iload_n 1, 1) := by decide +kernel
theorem dX4_limitTo_2 : decode cX4_limitTo 2 = .ok (.putfield 9, 3) := by decide +kernel
theorem dX4_limitTo_5 : decode cX4_limitTo 5 = .ok (.return_, 1) := by decide +kernel
theorem dX4_restart_0 : decode cX4_restart 0 = .ok (.aload_n 0, 1) := by decide +kernel
theorem dX4_restart_1 : decode cX4_restart 1 = .ok (.invokevirtual 49, 3) := by decide +kernel
theorem dX4_restart_4 : decode cX4_restart 4 = .ok (.aload_n 0, 1) := by decide +kernel
theorem dX4_restart_5 : decode cX4_restart 5 = .ok (.iconst 0, 1) := by decide +kernel
theorem dX4_restart_6 : decode cX4_restart 6 = .ok (.putfield 52, 3) := by decide +kernel
theorem dX4_restart_9 : decode cX4_restart 9 = .ok (.aload_n 0, 1) := by decide +kernel
theorem dX4_restart_10 : decode cX4_restart 10 = .ok (.iconst 0, 1) := by decide +kernel
theorem dX4_restart_11 : decode cX4_restart 11 = .ok (.putfield 55, 3) := by decide +kernel
theorem dX4_restart_14 : decode cX4_restart 14 = .ok (.aload_n 0, 1) := by decide +kernel
theorem dX4_restart_15 : decode cX4_restart 15 = .ok (.iconst 0, 1) := by decide +kernel
theorem dX4_restart_16 : decode cX4_restart 16 = .ok (.putfield 58, 3) := by decide +kernel
theorem dX4_restart_19 : decode cX4_restart 19 = .ok (.return_, 1) := by decide +kernel
theorem dX4_nodes_0 : decode cX4_nodes 0 = .ok (.aload_n 0, 1) := by decide +kernel
theorem dX4_nodes_1 : decode cX4_nodes 1 = .ok (.getfield 61, 3) := by decide +kernel
theorem dX4_nodes_4 : decode cX4_nodes 4 = .ok (.ireturn, 1) := by decide +kernel
theorem dX4_contexts_0 : decode cX4_contexts 0 = .ok (.aload_n 0, 1) := by decide +kernel
theorem dX4_contexts_1 : decode cX4_contexts 1 = .ok (.getfield 64, 3) := by decide +kernel
theorem dX4_contexts_4 : decode cX4_contexts 4 = .ok (.ireturn, 1) := by decide +kernel
theorem dX4_rescalings_0 : decode cX4_rescalings 0 = .ok (.aload_n 0, 1) := by decide +kernel
theorem dX4_rescalings_1 : decode cX4_rescalings 1 = .ok (.getfield 55, 3) := by decide +kernel
theorem dX4_rescalings_4 : decode cX4_rescalings 4 = .ok (.ireturn, 1) := by decide +kernel
theorem dX4_resets_0 : decode cX4_resets 0 = .ok (.aload_n 0, 1) := by decide +kernel
theorem dX4_resets_1 : decode cX4_resets 1 = .ok (.getfield 58, 3) := by decide +kernel
theorem dX4_resets_4 : decode cX4_resets 4 = .ok (.ireturn, 1) := by decide +kernel
theorem dX4_topOrder_0 : decode cX4_topOrder 0 = .ok (.aload_n 0, 1) := by decide +kernel
theorem dX4_topOrder_1 : decode cX4_topOrder 1 = .ok (.getfield 52, 3) := by decide +kernel
theorem dX4_topOrder_4 : decode cX4_topOrder 4 = .ok (.ireturn, 1) := by decide +kernel
theorem dX4_keyHere_0 : decode cX4_keyHere 0 = .ok (.iload_n 1, 1) := by decide +kernel
theorem dX4_keyHere_1 : decode cX4_keyHere 1 = .ok (.aload_n 0, 1) := by decide +kernel
theorem dX4_keyHere_2 : decode cX4_keyHere 2 = .ok (.getfield 67, 3) := by decide +kernel
theorem dX4_keyHere_5 : decode cX4_keyHere 5 = .ok (.aload_n 0, 1) := by decide +kernel
theorem dX4_keyHere_6 : decode cX4_keyHere 6 = .ok (.getfield 70, 3) := by decide +kernel
theorem dX4_keyHere_9 : decode cX4_keyHere 9 = .ok (.invokestatic 73, 3) := by decide +kernel
theorem dX4_keyHere_12 : decode cX4_keyHere 12 = .ok (.ireturn, 1) := by decide +kernel
theorem dX4_find_0 : decode cX4_find 0 = .ok (.iload_n 1, 1) := by decide +kernel
theorem dX4_find_1 : decode cX4_find 1 = .ok (.ifCond .ge 5, 3) := by decide +kernel
theorem dX4_find_4 : decode cX4_find 4 = .ok (.iconst (-1), 1) := by decide +kernel
theorem dX4_find_5 : decode cX4_find 5 = .ok (.ireturn, 1) := by decide +kernel
theorem dX4_find_6 : decode cX4_find 6 = .ok (.aload_n 0, 1) := by decide +kernel
theorem dX4_find_7 : decode cX4_find 7 = .ok (.getfield 40, 3) := by decide +kernel
theorem dX4_find_10 : decode cX4_find 10 = .ok (.iload_n 1, 1) := by decide +kernel
theorem dX4_find_11 : decode cX4_find 11 = .ok (.invokestatic 77, 3) := by decide +kernel
theorem dX4_find_14 : decode cX4_find 14 = .ok (.iaload, 1) := by decide +kernel
theorem dX4_find_15 : decode cX4_find 15 = .ok (.istore_n 2, 1) := by decide +kernel
theorem dX4_find_16 : decode cX4_find 16 = .ok (.iconst 0, 1) := by decide +kernel
theorem dX4_find_17 : decode cX4_find 17 = .ok (.istore_n 3, 1) := by decide +kernel
theorem dX4_find_18 : decode cX4_find 18 = .ok (.iload_n 3, 1) := by decide +kernel
theorem dX4_find_19 : decode cX4_find 19 = .ok (.aload_n 0, 1) := by decide +kernel
theorem dX4_find_20 : decode cX4_find 20 = .ok (.getfield 64, 3) := by decide +kernel
theorem dX4_find_23 : decode cX4_find 23 = .ok (.if_icmp .ge 36, 3) := by decide +kernel
theorem dX4_find_26 : decode cX4_find 26 = .ok (.aload_n 0, 1) := by decide +kernel
theorem dX4_find_27 : decode cX4_find 27 = .ok (.iload_n 2, 1) := by decide +kernel
theorem dX4_find_28 : decode cX4_find 28 = .ok (.invokevirtual 81, 3) := by decide +kernel
theorem dX4_find_31 : decode cX4_find 31 = .ok (.ifCond .eq 28, 3) := by decide +kernel
theorem dX4_find_34 : decode cX4_find 34 = .ok (.aload_n 0, 1) := by decide +kernel
theorem dX4_find_35 : decode cX4_find 35 = .ok (.getfield 25, 3) := by decide +kernel
theorem dX4_find_38 : decode cX4_find 38 = .ok (.iload_n 2, 1) := by decide +kernel
theorem dX4_find_39 : decode cX4_find 39 = .ok (.iaload, 1) := by decide +kernel
theorem dX4_find_40 : decode cX4_find 40 = .ok (.iload_n 1, 1) := by decide +kernel
theorem dX4_find_41 : decode cX4_find 41 = .ok (.if_icmp .ne 5, 3) := by decide +kernel
theorem dX4_find_44 : decode cX4_find 44 = .ok (.iload_n 2, 1) := by decide +kernel
theorem dX4_find_45 : decode cX4_find 45 = .ok (.ireturn, 1) := by decide +kernel
theorem dX4_find_46 : decode cX4_find 46 = .ok (.aload_n 0, 1) := by decide +kernel
theorem dX4_find_47 : decode cX4_find 47 = .ok (.getfield 37, 3) := by decide +kernel
theorem dX4_find_50 : decode cX4_find 50 = .ok (.iload_n 2, 1) := by decide +kernel
theorem dX4_find_51 : decode cX4_find 51 = .ok (.iaload, 1) := by decide +kernel
theorem dX4_find_52 : decode cX4_find 52 = .ok (.istore_n 2, 1) := by decide +kernel
theorem dX4_find_53 : decode cX4_find 53 = .ok (.iinc 3 1, 3) := by decide +kernel
theorem dX4_find_56 : decode cX4_find 56 = .ok (.goto (-38), 3) := by decide +kernel
theorem dX4_find_59 : decode cX4_find 59 = .ok (.iconst (-1), 1) := by decide +kernel
theorem dX4_find_60 : decode cX4_find 60 = .ok (.ireturn, 1) := by decide +kernel
theorem dX4_nodesIn_0 : decode cX4_nodesIn 0 = .ok (.aload_n 0, 1) := by decide +kernel
theorem dX4_nodesIn_1 : decode cX4_nodesIn 1 = .ok (.iload_n 1, 1) := by decide +kernel
theorem dX4_nodesIn_2 : decode cX4_nodesIn 2 = .ok (.invokevirtual 81, 3) := by decide +kernel
theorem dX4_nodesIn_5 : decode cX4_nodesIn 5 = .ok (.ifCond .eq 12, 3) := by decide +kernel
theorem dX4_nodesIn_8 : decode cX4_nodesIn 8 = .ok (.aload_n 0, 1) := by decide +kernel
theorem dX4_nodesIn_9 : decode cX4_nodesIn 9 = .ok (.getfield 34, 3) := by decide +kernel
theorem dX4_nodesIn_12 : decode cX4_nodesIn 12 = .ok (.iload_n 1, 1) := by decide +kernel
theorem dX4_nodesIn_13 : decode cX4_nodesIn 13 = .ok (.iaload, 1) := by decide +kernel
theorem dX4_nodesIn_14 : decode cX4_nodesIn 14 = .ok (.goto 4, 3) := by decide +kernel
theorem dX4_nodesIn_17 : decode cX4_nodesIn 17 = .ok (.iconst 0, 1) := by decide +kernel
theorem dX4_nodesIn_18 : decode cX4_nodesIn 18 = .ok (.ireturn, 1) := by decide +kernel
theorem dX4_firstNode_0 : decode cX4_firstNode 0 = .ok (.aload_n 0, 1) := by decide +kernel
theorem dX4_firstNode_1 : decode cX4_firstNode 1 = .ok (.iload_n 1, 1) := by decide +kernel
theorem dX4_firstNode_2 : decode cX4_firstNode 2 = .ok (.invokevirtual 81, 3) := by decide +kernel
theorem dX4_firstNode_5 : decode cX4_firstNode 5 = .ok (.ifCond .eq 12, 3) := by decide +kernel
theorem dX4_firstNode_8 : decode cX4_firstNode 8 = .ok (.aload_n 0, 1) := by decide +kernel
theorem dX4_firstNode_9 : decode cX4_firstNode 9 = .ok (.getfield 28, 3) := by decide +kernel
theorem dX4_firstNode_12 : decode cX4_firstNode 12 = .ok (.iload_n 1, 1) := by decide +kernel
theorem dX4_firstNode_13 : decode cX4_firstNode 13 = .ok (.iaload, 1) := by decide +kernel
theorem dX4_firstNode_14 : decode cX4_firstNode 14 = .ok (.goto 4, 3) := by decide +kernel
theorem dX4_firstNode_17 : decode cX4_firstNode 17 = .ok (.iconst (-1), 1) := by decide +kernel
theorem dX4_firstNode_18 : decode cX4_firstNode 18 = .ok (.ireturn, 1) := by decide +kernel
theorem dX4_nextNode_0 : decode cX4_nextNode 0 = .ok (.aload_n 0, 1) := by decide +kernel
theorem dX4_nextNode_1 : decode cX4_nextNode 1 = .ok (.iload_n 1, 1) := by decide +kernel
theorem dX4_nextNode_2 : decode cX4_nextNode 2 = .ok (.invokevirtual 85, 3) := by decide +kernel
theorem dX4_nextNode_5 : decode cX4_nextNode 5 = .ok (.ifCond .eq 12, 3) := by decide +kernel
theorem dX4_nextNode_8 : decode cX4_nextNode 8 = .ok (.aload_n 0, 1) := by decide +kernel
theorem dX4_nextNode_9 : decode cX4_nextNode 9 = .ok (.getfield 22, 3) := by decide +kernel
theorem dX4_nextNode_12 : decode cX4_nextNode 12 = .ok (.iload_n 1, 1) := by decide +kernel
theorem dX4_nextNode_13 : decode cX4_nextNode 13 = .ok (.iaload, 1) := by decide +kernel
theorem dX4_nextNode_14 : decode cX4_nextNode 14 = .ok (.goto 4, 3) := by decide +kernel
theorem dX4_nextNode_17 : decode cX4_nextNode 17 = .ok (.iconst (-1), 1) := by decide +kernel
theorem dX4_nextNode_18 : decode cX4_nextNode 18 = .ok (.ireturn, 1) := by decide +kernel
theorem dX4_byteOf_0 : decode cX4_byteOf 0 = .ok (.aload_n 0, 1) := by decide +kernel
theorem dX4_byteOf_1 : decode cX4_byteOf 1 = .ok (.iload_n 1, 1) := by decide +kernel
theorem dX4_byteOf_2 : decode cX4_byteOf 2 = .ok (.invokevirtual 85, 3) := by decide +kernel
theorem dX4_byteOf_5 : decode cX4_byteOf 5 = .ok (.ifCond .eq 12, 3) := by decide +kernel
theorem dX4_byteOf_8 : decode cX4_byteOf 8 = .ok (.aload_n 0, 1) := by decide +kernel
theorem dX4_byteOf_9 : decode cX4_byteOf 9 = .ok (.getfield 15, 3) := by decide +kernel
theorem dX4_byteOf_12 : decode cX4_byteOf 12 = .ok (.iload_n 1, 1) := by decide +kernel
theorem dX4_byteOf_13 : decode cX4_byteOf 13 = .ok (.iaload, 1) := by decide +kernel
theorem dX4_byteOf_14 : decode cX4_byteOf 14 = .ok (.goto 4, 3) := by decide +kernel
theorem dX4_byteOf_17 : decode cX4_byteOf 17 = .ok (.iconst (-1), 1) := by decide +kernel
theorem dX4_byteOf_18 : decode cX4_byteOf 18 = .ok (.ireturn, 1) := by decide +kernel
theorem dX4_countOf_0 : decode cX4_countOf 0 = .ok (.aload_n 0, 1) := by decide +kernel
theorem dX4_countOf_1 : decode cX4_countOf 1 = .ok (.iload_n 1, 1) := by decide +kernel
theorem dX4_countOf_2 : decode cX4_countOf 2 = .ok (.invokevirtual 85, 3) := by decide +kernel
theorem dX4_countOf_5 : decode cX4_countOf 5 = .ok (.ifCond .eq 12, 3) := by decide +kernel
theorem dX4_countOf_8 : decode cX4_countOf 8 = .ok (.aload_n 0, 1) := by decide +kernel
theorem dX4_countOf_9 : decode cX4_countOf 9 = .ok (.getfield 19, 3) := by decide +kernel
theorem dX4_countOf_12 : decode cX4_countOf 12 = .ok (.iload_n 1, 1) := by decide +kernel
theorem dX4_countOf_13 : decode cX4_countOf 13 = .ok (.iaload, 1) := by decide +kernel
theorem dX4_countOf_14 : decode cX4_countOf 14 = .ok (.goto 4, 3) := by decide +kernel
theorem dX4_countOf_17 : decode cX4_countOf 17 = .ok (.iconst 0, 1) := by decide +kernel
theorem dX4_countOf_18 : decode cX4_countOf 18 = .ok (.ireturn, 1) := by decide +kernel
theorem dX4_nodeOfByte_0 : decode cX4_nodeOfByte 0 = .ok (.aload_n 0, 1) := by decide +kernel
theorem dX4_nodeOfByte_1 : decode cX4_nodeOfByte 1 = .ok (.iload_n 1, 1) := by decide +kernel
theorem dX4_nodeOfByte_2 : decode cX4_nodeOfByte 2 = .ok (.invokevirtual 88, 3) := by decide +kernel
theorem dX4_nodeOfByte_5 : decode cX4_nodeOfByte 5 = .ok (.istore_n 3, 1) := by decide +kernel
theorem dX4_nodeOfByte_6 : decode cX4_nodeOfByte 6 = .ok (.aload_n 0, 1) := by decide +kernel
theorem dX4_nodeOfByte_7 : decode cX4_nodeOfByte 7 = .ok (.iload_n 1, 1) := by decide +kernel
theorem dX4_nodeOfByte_8 : decode cX4_nodeOfByte 8 = .ok (.invokevirtual 91, 3) := by decide +kernel
theorem dX4_nodeOfByte_11 : decode cX4_nodeOfByte 11 = .ok (.istore 4, 2) := by decide +kernel
theorem dX4_nodeOfByte_13 : decode cX4_nodeOfByte 13 = .ok (.iload 4, 2) := by decide +kernel
theorem dX4_nodeOfByte_15 : decode cX4_nodeOfByte 15 = .ok (.ifCond .le 26, 3) := by decide +kernel
theorem dX4_nodeOfByte_18 : decode cX4_nodeOfByte 18 = .ok (.aload_n 0, 1) := by decide +kernel
theorem dX4_nodeOfByte_19 : decode cX4_nodeOfByte 19 = .ok (.iload_n 3, 1) := by decide +kernel
theorem dX4_nodeOfByte_20 : decode cX4_nodeOfByte 20 = .ok (.invokevirtual 94, 3) := by decide +kernel
theorem dX4_nodeOfByte_23 : decode cX4_nodeOfByte 23 = .ok (.iload_n 2, 1) := by decide +kernel
theorem dX4_nodeOfByte_24 : decode cX4_nodeOfByte 24 = .ok (.if_icmp .ne 5, 3) := by decide +kernel
theorem dX4_nodeOfByte_27 : decode cX4_nodeOfByte 27 = .ok (.iload_n 3, 1) := by decide +kernel
theorem dX4_nodeOfByte_28 : decode cX4_nodeOfByte 28 = .ok (.ireturn, 1) := by decide +kernel
theorem dX4_nodeOfByte_29 : decode cX4_nodeOfByte 29 = .ok (.aload_n 0, 1) := by decide +kernel
theorem dX4_nodeOfByte_30 : decode cX4_nodeOfByte 30 = .ok (.iload_n 3, 1) := by decide +kernel
theorem dX4_nodeOfByte_31 : decode cX4_nodeOfByte 31 = .ok (.invokevirtual 97, 3) := by decide +kernel
theorem dX4_nodeOfByte_34 : decode cX4_nodeOfByte 34 = .ok (.istore_n 3, 1) := by decide +kernel
theorem dX4_nodeOfByte_35 : decode cX4_nodeOfByte 35 = .ok (.iinc 4 (-1), 3) := by decide +kernel
theorem dX4_nodeOfByte_38 : decode cX4_nodeOfByte 38 = .ok (.goto (-25), 3) := by decide +kernel
theorem dX4_nodeOfByte_41 : decode cX4_nodeOfByte 41 = .ok (.iconst (-1), 1) := by decide +kernel
theorem dX4_nodeOfByte_42 : decode cX4_nodeOfByte 42 = .ok (.ireturn, 1) := by decide +kernel
theorem dX4_nodeAt_0 : decode cX4_nodeAt 0 = .ok (.iload_n 2, 1) := by decide +kernel
theorem dX4_nodeAt_1 : decode cX4_nodeAt 1 = .ok (.ifCond .lt 12, 3) := by decide +kernel
theorem dX4_nodeAt_4 : decode cX4_nodeAt 4 = .ok (.iload_n 2, 1) := by decide +kernel
theorem dX4_nodeAt_5 : decode cX4_nodeAt 5 = .ok (.aload_n 0, 1) := by decide +kernel
theorem dX4_nodeAt_6 : decode cX4_nodeAt 6 = .ok (.iload_n 1, 1) := by decide +kernel
theorem dX4_nodeAt_7 : decode cX4_nodeAt 7 = .ok (.invokevirtual 91, 3) := by decide +kernel
theorem dX4_nodeAt_10 : decode cX4_nodeAt 10 = .ok (.if_icmp .lt 5, 3) := by decide +kernel
theorem dX4_nodeAt_13 : decode cX4_nodeAt 13 = .ok (.iconst (-1), 1) := by decide +kernel
theorem dX4_nodeAt_14 : decode cX4_nodeAt 14 = .ok (.ireturn, 1) := by decide +kernel
theorem dX4_nodeAt_15 : decode cX4_nodeAt 15 = .ok (.aload_n 0, 1) := by decide +kernel
theorem dX4_nodeAt_16 : decode cX4_nodeAt 16 = .ok (.iload_n 1, 1) := by decide +kernel
theorem dX4_nodeAt_17 : decode cX4_nodeAt 17 = .ok (.invokevirtual 88, 3) := by decide +kernel
theorem dX4_nodeAt_20 : decode cX4_nodeAt 20 = .ok (.istore_n 3, 1) := by decide +kernel
theorem dX4_nodeAt_21 : decode cX4_nodeAt 21 = .ok (.iconst 0, 1) := by decide +kernel
theorem dX4_nodeAt_22 : decode cX4_nodeAt 22 = .ok (.istore 4, 2) := by decide +kernel
theorem dX4_nodeAt_24 : decode cX4_nodeAt 24 = .ok (.iload 4, 2) := by decide +kernel
theorem dX4_nodeAt_26 : decode cX4_nodeAt 26 = .ok (.iload_n 2, 1) := by decide +kernel
theorem dX4_nodeAt_27 : decode cX4_nodeAt 27 = .ok (.if_icmp .ge 15, 3) := by decide +kernel
theorem dX4_nodeAt_30 : decode cX4_nodeAt 30 = .ok (.aload_n 0, 1) := by decide +kernel
theorem dX4_nodeAt_31 : decode cX4_nodeAt 31 = .ok (.iload_n 3, 1) := by decide +kernel
theorem dX4_nodeAt_32 : decode cX4_nodeAt 32 = .ok (.invokevirtual 97, 3) := by decide +kernel
theorem dX4_nodeAt_35 : decode cX4_nodeAt 35 = .ok (.istore_n 3, 1) := by decide +kernel
theorem dX4_nodeAt_36 : decode cX4_nodeAt 36 = .ok (.iinc 4 1, 3) := by decide +kernel
theorem dX4_nodeAt_39 : decode cX4_nodeAt 39 = .ok (.goto (-15), 3) := by decide +kernel
theorem dX4_nodeAt_42 : decode cX4_nodeAt 42 = .ok (.iload_n 3, 1) := by decide +kernel
theorem dX4_nodeAt_43 : decode cX4_nodeAt 43 = .ok (.ireturn, 1) := by decide +kernel
theorem dX4_learn_0 : decode cX4_learn 0 = .ok (.iload_n 2, 1) := by decide +kernel
theorem dX4_learn_1 : decode cX4_learn 1 = .ok (.iconst 0, 1) := by decide +kernel
theorem dX4_learn_2 : decode cX4_learn 2 = .ok (.invokestatic 100, 3) := by decide +kernel
theorem dX4_learn_5 : decode cX4_learn 5 = .ok (.istore_n 3, 1) := by decide +kernel
theorem dX4_learn_6 : decode cX4_learn 6 = .ok (.aload_n 0, 1) := by decide +kernel
theorem dX4_learn_7 : decode cX4_learn 7 = .ok (.getfield 52, 3) := by decide +kernel
theorem dX4_learn_10 : decode cX4_learn 10 = .ok (.istore 4, 2) := by decide +kernel
theorem dX4_learn_12 : decode cX4_learn 12 = .ok (.iload 4, 2) := by decide +kernel
theorem dX4_learn_14 : decode cX4_learn 14 = .ok (.iload_n 3, 1) := by decide +kernel
theorem dX4_learn_15 : decode cX4_learn 15 = .ok (.if_icmp .lt 26, 3) := by decide +kernel
theorem dX4_learn_18 : decode cX4_learn 18 = .ok (.aload_n 0, 1) := by decide +kernel
theorem dX4_learn_19 : decode cX4_learn 19 = .ok (.aload_n 0, 1) := by decide +kernel
theorem dX4_learn_20 : decode cX4_learn 20 = .ok (.iload 4, 2) := by decide +kernel
theorem dX4_learn_22 : decode cX4_learn 22 = .ok (.invokevirtual 106, 3) := by decide +kernel
theorem dX4_learn_25 : decode cX4_learn 25 = .ok (.iload_n 1, 1) := by decide +kernel
theorem dX4_learn_26 : decode cX4_learn 26 = .ok (.invokevirtual 109, 3) := by decide +kernel
theorem dX4_learn_29 : decode cX4_learn 29 = .ok (.ifCond .ne 6, 3) := by decide +kernel
theorem dX4_learn_32 : decode cX4_learn 32 = .ok (.goto 9, 3) := by decide +kernel
theorem dX4_learn_35 : decode cX4_learn 35 = .ok (.iinc 4 (-1), 3) := by decide +kernel
theorem dX4_learn_38 : decode cX4_learn 38 = .ok (.goto (-26), 3) := by decide +kernel
theorem dX4_learn_41 : decode cX4_learn 41 = .ok (.aload_n 0, 1) := by decide +kernel
theorem dX4_learn_42 : decode cX4_learn 42 = .ok (.aload_n 0, 1) := by decide +kernel
theorem dX4_learn_43 : decode cX4_learn 43 = .ok (.getfield 67, 3) := by decide +kernel
theorem dX4_learn_46 : decode cX4_learn 46 = .ok (.putfield 70, 3) := by decide +kernel
theorem dX4_learn_49 : decode cX4_learn 49 = .ok (.aload_n 0, 1) := by decide +kernel
theorem dX4_learn_50 : decode cX4_learn 50 = .ok (.iload_n 1, 1) := by decide +kernel
theorem dX4_learn_51 : decode cX4_learn 51 = .ok (.putfield 67, 3) := by decide +kernel
theorem dX4_learn_54 : decode cX4_learn 54 = .ok (.aload_n 0, 1) := by decide +kernel
theorem dX4_learn_55 : decode cX4_learn 55 = .ok (.aload_n 0, 1) := by decide +kernel
theorem dX4_learn_56 : decode cX4_learn 56 = .ok (.getfield 52, 3) := by decide +kernel
theorem dX4_learn_59 : decode cX4_learn 59 = .ok (.iconst 1, 1) := by decide +kernel
theorem dX4_learn_60 : decode cX4_learn 60 = .ok (.iadd, 1) := by decide +kernel
theorem dX4_learn_61 : decode cX4_learn 61 = .ok (.iconst 2, 1) := by decide +kernel
theorem dX4_learn_62 : decode cX4_learn 62 = .ok (.invokestatic 113, 3) := by decide +kernel
theorem dX4_learn_65 : decode cX4_learn 65 = .ok (.putfield 52, 3) := by decide +kernel
theorem dX4_learn_68 : decode cX4_learn 68 = .ok (.return_, 1) := by decide +kernel
theorem dX4_learnIn_0 : decode cX4_learnIn 0 = .ok (.aload_n 0, 1) := by decide +kernel
theorem dX4_learnIn_1 : decode cX4_learnIn 1 = .ok (.iload_n 1, 1) := by decide +kernel
theorem dX4_learnIn_2 : decode cX4_learnIn 2 = .ok (.invokevirtual 116, 3) := by decide +kernel
theorem dX4_learnIn_5 : decode cX4_learnIn 5 = .ok (.istore_n 3, 1) := by decide +kernel
theorem dX4_learnIn_6 : decode cX4_learnIn 6 = .ok (.aload_n 0, 1) := by decide +kernel
theorem dX4_learnIn_7 : decode cX4_learnIn 7 = .ok (.iload_n 3, 1) := by decide +kernel
theorem dX4_learnIn_8 : decode cX4_learnIn 8 = .ok (.iload_n 2, 1) := by decide +kernel
theorem dX4_learnIn_9 : decode cX4_learnIn 9 = .ok (.invokevirtual 119, 3) := by decide +kernel
theorem dX4_learnIn_12 : decode cX4_learnIn 12 = .ok (.istore 4, 2) := by decide +kernel
theorem dX4_learnIn_14 : decode cX4_learnIn 14 = .ok (.aload_n 0, 1) := by decide +kernel
theorem dX4_learnIn_15 : decode cX4_learnIn 15 = .ok (.iload 4, 2) := by decide +kernel
theorem dX4_learnIn_17 : decode cX4_learnIn 17 = .ok (.invokevirtual 85, 3) := by decide +kernel
theorem dX4_learnIn_20 : decode cX4_learnIn 20 = .ok (.ifCond .eq 34, 3) := by decide +kernel
theorem dX4_learnIn_23 : decode cX4_learnIn 23 = .ok (.aload_n 0, 1) := by decide +kernel
theorem dX4_learnIn_24 : decode cX4_learnIn 24 = .ok (.getfield 19, 3) := by decide +kernel
theorem dX4_learnIn_27 : decode cX4_learnIn 27 = .ok (.iload 4, 2) := by decide +kernel
theorem dX4_learnIn_29 : decode cX4_learnIn 29 = .ok (.iaload, 1) := by decide +kernel
theorem dX4_learnIn_30 : decode cX4_learnIn 30 = .ok (.sipush 255, 3) := by decide +kernel
theorem dX4_learnIn_33 : decode cX4_learnIn 33 = .ok (.if_icmp .lt 8, 3) := by decide +kernel
theorem dX4_learnIn_36 : decode cX4_learnIn 36 = .ok (.aload_n 0, 1) := by decide +kernel
theorem dX4_learnIn_37 : decode cX4_learnIn 37 = .ok (.iload_n 3, 1) := by decide +kernel
theorem dX4_learnIn_38 : decode cX4_learnIn 38 = .ok (.invokevirtual 122, 3) := by decide +kernel
theorem dX4_learnIn_41 : decode cX4_learnIn 41 = .ok (.aload_n 0, 1) := by decide +kernel
theorem dX4_learnIn_42 : decode cX4_learnIn 42 = .ok (.getfield 19, 3) := by decide +kernel
theorem dX4_learnIn_45 : decode cX4_learnIn 45 = .ok (.iload 4, 2) := by decide +kernel
theorem dX4_learnIn_47 : decode cX4_learnIn 47 = .ok (.dup2, 1) := by decide +kernel
theorem dX4_learnIn_48 : decode cX4_learnIn 48 = .ok (.iaload, 1) := by decide +kernel
theorem dX4_learnIn_49 : decode cX4_learnIn 49 = .ok (.iconst 1, 1) := by decide +kernel
theorem dX4_learnIn_50 : decode cX4_learnIn 50 = .ok (.iadd, 1) := by decide +kernel
theorem dX4_learnIn_51 : decode cX4_learnIn 51 = .ok (.iastore, 1) := by decide +kernel
theorem dX4_learnIn_52 : decode cX4_learnIn 52 = .ok (.iconst 1, 1) := by decide +kernel
theorem dX4_learnIn_53 : decode cX4_learnIn 53 = .ok (.ireturn, 1) := by decide +kernel
theorem dX4_learnIn_54 : decode cX4_learnIn 54 = .ok (.aload_n 0, 1) := by decide +kernel
theorem dX4_learnIn_55 : decode cX4_learnIn 55 = .ok (.getfield 61, 3) := by decide +kernel
theorem dX4_learnIn_58 : decode cX4_learnIn 58 = .ok (.aload_n 0, 1) := by decide +kernel
theorem dX4_learnIn_59 : decode cX4_learnIn 59 = .ok (.getfield 9, 3) := by decide +kernel
theorem dX4_learnIn_62 : decode cX4_learnIn 62 = .ok (.if_icmp .lt 19, 3) := by decide +kernel
theorem dX4_learnIn_65 : decode cX4_learnIn 65 = .ok (.aload_n 0, 1) := by decide +kernel
theorem dX4_learnIn_66 : decode cX4_learnIn 66 = .ok (.invokevirtual 49, 3) := by decide +kernel
theorem dX4_learnIn_69 : decode cX4_learnIn 69 = .ok (.aload_n 0, 1) := by decide +kernel
theorem dX4_learnIn_70 : decode cX4_learnIn 70 = .ok (.dup, 1) := by decide +kernel
theorem dX4_learnIn_71 : decode cX4_learnIn 71 = .ok (.getfield 58, 3) := by decide +kernel
theorem dX4_learnIn_74 : decode cX4_learnIn 74 = .ok (.iconst 1, 1) := by decide +kernel
theorem dX4_learnIn_75 : decode cX4_learnIn 75 = .ok (.iadd, 1) := by decide +kernel
theorem dX4_learnIn_76 : decode cX4_learnIn 76 = .ok (.putfield 58, 3) := by decide +kernel
theorem dX4_learnIn_79 : decode cX4_learnIn 79 = .ok (.iconst 0, 1) := by decide +kernel
theorem dX4_learnIn_80 : decode cX4_learnIn 80 = .ok (.ireturn, 1) := by decide +kernel
theorem dX4_learnIn_81 : decode cX4_learnIn 81 = .ok (.aload_n 0, 1) := by decide +kernel
theorem dX4_learnIn_82 : decode cX4_learnIn 82 = .ok (.aload_n 0, 1) := by decide +kernel
theorem dX4_learnIn_83 : decode cX4_learnIn 83 = .ok (.iload_n 3, 1) := by decide +kernel
theorem dX4_learnIn_84 : decode cX4_learnIn 84 = .ok (.invokevirtual 81, 3) := by decide +kernel
theorem dX4_learnIn_87 : decode cX4_learnIn 87 = .ok (.ifCond .eq 7, 3) := by decide +kernel
theorem dX4_learnIn_90 : decode cX4_learnIn 90 = .ok (.iload_n 3, 1) := by decide +kernel
theorem dX4_learnIn_91 : decode cX4_learnIn 91 = .ok (.goto 8, 3) := by decide +kernel
theorem dX4_learnIn_94 : decode cX4_learnIn 94 = .ok (.aload_n 0, 1) := by decide +kernel
theorem dX4_learnIn_95 : decode cX4_learnIn 95 = .ok (.iload_n 1, 1) := by decide +kernel
theorem dX4_learnIn_96 : decode cX4_learnIn 96 = .ok (.invokevirtual 126, 3) := by decide +kernel
theorem dX4_learnIn_99 : decode cX4_learnIn 99 = .ok (.iload_n 2, 1) := by decide +kernel
theorem dX4_learnIn_100 : decode cX4_learnIn 100 = .ok (.invokevirtual 129, 3) := by decide +kernel
theorem dX4_learnIn_103 : decode cX4_learnIn 103 = .ok (.iconst 1, 1) := by decide +kernel
theorem dX4_learnIn_104 : decode cX4_learnIn 104 = .ok (.ireturn, 1) := by decide +kernel
theorem dX4_rescale_0 : decode cX4_rescale 0 = .ok (.aload_n 0, 1) := by decide +kernel
theorem dX4_rescale_1 : decode cX4_rescale 1 = .ok (.iload_n 1, 1) := by decide +kernel
theorem dX4_rescale_2 : decode cX4_rescale 2 = .ok (.invokevirtual 88, 3) := by decide +kernel
theorem dX4_rescale_5 : decode cX4_rescale 5 = .ok (.istore_n 2, 1) := by decide +kernel
theorem dX4_rescale_6 : decode cX4_rescale 6 = .ok (.aload_n 0, 1) := by decide +kernel
theorem dX4_rescale_7 : decode cX4_rescale 7 = .ok (.iload_n 1, 1) := by decide +kernel
theorem dX4_rescale_8 : decode cX4_rescale 8 = .ok (.invokevirtual 91, 3) := by decide +kernel
theorem dX4_rescale_11 : decode cX4_rescale 11 = .ok (.istore_n 3, 1) := by decide +kernel
theorem dX4_rescale_12 : decode cX4_rescale 12 = .ok (.iload_n 3, 1) := by decide +kernel
theorem dX4_rescale_13 : decode cX4_rescale 13 = .ok (.ifCond .le 40, 3) := by decide +kernel
theorem dX4_rescale_16 : decode cX4_rescale 16 = .ok (.aload_n 0, 1) := by decide +kernel
theorem dX4_rescale_17 : decode cX4_rescale 17 = .ok (.iload_n 2, 1) := by decide +kernel
theorem dX4_rescale_18 : decode cX4_rescale 18 = .ok (.invokevirtual 85, 3) := by decide +kernel
theorem dX4_rescale_21 : decode cX4_rescale 21 = .ok (.ifCond .eq 32, 3) := by decide +kernel
theorem dX4_rescale_24 : decode cX4_rescale 24 = .ok (.aload_n 0, 1) := by decide +kernel
theorem dX4_rescale_25 : decode cX4_rescale 25 = .ok (.getfield 19, 3) := by decide +kernel
theorem dX4_rescale_28 : decode cX4_rescale 28 = .ok (.iload_n 2, 1) := by decide +kernel
theorem dX4_rescale_29 : decode cX4_rescale 29 = .ok (.aload_n 0, 1) := by decide +kernel
theorem dX4_rescale_30 : decode cX4_rescale 30 = .ok (.getfield 19, 3) := by decide +kernel
theorem dX4_rescale_33 : decode cX4_rescale 33 = .ok (.iload_n 2, 1) := by decide +kernel
theorem dX4_rescale_34 : decode cX4_rescale 34 = .ok (.iaload, 1) := by decide +kernel
theorem dX4_rescale_35 : decode cX4_rescale 35 = .ok (.iconst 1, 1) := by decide +kernel
theorem dX4_rescale_36 : decode cX4_rescale 36 = .ok (.iadd, 1) := by decide +kernel
theorem dX4_rescale_37 : decode cX4_rescale 37 = .ok (.iconst 2, 1) := by decide +kernel
theorem dX4_rescale_38 : decode cX4_rescale 38 = .ok (.idiv, 1) := by decide +kernel
theorem dX4_rescale_39 : decode cX4_rescale 39 = .ok (.iastore, 1) := by decide +kernel
theorem dX4_rescale_40 : decode cX4_rescale 40 = .ok (.aload_n 0, 1) := by decide +kernel
theorem dX4_rescale_41 : decode cX4_rescale 41 = .ok (.getfield 22, 3) := by decide +kernel
theorem dX4_rescale_44 : decode cX4_rescale 44 = .ok (.iload_n 2, 1) := by decide +kernel
theorem dX4_rescale_45 : decode cX4_rescale 45 = .ok (.iaload, 1) := by decide +kernel
theorem dX4_rescale_46 : decode cX4_rescale 46 = .ok (.istore_n 2, 1) := by decide +kernel
theorem dX4_rescale_47 : decode cX4_rescale 47 = .ok (.iinc 3 (-1), 3) := by decide +kernel
theorem dX4_rescale_50 : decode cX4_rescale 50 = .ok (.goto (-38), 3) := by decide +kernel
theorem dX4_rescale_53 : decode cX4_rescale 53 = .ok (.aload_n 0, 1) := by decide +kernel
theorem dX4_rescale_54 : decode cX4_rescale 54 = .ok (.dup, 1) := by decide +kernel
theorem dX4_rescale_55 : decode cX4_rescale 55 = .ok (.getfield 55, 3) := by decide +kernel
theorem dX4_rescale_58 : decode cX4_rescale 58 = .ok (.iconst 1, 1) := by decide +kernel
theorem dX4_rescale_59 : decode cX4_rescale 59 = .ok (.iadd, 1) := by decide +kernel
theorem dX4_rescale_60 : decode cX4_rescale 60 = .ok (.putfield 55, 3) := by decide +kernel
theorem dX4_rescale_63 : decode cX4_rescale 63 = .ok (.return_, 1) := by decide +kernel
theorem dX4_addNode_0 : decode cX4_addNode 0 = .ok (.aload_n 0, 1) := by decide +kernel
theorem dX4_addNode_1 : decode cX4_addNode 1 = .ok (.iload_n 1, 1) := by decide +kernel
theorem dX4_addNode_2 : decode cX4_addNode 2 = .ok (.invokevirtual 81, 3) := by decide +kernel
theorem dX4_addNode_5 : decode cX4_addNode 5 = .ok (.ifCond .ne 4, 3) := by decide +kernel
theorem dX4_addNode_8 : decode cX4_addNode 8 = .ok (.return_, 1) := by decide +kernel
theorem dX4_addNode_9 : decode cX4_addNode 9 = .ok (.aload_n 0, 1) := by decide +kernel
theorem dX4_addNode_10 : decode cX4_addNode 10 = .ok (.invokevirtual 133, 3) := by decide +kernel
theorem dX4_addNode_13 : decode cX4_addNode 13 = .ok (.aload_n 0, 1) := by decide +kernel
theorem dX4_addNode_14 : decode cX4_addNode 14 = .ok (.getfield 61, 3) := by decide +kernel
theorem dX4_addNode_17 : decode cX4_addNode 17 = .ok (.istore_n 3, 1) := by decide +kernel
theorem dX4_addNode_18 : decode cX4_addNode 18 = .ok (.aload_n 0, 1) := by decide +kernel
theorem dX4_addNode_19 : decode cX4_addNode 19 = .ok (.dup, 1) := by decide +kernel
theorem dX4_addNode_20 : decode cX4_addNode 20 = .ok (.getfield 61, 3) := by decide +kernel
theorem dX4_addNode_23 : decode cX4_addNode 23 = .ok (.iconst 1, 1) := by decide +kernel
theorem dX4_addNode_24 : decode cX4_addNode 24 = .ok (.iadd, 1) := by decide +kernel
theorem dX4_addNode_25 : decode cX4_addNode 25 = .ok (.putfield 61, 3) := by decide +kernel
theorem dX4_addNode_28 : decode cX4_addNode 28 = .ok (.aload_n 0, 1) := by decide +kernel
theorem dX4_addNode_29 : decode cX4_addNode 29 = .ok (.getfield 15, 3) := by decide +kernel
theorem dX4_addNode_32 : decode cX4_addNode 32 = .ok (.iload_n 3, 1) := by decide +kernel
theorem dX4_addNode_33 : decode cX4_addNode 33 = .ok (.iload_n 2, 1) := by decide +kernel
theorem dX4_addNode_34 : decode cX4_addNode 34 = .ok (.iastore, 1) := by decide +kernel
theorem dX4_addNode_35 : decode cX4_addNode 35 = .ok (.aload_n 0, 1) := by decide +kernel
theorem dX4_addNode_36 : decode cX4_addNode 36 = .ok (.getfield 19, 3) := by decide +kernel
theorem dX4_addNode_39 : decode cX4_addNode 39 = .ok (.iload_n 3, 1) := by decide +kernel
theorem dX4_addNode_40 : decode cX4_addNode 40 = .ok (.iconst 1, 1) := by decide +kernel
theorem dX4_addNode_41 : decode cX4_addNode 41 = .ok (.iastore, 1) := by decide +kernel
theorem dX4_addNode_42 : decode cX4_addNode 42 = .ok (.aload_n 0, 1) := by decide +kernel
theorem dX4_addNode_43 : decode cX4_addNode 43 = .ok (.getfield 22, 3) := by decide +kernel
theorem dX4_addNode_46 : decode cX4_addNode 46 = .ok (.iload_n 3, 1) := by decide +kernel
theorem dX4_addNode_47 : decode cX4_addNode 47 = .ok (.iconst (-1), 1) := by decide +kernel
theorem dX4_addNode_48 : decode cX4_addNode 48 = .ok (.iastore, 1) := by decide +kernel
theorem dX4_addNode_49 : decode cX4_addNode 49 = .ok (.aload_n 0, 1) := by decide +kernel
theorem dX4_addNode_50 : decode cX4_addNode 50 = .ok (.getfield 31, 3) := by decide +kernel
theorem dX4_addNode_53 : decode cX4_addNode 53 = .ok (.iload_n 1, 1) := by decide +kernel
theorem dX4_addNode_54 : decode cX4_addNode 54 = .ok (.iaload, 1) := by decide +kernel
theorem dX4_addNode_55 : decode cX4_addNode 55 = .ok (.istore 4, 2) := by decide +kernel
theorem dX4_addNode_57 : decode cX4_addNode 57 = .ok (.aload_n 0, 1) := by decide +kernel
theorem dX4_addNode_58 : decode cX4_addNode 58 = .ok (.iload 4, 2) := by decide +kernel
theorem dX4_addNode_60 : decode cX4_addNode 60 = .ok (.invokevirtual 85, 3) := by decide +kernel
theorem dX4_addNode_63 : decode cX4_addNode 63 = .ok (.ifCond .eq 14, 3) := by decide +kernel
theorem dX4_addNode_66 : decode cX4_addNode 66 = .ok (.aload_n 0, 1) := by decide +kernel
theorem dX4_addNode_67 : decode cX4_addNode 67 = .ok (.getfield 22, 3) := by decide +kernel
theorem dX4_addNode_70 : decode cX4_addNode 70 = .ok (.iload 4, 2) := by decide +kernel
theorem dX4_addNode_72 : decode cX4_addNode 72 = .ok (.iload_n 3, 1) := by decide +kernel
theorem dX4_addNode_73 : decode cX4_addNode 73 = .ok (.iastore, 1) := by decide +kernel
theorem dX4_addNode_74 : decode cX4_addNode 74 = .ok (.goto 10, 3) := by decide +kernel
theorem dX4_addNode_77 : decode cX4_addNode 77 = .ok (.aload_n 0, 1) := by decide +kernel
theorem dX4_addNode_78 : decode cX4_addNode 78 = .ok (.getfield 28, 3) := by decide +kernel
theorem dX4_addNode_81 : decode cX4_addNode 81 = .ok (.iload_n 1, 1) := by decide +kernel
theorem dX4_addNode_82 : decode cX4_addNode 82 = .ok (.iload_n 3, 1) := by decide +kernel
theorem dX4_addNode_83 : decode cX4_addNode 83 = .ok (.iastore, 1) := by decide +kernel
theorem dX4_addNode_84 : decode cX4_addNode 84 = .ok (.aload_n 0, 1) := by decide +kernel
theorem dX4_addNode_85 : decode cX4_addNode 85 = .ok (.getfield 31, 3) := by decide +kernel
theorem dX4_addNode_88 : decode cX4_addNode 88 = .ok (.iload_n 1, 1) := by decide +kernel
theorem dX4_addNode_89 : decode cX4_addNode 89 = .ok (.iload_n 3, 1) := by decide +kernel
theorem dX4_addNode_90 : decode cX4_addNode 90 = .ok (.iastore, 1) := by decide +kernel
theorem dX4_addNode_91 : decode cX4_addNode 91 = .ok (.aload_n 0, 1) := by decide +kernel
theorem dX4_addNode_92 : decode cX4_addNode 92 = .ok (.getfield 34, 3) := by decide +kernel
theorem dX4_addNode_95 : decode cX4_addNode 95 = .ok (.iload_n 1, 1) := by decide +kernel
theorem dX4_addNode_96 : decode cX4_addNode 96 = .ok (.dup2, 1) := by decide +kernel
theorem dX4_addNode_97 : decode cX4_addNode 97 = .ok (.iaload, 1) := by decide +kernel
theorem dX4_addNode_98 : decode cX4_addNode 98 = .ok (.iconst 1, 1) := by decide +kernel
theorem dX4_addNode_99 : decode cX4_addNode 99 = .ok (.iadd, 1) := by decide +kernel
theorem dX4_addNode_100 : decode cX4_addNode 100 = .ok (.iastore, 1) := by decide +kernel
theorem dX4_addNode_101 : decode cX4_addNode 101 = .ok (.return_, 1) := by decide +kernel
theorem dX4_addContext_0 : decode cX4_addContext 0 = .ok (.aload_n 0, 1) := by decide +kernel
theorem dX4_addContext_1 : decode cX4_addContext 1 = .ok (.invokevirtual 136, 3) := by decide +kernel
theorem dX4_addContext_4 : decode cX4_addContext 4 = .ok (.aload_n 0, 1) := by decide +kernel
theorem dX4_addContext_5 : decode cX4_addContext 5 = .ok (.getfield 64, 3) := by decide +kernel
theorem dX4_addContext_8 : decode cX4_addContext 8 = .ok (.istore_n 2, 1) := by decide +kernel
theorem dX4_addContext_9 : decode cX4_addContext 9 = .ok (.aload_n 0, 1) := by decide +kernel
theorem dX4_addContext_10 : decode cX4_addContext 10 = .ok (.dup, 1) := by decide +kernel
theorem dX4_addContext_11 : decode cX4_addContext 11 = .ok (.getfield 64, 3) := by decide +kernel
theorem dX4_addContext_14 : decode cX4_addContext 14 = .ok (.iconst 1, 1) := by decide +kernel
theorem dX4_addContext_15 : decode cX4_addContext 15 = .ok (.iadd, 1) := by decide +kernel
theorem dX4_addContext_16 : decode cX4_addContext 16 = .ok (.putfield 64, 3) := by decide +kernel
theorem dX4_addContext_19 : decode cX4_addContext 19 = .ok (.iload_n 1, 1) := by decide +kernel
theorem dX4_addContext_20 : decode cX4_addContext 20 = .ok (.invokestatic 77, 3) := by decide +kernel
theorem dX4_addContext_23 : decode cX4_addContext 23 = .ok (.istore_n 3, 1) := by decide +kernel
theorem dX4_addContext_24 : decode cX4_addContext 24 = .ok (.aload_n 0, 1) := by decide +kernel
theorem dX4_addContext_25 : decode cX4_addContext 25 = .ok (.getfield 25, 3) := by decide +kernel
theorem dX4_addContext_28 : decode cX4_addContext 28 = .ok (.iload_n 2, 1) := by decide +kernel
theorem dX4_addContext_29 : decode cX4_addContext 29 = .ok (.iload_n 1, 1) := by decide +kernel
theorem dX4_addContext_30 : decode cX4_addContext 30 = .ok (.iastore, 1) := by decide +kernel
theorem dX4_addContext_31 : decode cX4_addContext 31 = .ok (.aload_n 0, 1) := by decide +kernel
theorem dX4_addContext_32 : decode cX4_addContext 32 = .ok (.getfield 28, 3) := by decide +kernel
theorem dX4_addContext_35 : decode cX4_addContext 35 = .ok (.iload_n 2, 1) := by decide +kernel
theorem dX4_addContext_36 : decode cX4_addContext 36 = .ok (.iconst (-1), 1) := by decide +kernel
theorem dX4_addContext_37 : decode cX4_addContext 37 = .ok (.iastore, 1) := by decide +kernel
theorem dX4_addContext_38 : decode cX4_addContext 38 = .ok (.aload_n 0, 1) := by decide +kernel
theorem dX4_addContext_39 : decode cX4_addContext 39 = .ok (.getfield 31, 3) := by decide +kernel
theorem dX4_addContext_42 : decode cX4_addContext 42 = .ok (.iload_n 2, 1) := by decide +kernel
theorem dX4_addContext_43 : decode cX4_addContext 43 = .ok (.iconst (-1), 1) := by decide +kernel
theorem dX4_addContext_44 : decode cX4_addContext 44 = .ok (.iastore, 1) := by decide +kernel
theorem dX4_addContext_45 : decode cX4_addContext 45 = .ok (.aload_n 0, 1) := by decide +kernel
theorem dX4_addContext_46 : decode cX4_addContext 46 = .ok (.getfield 34, 3) := by decide +kernel
theorem dX4_addContext_49 : decode cX4_addContext 49 = .ok (.iload_n 2, 1) := by decide +kernel
theorem dX4_addContext_50 : decode cX4_addContext 50 = .ok (.iconst 0, 1) := by decide +kernel
theorem dX4_addContext_51 : decode cX4_addContext 51 = .ok (.iastore, 1) := by decide +kernel
theorem dX4_addContext_52 : decode cX4_addContext 52 = .ok (.aload_n 0, 1) := by decide +kernel
theorem dX4_addContext_53 : decode cX4_addContext 53 = .ok (.getfield 37, 3) := by decide +kernel
theorem dX4_addContext_56 : decode cX4_addContext 56 = .ok (.iload_n 2, 1) := by decide +kernel
theorem dX4_addContext_57 : decode cX4_addContext 57 = .ok (.aload_n 0, 1) := by decide +kernel
theorem dX4_addContext_58 : decode cX4_addContext 58 = .ok (.getfield 40, 3) := by decide +kernel
theorem dX4_addContext_61 : decode cX4_addContext 61 = .ok (.iload_n 3, 1) := by decide +kernel
theorem dX4_addContext_62 : decode cX4_addContext 62 = .ok (.iaload, 1) := by decide +kernel
theorem dX4_addContext_63 : decode cX4_addContext 63 = .ok (.iastore, 1) := by decide +kernel
theorem dX4_addContext_64 : decode cX4_addContext 64 = .ok (.aload_n 0, 1) := by decide +kernel
theorem dX4_addContext_65 : decode cX4_addContext 65 = .ok (.getfield 40, 3) := by decide +kernel
theorem dX4_addContext_68 : decode cX4_addContext 68 = .ok (.iload_n 3, 1) := by decide +kernel
theorem dX4_addContext_69 : decode cX4_addContext 69 = .ok (.iload_n 2, 1) := by decide +kernel
theorem dX4_addContext_70 : decode cX4_addContext 70 = .ok (.iastore, 1) := by decide +kernel
theorem dX4_addContext_71 : decode cX4_addContext 71 = .ok (.iload_n 2, 1) := by decide +kernel
theorem dX4_addContext_72 : decode cX4_addContext 72 = .ok (.ireturn, 1) := by decide +kernel
theorem dX4_growNodes_0 : decode cX4_growNodes 0 = .ok (.aload_n 0, 1) := by decide +kernel
theorem dX4_growNodes_1 : decode cX4_growNodes 1 = .ok (.getfield 61, 3) := by decide +kernel
theorem dX4_growNodes_4 : decode cX4_growNodes 4 = .ok (.aload_n 0, 1) := by decide +kernel
theorem dX4_growNodes_5 : decode cX4_growNodes 5 = .ok (.getfield 15, 3) := by decide +kernel
theorem dX4_growNodes_8 : decode cX4_growNodes 8 = .ok (.arraylength, 1) := by decide +kernel
theorem dX4_growNodes_9 : decode cX4_growNodes 9 = .ok (.if_icmp .lt 50, 3) := by decide +kernel
theorem dX4_growNodes_12 : decode cX4_growNodes 12 = .ok (.aload_n 0, 1) := by decide +kernel
theorem dX4_growNodes_13 : decode cX4_growNodes 13 = .ok (.getfield 61, 3) := by decide +kernel
theorem dX4_growNodes_16 : decode cX4_growNodes 16 = .ok (.sipush 6000, 3) := by decide +kernel
theorem dX4_growNodes_19 : decode cX4_growNodes 19 = .ok (.invokestatic 139, 3) := by decide +kernel
theorem dX4_growNodes_22 : decode cX4_growNodes 22 = .ok (.istore_n 1, 1) := by decide +kernel
theorem dX4_growNodes_23 : decode cX4_growNodes 23 = .ok (.aload_n 0, 1) := by decide +kernel
theorem dX4_growNodes_24 : decode cX4_growNodes 24 = .ok (.aload_n 0, 1) := by decide +kernel
theorem dX4_growNodes_25 : decode cX4_growNodes 25 = .ok (.getfield 15, 3) := by decide +kernel
theorem dX4_growNodes_28 : decode cX4_growNodes 28 = .ok (.iload_n 1, 1) := by decide +kernel
theorem dX4_growNodes_29 : decode cX4_growNodes 29 = .ok (.invokestatic 142, 3) := by decide +kernel
theorem dX4_growNodes_32 : decode cX4_growNodes 32 = .ok (.putfield 15, 3) := by decide +kernel
theorem dX4_growNodes_35 : decode cX4_growNodes 35 = .ok (.aload_n 0, 1) := by decide +kernel
theorem dX4_growNodes_36 : decode cX4_growNodes 36 = .ok (.aload_n 0, 1) := by decide +kernel
theorem dX4_growNodes_37 : decode cX4_growNodes 37 = .ok (.getfield 19, 3) := by decide +kernel
theorem dX4_growNodes_40 : decode cX4_growNodes 40 = .ok (.iload_n 1, 1) := by decide +kernel
theorem dX4_growNodes_41 : decode cX4_growNodes 41 = .ok (.invokestatic 142, 3) := by decide +kernel
theorem dX4_growNodes_44 : decode cX4_growNodes 44 = .ok (.putfield 19, 3) := by decide +kernel
theorem dX4_growNodes_47 : decode cX4_growNodes 47 = .ok (.aload_n 0, 1) := by decide +kernel
theorem dX4_growNodes_48 : decode cX4_growNodes 48 = .ok (.aload_n 0, 1) := by decide +kernel
theorem dX4_growNodes_49 : decode cX4_growNodes 49 = .ok (.getfield 22, 3) := by decide +kernel
theorem dX4_growNodes_52 : decode cX4_growNodes 52 = .ok (.iload_n 1, 1) := by decide +kernel
theorem dX4_growNodes_53 : decode cX4_growNodes 53 = .ok (.invokestatic 142, 3) := by decide +kernel
theorem dX4_growNodes_56 : decode cX4_growNodes 56 = .ok (.putfield 22, 3) := by decide +kernel
theorem dX4_growNodes_59 : decode cX4_growNodes 59 = .ok (.return_, 1) := by decide +kernel
theorem dX4_growContexts_0 : decode cX4_growContexts 0 = .ok (.aload_n 0, 1) := by decide +kernel
theorem dX4_growContexts_1 : decode cX4_growContexts 1 = .ok (.getfield 64, 3) := by decide +kernel
theorem dX4_growContexts_4 : decode cX4_growContexts 4 = .ok (.aload_n 0, 1) := by decide +kernel
theorem dX4_growContexts_5 : decode cX4_growContexts 5 = .ok (.getfield 25, 3) := by decide +kernel
theorem dX4_growContexts_8 : decode cX4_growContexts 8 = .ok (.arraylength, 1) := by decide +kernel
theorem dX4_growContexts_9 : decode cX4_growContexts 9 = .ok (.if_icmp .lt 74, 3) := by decide +kernel
theorem dX4_growContexts_12 : decode cX4_growContexts 12 = .ok (.aload_n 0, 1) := by decide +kernel
theorem dX4_growContexts_13 : decode cX4_growContexts 13 = .ok (.getfield 64, 3) := by decide +kernel
theorem dX4_growContexts_16 : decode cX4_growContexts 16 = .ok (.sipush 6000, 3) := by decide +kernel
theorem dX4_growContexts_19 : decode cX4_growContexts 19 = .ok (.invokestatic 139, 3) := by decide +kernel
theorem dX4_growContexts_22 : decode cX4_growContexts 22 = .ok (.istore_n 1, 1) := by decide +kernel
theorem dX4_growContexts_23 : decode cX4_growContexts 23 = .ok (.aload_n 0, 1) := by decide +kernel
theorem dX4_growContexts_24 : decode cX4_growContexts 24 = .ok (.aload_n 0, 1) := by decide +kernel
theorem dX4_growContexts_25 : decode cX4_growContexts 25 = .ok (.getfield 25, 3) := by decide +kernel
theorem dX4_growContexts_28 : decode cX4_growContexts 28 = .ok (.iload_n 1, 1) := by decide +kernel
theorem dX4_growContexts_29 : decode cX4_growContexts 29 = .ok (.invokestatic 142, 3) := by decide +kernel
theorem dX4_growContexts_32 : decode cX4_growContexts 32 = .ok (.putfield 25, 3) := by decide +kernel
theorem dX4_growContexts_35 : decode cX4_growContexts 35 = .ok (.aload_n 0, 1) := by decide +kernel
theorem dX4_growContexts_36 : decode cX4_growContexts 36 = .ok (.aload_n 0, 1) := by decide +kernel
theorem dX4_growContexts_37 : decode cX4_growContexts 37 = .ok (.getfield 28, 3) := by decide +kernel
theorem dX4_growContexts_40 : decode cX4_growContexts 40 = .ok (.iload_n 1, 1) := by decide +kernel
theorem dX4_growContexts_41 : decode cX4_growContexts 41 = .ok (.invokestatic 142, 3) := by decide +kernel
theorem dX4_growContexts_44 : decode cX4_growContexts 44 = .ok (.putfield 28, 3) := by decide +kernel
theorem dX4_growContexts_47 : decode cX4_growContexts 47 = .ok (.aload_n 0, 1) := by decide +kernel
theorem dX4_growContexts_48 : decode cX4_growContexts 48 = .ok (.aload_n 0, 1) := by decide +kernel
theorem dX4_growContexts_49 : decode cX4_growContexts 49 = .ok (.getfield 31, 3) := by decide +kernel
theorem dX4_growContexts_52 : decode cX4_growContexts 52 = .ok (.iload_n 1, 1) := by decide +kernel
theorem dX4_growContexts_53 : decode cX4_growContexts 53 = .ok (.invokestatic 142, 3) := by decide +kernel
theorem dX4_growContexts_56 : decode cX4_growContexts 56 = .ok (.putfield 31, 3) := by decide +kernel
theorem dX4_growContexts_59 : decode cX4_growContexts 59 = .ok (.aload_n 0, 1) := by decide +kernel
theorem dX4_growContexts_60 : decode cX4_growContexts 60 = .ok (.aload_n 0, 1) := by decide +kernel
theorem dX4_growContexts_61 : decode cX4_growContexts 61 = .ok (.getfield 34, 3) := by decide +kernel
theorem dX4_growContexts_64 : decode cX4_growContexts 64 = .ok (.iload_n 1, 1) := by decide +kernel
theorem dX4_growContexts_65 : decode cX4_growContexts 65 = .ok (.invokestatic 142, 3) := by decide +kernel
theorem dX4_growContexts_68 : decode cX4_growContexts 68 = .ok (.putfield 34, 3) := by decide +kernel
theorem dX4_growContexts_71 : decode cX4_growContexts 71 = .ok (.aload_n 0, 1) := by decide +kernel
theorem dX4_growContexts_72 : decode cX4_growContexts 72 = .ok (.aload_n 0, 1) := by decide +kernel
theorem dX4_growContexts_73 : decode cX4_growContexts 73 = .ok (.getfield 37, 3) := by decide +kernel
end
section
theorem dX4_growContexts_76 : decode cX4_growContexts 76 = .ok (.iload_n 1, 1) := by decide +kernel
theorem dX4_growContexts_77 : decode cX4_growContexts 77 = .ok (.invokestatic 142, 3) := by decide +kernel
theorem dX4_growContexts_80 : decode cX4_growContexts 80 = .ok (.putfield 37, 3) := by decide +kernel
theorem dX4_growContexts_83 : decode cX4_growContexts 83 = .ok (.return_, 1) := by decide +kernel
theorem dX4_dropAll_0 : decode cX4_dropAll 0 = .ok (.iconst 0, 1) := by decide +kernel
theorem dX4_dropAll_1 : decode cX4_dropAll 1 = .ok (.istore_n 1, 1) := by decide +kernel
theorem dX4_dropAll_2 : decode cX4_dropAll 2 = .ok (.iload_n 1, 1) := by decide +kernel
theorem dX4_dropAll_3 : decode cX4_dropAll 3 = .ok (.aload_n 0, 1) := by decide +kernel
theorem dX4_dropAll_4 : decode cX4_dropAll 4 = .ok (.getfield 64, 3) := by decide +kernel
theorem dX4_dropAll_7 : decode cX4_dropAll 7 = .ok (.if_icmp .ge 24, 3) := by decide +kernel
theorem dX4_dropAll_10 : decode cX4_dropAll 10 = .ok (.aload_n 0, 1) := by decide +kernel
theorem dX4_dropAll_11 : decode cX4_dropAll 11 = .ok (.getfield 40, 3) := by decide +kernel
theorem dX4_dropAll_14 : decode cX4_dropAll 14 = .ok (.aload_n 0, 1) := by decide +kernel
theorem dX4_dropAll_15 : decode cX4_dropAll 15 = .ok (.getfield 25, 3) := by decide +kernel
theorem dX4_dropAll_18 : decode cX4_dropAll 18 = .ok (.iload_n 1, 1) := by decide +kernel
theorem dX4_dropAll_19 : decode cX4_dropAll 19 = .ok (.iaload, 1) := by decide +kernel
theorem dX4_dropAll_20 : decode cX4_dropAll 20 = .ok (.invokestatic 77, 3) := by decide +kernel
theorem dX4_dropAll_23 : decode cX4_dropAll 23 = .ok (.iconst (-1), 1) := by decide +kernel
theorem dX4_dropAll_24 : decode cX4_dropAll 24 = .ok (.iastore, 1) := by decide +kernel
theorem dX4_dropAll_25 : decode cX4_dropAll 25 = .ok (.iinc 1 1, 3) := by decide +kernel
theorem dX4_dropAll_28 : decode cX4_dropAll 28 = .ok (.goto (-26), 3) := by decide +kernel
theorem dX4_dropAll_31 : decode cX4_dropAll 31 = .ok (.aload_n 0, 1) := by decide +kernel
theorem dX4_dropAll_32 : decode cX4_dropAll 32 = .ok (.iconst 0, 1) := by decide +kernel
theorem dX4_dropAll_33 : decode cX4_dropAll 33 = .ok (.putfield 64, 3) := by decide +kernel
theorem dX4_dropAll_36 : decode cX4_dropAll 36 = .ok (.aload_n 0, 1) := by decide +kernel
theorem dX4_dropAll_37 : decode cX4_dropAll 37 = .ok (.iconst 0, 1) := by decide +kernel
theorem dX4_dropAll_38 : decode cX4_dropAll 38 = .ok (.putfield 61, 3) := by decide +kernel
theorem dX4_dropAll_41 : decode cX4_dropAll 41 = .ok (.return_, 1) := by decide +kernel
theorem dX4_isContext_0 : decode cX4_isContext 0 = .ok (.iload_n 1, 1) := by decide +kernel
theorem dX4_isContext_1 : decode cX4_isContext 1 = .ok (.ifCond .lt 15, 3) := by decide +kernel
theorem dX4_isContext_4 : decode cX4_isContext 4 = .ok (.iload_n 1, 1) := by decide +kernel
theorem dX4_isContext_5 : decode cX4_isContext 5 = .ok (.aload_n 0, 1) := by decide +kernel
theorem dX4_isContext_6 : decode cX4_isContext 6 = .ok (.getfield 64, 3) := by decide +kernel
theorem dX4_isContext_9 : decode cX4_isContext 9 = .ok (.if_icmp .ge 7, 3) := by decide +kernel
theorem dX4_isContext_12 : decode cX4_isContext 12 = .ok (.iconst 1, 1) := by decide +kernel
theorem dX4_isContext_13 : decode cX4_isContext 13 = .ok (.goto 4, 3) := by decide +kernel
theorem dX4_isContext_16 : decode cX4_isContext 16 = .ok (.iconst 0, 1) := by decide +kernel
theorem dX4_isContext_17 : decode cX4_isContext 17 = .ok (.ireturn, 1) := by decide +kernel
theorem dX4_isNode_0 : decode cX4_isNode 0 = .ok (.iload_n 1, 1) := by decide +kernel
theorem dX4_isNode_1 : decode cX4_isNode 1 = .ok (.ifCond .lt 15, 3) := by decide +kernel
theorem dX4_isNode_4 : decode cX4_isNode 4 = .ok (.iload_n 1, 1) := by decide +kernel
theorem dX4_isNode_5 : decode cX4_isNode 5 = .ok (.aload_n 0, 1) := by decide +kernel
theorem dX4_isNode_6 : decode cX4_isNode 6 = .ok (.getfield 61, 3) := by decide +kernel
theorem dX4_isNode_9 : decode cX4_isNode 9 = .ok (.if_icmp .ge 7, 3) := by decide +kernel
theorem dX4_isNode_12 : decode cX4_isNode 12 = .ok (.iconst 1, 1) := by decide +kernel
theorem dX4_isNode_13 : decode cX4_isNode 13 = .ok (.goto 4, 3) := by decide +kernel
theorem dX4_isNode_16 : decode cX4_isNode 16 = .ok (.iconst 0, 1) := by decide +kernel
theorem dX4_isNode_17 : decode cX4_isNode 17 = .ok (.ireturn, 1) := by decide +kernel
theorem dX4_bucketOf_0 : decode cX4_bucketOf 0 = .ok (.iload_n 0, 1) := by decide +kernel
theorem dX4_bucketOf_1 : decode cX4_bucketOf 1 = .ok (.iload_n 0, 1) := by decide +kernel
theorem dX4_bucketOf_2 : decode cX4_bucketOf 2 = .ok (.bipush 8, 2) := by decide +kernel
theorem dX4_bucketOf_4 : decode cX4_bucketOf 4 = .ok (.ishr, 1) := by decide +kernel
theorem dX4_bucketOf_5 : decode cX4_bucketOf 5 = .ok (.ixor, 1) := by decide +kernel
theorem dX4_bucketOf_6 : decode cX4_bucketOf 6 = .ok (.sipush 255, 3) := by decide +kernel
theorem dX4_bucketOf_9 : decode cX4_bucketOf 9 = .ok (.iand, 1) := by decide +kernel
theorem dX4_bucketOf_10 : decode cX4_bucketOf 10 = .ok (.ireturn, 1) := by decide +kernel
theorem dX5_init_0 : decode cX5_init 0 = .ok (.aload_n 0, 1) := by decide +kernel
theorem dX5_init_1 : decode cX5_init 1 = .ok (.invokespecial 5, 3) := by decide +kernel
theorem dX5_init_4 : decode cX5_init 4 = .ok (.aload_n 0, 1) := by decide +kernel
theorem dX5_init_5 : decode cX5_init 5 = .ok (.bipush 64, 2) := by decide +kernel
theorem dX5_init_7 : decode cX5_init 7 = .ok (.newarray .long, 2) := by decide +kernel
theorem dX5_init_9 : decode cX5_init 9 = .ok (.putfield 11, 3) := by decide +kernel
theorem dX5_init_12 : decode cX5_init 12 = .ok (.return_, 1) := by decide +kernel
theorem dX5_made_0 : decode cX5_made 0 = .ok (.aload_n 0, 1) := by decide +kernel
theorem dX5_made_1 : decode cX5_made 1 = .ok (.getfield 15, 3) := by decide +kernel
theorem dX5_made_4 : decode cX5_made 4 = .ok (.ireturn, 1) := by decide +kernel
theorem dX5_escapes_0 : decode cX5_escapes 0 = .ok (.aload_n 0, 1) := by decide +kernel
theorem dX5_escapes_1 : decode cX5_escapes 1 = .ok (.getfield 19, 3) := by decide +kernel
theorem dX5_escapes_4 : decode cX5_escapes 4 = .ok (.ireturn, 1) := by decide +kernel
theorem dX5_clear_0 : decode cX5_clear 0 = .ok (.aload_n 0, 1) := by decide +kernel
theorem dX5_clear_1 : decode cX5_clear 1 = .ok (.iconst 0, 1) := by decide +kernel
theorem dX5_clear_2 : decode cX5_clear 2 = .ok (.putfield 15, 3) := by decide +kernel
theorem dX5_clear_5 : decode cX5_clear 5 = .ok (.aload_n 0, 1) := by decide +kernel
theorem dX5_clear_6 : decode cX5_clear 6 = .ok (.iconst 0, 1) := by decide +kernel
theorem dX5_clear_7 : decode cX5_clear 7 = .ok (.putfield 19, 3) := by decide +kernel
theorem dX5_clear_10 : decode cX5_clear 10 = .ok (.return_, 1) := by decide +kernel
theorem dX5_add_0 : decode cX5_add 0 = .ok (.aload_n 0, 1) := by decide +kernel
theorem dX5_add_1 : decode cX5_add 1 = .ok (.getfield 15, 3) := by decide +kernel
theorem dX5_add_4 : decode cX5_add 4 = .ok (.sipush 20000, 3) := by decide +kernel
theorem dX5_add_7 : decode cX5_add 7 = .ok (.if_icmp .ge 82, 3) := by decide +kernel
theorem dX5_add_10 : decode cX5_add 10 = .ok (.aload_n 0, 1) := by decide +kernel
theorem dX5_add_11 : decode cX5_add 11 = .ok (.getfield 15, 3) := by decide +kernel
theorem dX5_add_14 : decode cX5_add 14 = .ok (.aload_n 0, 1) := by decide +kernel
theorem dX5_add_15 : decode cX5_add 15 = .ok (.getfield 11, 3) := by decide +kernel
theorem dX5_add_18 : decode cX5_add 18 = .ok (.arraylength, 1) := by decide +kernel
theorem dX5_add_19 : decode cX5_add 19 = .ok (.if_icmp .lt 24, 3) := by decide +kernel
theorem dX5_add_22 : decode cX5_add 22 = .ok (.aload_n 0, 1) := by decide +kernel
theorem dX5_add_23 : decode cX5_add 23 = .ok (.aload_n 0, 1) := by decide +kernel
theorem dX5_add_24 : decode cX5_add 24 = .ok (.getfield 11, 3) := by decide +kernel
theorem dX5_add_27 : decode cX5_add 27 = .ok (.aload_n 0, 1) := by decide +kernel
theorem dX5_add_28 : decode cX5_add 28 = .ok (.getfield 15, 3) := by decide +kernel
theorem dX5_add_31 : decode cX5_add 31 = .ok (.sipush 20000, 3) := by decide +kernel
theorem dX5_add_34 : decode cX5_add 34 = .ok (.invokestatic 22, 3) := by decide +kernel
theorem dX5_add_37 : decode cX5_add 37 = .ok (.invokestatic 26, 3) := by decide +kernel
theorem dX5_add_40 : decode cX5_add 40 = .ok (.putfield 11, 3) := by decide +kernel
theorem dX5_add_43 : decode cX5_add 43 = .ok (.aload_n 0, 1) := by decide +kernel
theorem dX5_add_44 : decode cX5_add 44 = .ok (.getfield 11, 3) := by decide +kernel
theorem dX5_add_47 : decode cX5_add 47 = .ok (.aload_n 0, 1) := by decide +kernel
theorem dX5_add_48 : decode cX5_add 48 = .ok (.getfield 15, 3) := by decide +kernel
theorem dX5_add_51 : decode cX5_add 51 = .ok (.iload_n 1, 1) := by decide +kernel
theorem dX5_add_52 : decode cX5_add 52 = .ok (.i2l, 1) := by decide +kernel
theorem dX5_add_53 : decode cX5_add 53 = .ok (.iload_n 2, 1) := by decide +kernel
theorem dX5_add_54 : decode cX5_add 54 = .ok (.i2l, 1) := by decide +kernel
theorem dX5_add_55 : decode cX5_add 55 = .ok (.bipush 20, 2) := by decide +kernel
theorem dX5_add_57 : decode cX5_add 57 = .ok (.lshl, 1) := by decide +kernel
theorem dX5_add_58 : decode cX5_add 58 = .ok (.lor, 1) := by decide +kernel
theorem dX5_add_59 : decode cX5_add 59 = .ok (.iload_n 3, 1) := by decide +kernel
theorem dX5_add_60 : decode cX5_add 60 = .ok (.i2l, 1) := by decide +kernel
theorem dX5_add_61 : decode cX5_add 61 = .ok (.bipush 40, 2) := by decide +kernel
theorem dX5_add_63 : decode cX5_add 63 = .ok (.lshl, 1) := by decide +kernel
theorem dX5_add_64 : decode cX5_add 64 = .ok (.lor, 1) := by decide +kernel
theorem dX5_add_65 : decode cX5_add 65 = .ok (.iload 4, 2) := by decide +kernel
theorem dX5_add_67 : decode cX5_add 67 = .ok (.iconst 1, 1) := by decide +kernel
theorem dX5_add_68 : decode cX5_add 68 = .ok (.iadd, 1) := by decide +kernel
theorem dX5_add_69 : decode cX5_add 69 = .ok (.i2l, 1) := by decide +kernel
theorem dX5_add_70 : decode cX5_add 70 = .ok (.bipush 60, 2) := by decide +kernel
theorem dX5_add_72 : decode cX5_add 72 = .ok (.lshl, 1) := by decide +kernel
theorem dX5_add_73 : decode cX5_add 73 = .ok (.lor, 1) := by decide +kernel
theorem dX5_add_74 : decode cX5_add 74 = .ok (.iload 5, 2) := by decide +kernel
theorem dX5_add_76 : decode cX5_add 76 = .ok (.ifCond .eq 7, 3) := by decide +kernel
theorem dX5_add_79 : decode cX5_add 79 = .ok (.lconst 1, 1) := by decide +kernel
theorem dX5_add_80 : decode cX5_add 80 = .ok (.goto 4, 3) := by decide +kernel
theorem dX5_add_83 : decode cX5_add 83 = .ok (.lconst 0, 1) := by decide +kernel
theorem dX5_add_84 : decode cX5_add 84 = .ok (.bipush 62, 2) := by decide +kernel
theorem dX5_add_86 : decode cX5_add 86 = .ok (.lshl, 1) := by decide +kernel
theorem dX5_add_87 : decode cX5_add 87 = .ok (.lor, 1) := by decide +kernel
theorem dX5_add_88 : decode cX5_add 88 = .ok (.lastore, 1) := by decide +kernel
theorem dX5_add_89 : decode cX5_add 89 = .ok (.aload_n 0, 1) := by decide +kernel
theorem dX5_add_90 : decode cX5_add 90 = .ok (.dup, 1) := by decide +kernel
theorem dX5_add_91 : decode cX5_add 91 = .ok (.getfield 15, 3) := by decide +kernel
theorem dX5_add_94 : decode cX5_add 94 = .ok (.iconst 1, 1) := by decide +kernel
theorem dX5_add_95 : decode cX5_add 95 = .ok (.iadd, 1) := by decide +kernel
theorem dX5_add_96 : decode cX5_add 96 = .ok (.putfield 15, 3) := by decide +kernel
theorem dX5_add_99 : decode cX5_add 99 = .ok (.iload 5, 2) := by decide +kernel
theorem dX5_add_101 : decode cX5_add 101 = .ok (.ifCond .eq 13, 3) := by decide +kernel
theorem dX5_add_104 : decode cX5_add 104 = .ok (.aload_n 0, 1) := by decide +kernel
theorem dX5_add_105 : decode cX5_add 105 = .ok (.dup, 1) := by decide +kernel
theorem dX5_add_106 : decode cX5_add 106 = .ok (.getfield 19, 3) := by decide +kernel
theorem dX5_add_109 : decode cX5_add 109 = .ok (.iconst 1, 1) := by decide +kernel
theorem dX5_add_110 : decode cX5_add 110 = .ok (.iadd, 1) := by decide +kernel
theorem dX5_add_111 : decode cX5_add 111 = .ok (.putfield 19, 3) := by decide +kernel
theorem dX5_add_114 : decode cX5_add 114 = .ok (.return_, 1) := by decide +kernel
theorem dX5_answer_0 : decode cX5_answer 0 = .ok (.iload_n 1, 1) := by decide +kernel
theorem dX5_answer_1 : decode cX5_answer 1 = .ok (.ifCond .lt 18, 3) := by decide +kernel
theorem dX5_answer_4 : decode cX5_answer 4 = .ok (.iload_n 1, 1) := by decide +kernel
theorem dX5_answer_5 : decode cX5_answer 5 = .ok (.aload_n 0, 1) := by decide +kernel
theorem dX5_answer_6 : decode cX5_answer 6 = .ok (.getfield 15, 3) := by decide +kernel
theorem dX5_answer_9 : decode cX5_answer 9 = .ok (.if_icmp .ge 10, 3) := by decide +kernel
theorem dX5_answer_12 : decode cX5_answer 12 = .ok (.iload_n 1, 1) := by decide +kernel
theorem dX5_answer_13 : decode cX5_answer 13 = .ok (.sipush 20000, 3) := by decide +kernel
theorem dX5_answer_16 : decode cX5_answer 16 = .ok (.if_icmp .lt 6, 3) := by decide +kernel
theorem dX5_answer_19 : decode cX5_answer 19 = .ok (.bipush (-2), 2) := by decide +kernel
theorem dX5_answer_21 : decode cX5_answer 21 = .ok (.ireturn, 1) := by decide +kernel
theorem dX5_answer_22 : decode cX5_answer 22 = .ok (.aload_n 0, 1) := by decide +kernel
theorem dX5_answer_23 : decode cX5_answer 23 = .ok (.getfield 11, 3) := by decide +kernel
theorem dX5_answer_26 : decode cX5_answer 26 = .ok (.iload_n 1, 1) := by decide +kernel
theorem dX5_answer_27 : decode cX5_answer 27 = .ok (.laload, 1) := by decide +kernel
theorem dX5_answer_28 : decode cX5_answer 28 = .ok (.lstore_n 3, 1) := by decide +kernel
theorem dX5_answer_29 : decode cX5_answer 29 = .ok (.iload_n 2, 1) := by decide +kernel
theorem dX5_answer_30 : decode cX5_answer 30 = .ok (.tableswitch 81 0 4 #[34, 41, 51, 61, 73], 34) := by decide +kernel
theorem dX5_answer_64 : decode cX5_answer 64 = .ok (.lload_n 3, 1) := by decide +kernel
theorem dX5_answer_65 : decode cX5_answer 65 = .ok (.ldc2_w 32, 3) := by decide +kernel
theorem dX5_answer_68 : decode cX5_answer 68 = .ok (.land, 1) := by decide +kernel
theorem dX5_answer_69 : decode cX5_answer 69 = .ok (.l2i, 1) := by decide +kernel
theorem dX5_answer_70 : decode cX5_answer 70 = .ok (.ireturn, 1) := by decide +kernel
theorem dX5_answer_71 : decode cX5_answer 71 = .ok (.lload_n 3, 1) := by decide +kernel
theorem dX5_answer_72 : decode cX5_answer 72 = .ok (.bipush 20, 2) := by decide +kernel
theorem dX5_answer_74 : decode cX5_answer 74 = .ok (.lushr, 1) := by decide +kernel
theorem dX5_answer_75 : decode cX5_answer 75 = .ok (.ldc2_w 32, 3) := by decide +kernel
theorem dX5_answer_78 : decode cX5_answer 78 = .ok (.land, 1) := by decide +kernel
theorem dX5_answer_79 : decode cX5_answer 79 = .ok (.l2i, 1) := by decide +kernel
theorem dX5_answer_80 : decode cX5_answer 80 = .ok (.ireturn, 1) := by decide +kernel
theorem dX5_answer_81 : decode cX5_answer 81 = .ok (.lload_n 3, 1) := by decide +kernel
theorem dX5_answer_82 : decode cX5_answer 82 = .ok (.bipush 40, 2) := by decide +kernel
theorem dX5_answer_84 : decode cX5_answer 84 = .ok (.lushr, 1) := by decide +kernel
theorem dX5_answer_85 : decode cX5_answer 85 = .ok (.ldc2_w 32, 3) := by decide +kernel
theorem dX5_answer_88 : decode cX5_answer 88 = .ok (.land, 1) := by decide +kernel
theorem dX5_answer_89 : decode cX5_answer 89 = .ok (.l2i, 1) := by decide +kernel
theorem dX5_answer_90 : decode cX5_answer 90 = .ok (.ireturn, 1) := by decide +kernel
theorem dX5_answer_91 : decode cX5_answer 91 = .ok (.lload_n 3, 1) := by decide +kernel
theorem dX5_answer_92 : decode cX5_answer 92 = .ok (.bipush 60, 2) := by decide +kernel
theorem dX5_answer_94 : decode cX5_answer 94 = .ok (.lushr, 1) := by decide +kernel
theorem dX5_answer_95 : decode cX5_answer 95 = .ok (.ldc2_w 34, 3) := by decide +kernel
theorem dX5_answer_98 : decode cX5_answer 98 = .ok (.land, 1) := by decide +kernel
theorem dX5_answer_99 : decode cX5_answer 99 = .ok (.l2i, 1) := by decide +kernel
theorem dX5_answer_100 : decode cX5_answer 100 = .ok (.iconst 1, 1) := by decide +kernel
theorem dX5_answer_101 : decode cX5_answer 101 = .ok (.isub, 1) := by decide +kernel
theorem dX5_answer_102 : decode cX5_answer 102 = .ok (.ireturn, 1) := by decide +kernel
theorem dX5_answer_103 : decode cX5_answer 103 = .ok (.lload_n 3, 1) := by decide +kernel
theorem dX5_answer_104 : decode cX5_answer 104 = .ok (.bipush 62, 2) := by decide +kernel
theorem dX5_answer_106 : decode cX5_answer 106 = .ok (.lushr, 1) := by decide +kernel
theorem dX5_answer_107 : decode cX5_answer 107 = .ok (.lconst 1, 1) := by decide +kernel
theorem dX5_answer_108 : decode cX5_answer 108 = .ok (.land, 1) := by decide +kernel
theorem dX5_answer_109 : decode cX5_answer 109 = .ok (.l2i, 1) := by decide +kernel
theorem dX5_answer_110 : decode cX5_answer 110 = .ok (.ireturn, 1) := by decide +kernel
theorem dX5_answer_111 : decode cX5_answer 111 = .ok (.bipush (-2), 2) := by decide +kernel
theorem dX5_answer_113 : decode cX5_answer 113 = .ok (.ireturn, 1) := by decide +kernel
theorem dX6_init_0 : decode cX6_init 0 = .ok (.aload_n 0, 1) := by decide +kernel
theorem dX6_init_1 : decode cX6_init 1 = .ok (.invokespecial 3, 3) := by decide +kernel
theorem dX6_init_4 : decode cX6_init 4 = .ok (.aload_n 0, 1) := by decide +kernel
theorem dX6_init_5 : decode cX6_init 5 = .ok (.aload_n 1, 1) := by decide +kernel
theorem dX6_init_6 : decode cX6_init 6 = .ok (.putfield 9, 3) := by decide +kernel
theorem dX6_init_9 : decode cX6_init 9 = .ok (.aload_n 0, 1) := by decide +kernel
theorem dX6_init_10 : decode cX6_init 10 = .ok (.aload_n 2, 1) := by decide +kernel
theorem dX6_init_11 : decode cX6_init 11 = .ok (.putfield 15, 3) := by decide +kernel
theorem dX6_init_14 : decode cX6_init 14 = .ok (.aload_n 0, 1) := by decide +kernel
theorem dX6_init_15 : decode cX6_init 15 = .ok (.sipush 256, 3) := by decide +kernel
theorem dX6_init_18 : decode cX6_init 18 = .ok (.newarray .int, 2) := by decide +kernel
theorem dX6_init_20 : decode cX6_init 20 = .ok (.putfield 19, 3) := by decide +kernel
theorem dX6_init_23 : decode cX6_init 23 = .ok (.aload_n 0, 1) := by decide +kernel
theorem dX6_init_24 : decode cX6_init 24 = .ok (.sipush 256, 3) := by decide +kernel
theorem dX6_init_27 : decode cX6_init 27 = .ok (.newarray .int, 2) := by decide +kernel
theorem dX6_init_29 : decode cX6_init 29 = .ok (.putfield 23, 3) := by decide +kernel
theorem dX6_init_32 : decode cX6_init 32 = .ok (.return_, 1) := by decide +kernel
theorem dX6_toldOrder_0 : decode cX6_toldOrder 0 = .ok (.aload_n 0, 1) := by decide +kernel
theorem dX6_toldOrder_1 : decode cX6_toldOrder 1 = .ok (.getfield 26, 3) := by decide +kernel
theorem dX6_toldOrder_4 : decode cX6_toldOrder 4 = .ok (.ireturn, 1) := by decide +kernel
theorem dX6_tell_0 : decode cX6_tell 0 = .ok (.aload_n 0, 1) := by decide +kernel
theorem dX6_tell_1 : decode cX6_tell 1 = .ok (.dup, 1) := by decide +kernel
theorem dX6_tell_2 : decode cX6_tell 2 = .ok (.getfield 30, 3) := by decide +kernel
theorem dX6_tell_5 : decode cX6_tell 5 = .ok (.iconst 1, 1) := by decide +kernel
theorem dX6_tell_6 : decode cX6_tell 6 = .ok (.iadd, 1) := by decide +kernel
theorem dX6_tell_7 : decode cX6_tell 7 = .ok (.putfield 30, 3) := by decide +kernel
theorem dX6_tell_10 : decode cX6_tell 10 = .ok (.aload_n 0, 1) := by decide +kernel
theorem dX6_tell_11 : decode cX6_tell 11 = .ok (.iconst 0, 1) := by decide +kernel
theorem dX6_tell_12 : decode cX6_tell 12 = .ok (.putfield 33, 3) := by decide +kernel
theorem dX6_tell_15 : decode cX6_tell 15 = .ok (.aload_n 0, 1) := by decide +kernel
theorem dX6_tell_16 : decode cX6_tell 16 = .ok (.getfield 9, 3) := by decide +kernel
theorem dX6_tell_19 : decode cX6_tell 19 = .ok (.invokevirtual 36, 3) := by decide +kernel
theorem dX6_tell_22 : decode cX6_tell 22 = .ok (.istore_n 3, 1) := by decide +kernel
theorem dX6_tell_23 : decode cX6_tell 23 = .ok (.iload_n 3, 1) := by decide +kernel
theorem dX6_tell_24 : decode cX6_tell 24 = .ok (.ifCond .lt 62, 3) := by decide +kernel
theorem dX6_tell_27 : decode cX6_tell 27 = .ok (.aload_n 0, 1) := by decide +kernel
theorem dX6_tell_28 : decode cX6_tell 28 = .ok (.aload_n 0, 1) := by decide +kernel
theorem dX6_tell_29 : decode cX6_tell 29 = .ok (.getfield 9, 3) := by decide +kernel
theorem dX6_tell_32 : decode cX6_tell 32 = .ok (.aload_n 0, 1) := by decide +kernel
theorem dX6_tell_33 : decode cX6_tell 33 = .ok (.getfield 9, 3) := by decide +kernel
theorem dX6_tell_36 : decode cX6_tell 36 = .ok (.iload_n 3, 1) := by decide +kernel
theorem dX6_tell_37 : decode cX6_tell 37 = .ok (.invokevirtual 42, 3) := by decide +kernel
theorem dX6_tell_40 : decode cX6_tell 40 = .ok (.invokevirtual 46, 3) := by decide +kernel
theorem dX6_tell_43 : decode cX6_tell 43 = .ok (.invokevirtual 49, 3) := by decide +kernel
theorem dX6_tell_46 : decode cX6_tell 46 = .ok (.aload_n 0, 1) := by decide +kernel
theorem dX6_tell_47 : decode cX6_tell 47 = .ok (.getfield 53, 3) := by decide +kernel
theorem dX6_tell_50 : decode cX6_tell 50 = .ok (.ifCond .ne 7, 3) := by decide +kernel
theorem dX6_tell_53 : decode cX6_tell 53 = .ok (.iconst (-1), 1) := by decide +kernel
theorem dX6_tell_54 : decode cX6_tell 54 = .ok (.goto 10, 3) := by decide +kernel
theorem dX6_tell_57 : decode cX6_tell 57 = .ok (.aload_n 0, 1) := by decide +kernel
theorem dX6_tell_58 : decode cX6_tell 58 = .ok (.iload_n 3, 1) := by decide +kernel
theorem dX6_tell_59 : decode cX6_tell 59 = .ok (.iload_n 1, 1) := by decide +kernel
theorem dX6_tell_60 : decode cX6_tell 60 = .ok (.aload_n 2, 1) := by decide +kernel
theorem dX6_tell_61 : decode cX6_tell 61 = .ok (.invokevirtual 56, 3) := by decide +kernel
theorem dX6_tell_64 : decode cX6_tell 64 = .ok (.istore 4, 2) := by decide +kernel
theorem dX6_tell_66 : decode cX6_tell 66 = .ok (.iload 4, 2) := by decide +kernel
theorem dX6_tell_68 : decode cX6_tell 68 = .ok (.iconst (-1), 1) := by decide +kernel
theorem dX6_tell_69 : decode cX6_tell 69 = .ok (.if_icmp .eq 11, 3) := by decide +kernel
theorem dX6_tell_72 : decode cX6_tell 72 = .ok (.aload_n 0, 1) := by decide +kernel
theorem dX6_tell_73 : decode cX6_tell 73 = .ok (.iload_n 3, 1) := by decide +kernel
theorem dX6_tell_74 : decode cX6_tell 74 = .ok (.putfield 26, 3) := by decide +kernel
theorem dX6_tell_77 : decode cX6_tell 77 = .ok (.iload 4, 2) := by decide +kernel
theorem dX6_tell_79 : decode cX6_tell 79 = .ok (.ireturn, 1) := by decide +kernel
theorem dX6_tell_80 : decode cX6_tell 80 = .ok (.iinc 3 (-1), 3) := by decide +kernel
theorem dX6_tell_83 : decode cX6_tell 83 = .ok (.goto (-60), 3) := by decide +kernel
theorem dX6_tell_86 : decode cX6_tell 86 = .ok (.aload_n 0, 1) := by decide +kernel
theorem dX6_tell_87 : decode cX6_tell 87 = .ok (.iconst (-1), 1) := by decide +kernel
theorem dX6_tell_88 : decode cX6_tell 88 = .ok (.putfield 26, 3) := by decide +kernel
theorem dX6_tell_91 : decode cX6_tell 91 = .ok (.aload_n 0, 1) := by decide +kernel
theorem dX6_tell_92 : decode cX6_tell 92 = .ok (.iload_n 1, 1) := by decide +kernel
theorem dX6_tell_93 : decode cX6_tell 93 = .ok (.aload_n 2, 1) := by decide +kernel
theorem dX6_tell_94 : decode cX6_tell 94 = .ok (.invokevirtual 60, 3) := by decide +kernel
theorem dX6_tell_97 : decode cX6_tell 97 = .ok (.ireturn, 1) := by decide +kernel
theorem dX6_gather_0 : decode cX6_gather 0 = .ok (.aload_n 0, 1) := by decide +kernel
theorem dX6_gather_1 : decode cX6_gather 1 = .ok (.iconst 0, 1) := by decide +kernel
theorem dX6_gather_2 : decode cX6_gather 2 = .ok (.putfield 53, 3) := by decide +kernel
theorem dX6_gather_5 : decode cX6_gather 5 = .ok (.aload_n 0, 1) := by decide +kernel
theorem dX6_gather_6 : decode cX6_gather 6 = .ok (.iconst 0, 1) := by decide +kernel
theorem dX6_gather_7 : decode cX6_gather 7 = .ok (.putfield 64, 3) := by decide +kernel
theorem dX6_gather_10 : decode cX6_gather 10 = .ok (.aload_n 0, 1) := by decide +kernel
theorem dX6_gather_11 : decode cX6_gather 11 = .ok (.getfield 9, 3) := by decide +kernel
theorem dX6_gather_14 : decode cX6_gather 14 = .ok (.iload_n 1, 1) := by decide +kernel
theorem dX6_gather_15 : decode cX6_gather 15 = .ok (.invokevirtual 67, 3) := by decide +kernel
theorem dX6_gather_18 : decode cX6_gather 18 = .ok (.istore_n 2, 1) := by decide +kernel
theorem dX6_gather_19 : decode cX6_gather 19 = .ok (.aload_n 0, 1) := by decide +kernel
theorem dX6_gather_20 : decode cX6_gather 20 = .ok (.getfield 9, 3) := by decide +kernel
theorem dX6_gather_23 : decode cX6_gather 23 = .ok (.iload_n 1, 1) := by decide +kernel
theorem dX6_gather_24 : decode cX6_gather 24 = .ok (.invokevirtual 70, 3) := by decide +kernel
theorem dX6_gather_27 : decode cX6_gather 27 = .ok (.istore_n 3, 1) := by decide +kernel
theorem dX6_gather_28 : decode cX6_gather 28 = .ok (.iload_n 3, 1) := by decide +kernel
theorem dX6_gather_29 : decode cX6_gather 29 = .ok (.ifCond .le 82, 3) := by decide +kernel
theorem dX6_gather_32 : decode cX6_gather 32 = .ok (.aload_n 0, 1) := by decide +kernel
theorem dX6_gather_33 : decode cX6_gather 33 = .ok (.getfield 53, 3) := by decide +kernel
theorem dX6_gather_36 : decode cX6_gather 36 = .ok (.aload_n 0, 1) := by decide +kernel
theorem dX6_gather_37 : decode cX6_gather 37 = .ok (.getfield 23, 3) := by decide +kernel
theorem dX6_gather_40 : decode cX6_gather 40 = .ok (.arraylength, 1) := by decide +kernel
theorem dX6_gather_41 : decode cX6_gather 41 = .ok (.if_icmp .ge 70, 3) := by decide +kernel
theorem dX6_gather_44 : decode cX6_gather 44 = .ok (.aload_n 0, 1) := by decide +kernel
theorem dX6_gather_45 : decode cX6_gather 45 = .ok (.aload_n 0, 1) := by decide +kernel
theorem dX6_gather_46 : decode cX6_gather 46 = .ok (.getfield 9, 3) := by decide +kernel
theorem dX6_gather_49 : decode cX6_gather 49 = .ok (.iload_n 2, 1) := by decide +kernel
theorem dX6_gather_50 : decode cX6_gather 50 = .ok (.invokevirtual 73, 3) := by decide +kernel
theorem dX6_gather_53 : decode cX6_gather 53 = .ok (.invokevirtual 76, 3) := by decide +kernel
theorem dX6_gather_56 : decode cX6_gather 56 = .ok (.ifCond .ne 40, 3) := by decide +kernel
theorem dX6_gather_59 : decode cX6_gather 59 = .ok (.aload_n 0, 1) := by decide +kernel
theorem dX6_gather_60 : decode cX6_gather 60 = .ok (.getfield 23, 3) := by decide +kernel
theorem dX6_gather_63 : decode cX6_gather 63 = .ok (.aload_n 0, 1) := by decide +kernel
theorem dX6_gather_64 : decode cX6_gather 64 = .ok (.getfield 53, 3) := by decide +kernel
theorem dX6_gather_67 : decode cX6_gather 67 = .ok (.iload_n 2, 1) := by decide +kernel
theorem dX6_gather_68 : decode cX6_gather 68 = .ok (.iastore, 1) := by decide +kernel
theorem dX6_gather_69 : decode cX6_gather 69 = .ok (.aload_n 0, 1) := by decide +kernel
theorem dX6_gather_70 : decode cX6_gather 70 = .ok (.dup, 1) := by decide +kernel
theorem dX6_gather_71 : decode cX6_gather 71 = .ok (.getfield 53, 3) := by decide +kernel
theorem dX6_gather_74 : decode cX6_gather 74 = .ok (.iconst 1, 1) := by decide +kernel
theorem dX6_gather_75 : decode cX6_gather 75 = .ok (.iadd, 1) := by decide +kernel
theorem dX6_gather_76 : decode cX6_gather 76 = .ok (.putfield 53, 3) := by decide +kernel
theorem dX6_gather_79 : decode cX6_gather 79 = .ok (.aload_n 0, 1) := by decide +kernel
theorem dX6_gather_80 : decode cX6_gather 80 = .ok (.dup, 1) := by decide +kernel
theorem dX6_gather_81 : decode cX6_gather 81 = .ok (.getfield 64, 3) := by decide +kernel
theorem dX6_gather_84 : decode cX6_gather 84 = .ok (.aload_n 0, 1) := by decide +kernel
theorem dX6_gather_85 : decode cX6_gather 85 = .ok (.getfield 9, 3) := by decide +kernel
theorem dX6_gather_88 : decode cX6_gather 88 = .ok (.iload_n 2, 1) := by decide +kernel
theorem dX6_gather_89 : decode cX6_gather 89 = .ok (.invokevirtual 80, 3) := by decide +kernel
theorem dX6_gather_92 : decode cX6_gather 92 = .ok (.iadd, 1) := by decide +kernel
theorem dX6_gather_93 : decode cX6_gather 93 = .ok (.putfield 64, 3) := by decide +kernel
theorem dX6_gather_96 : decode cX6_gather 96 = .ok (.aload_n 0, 1) := by decide +kernel
theorem dX6_gather_97 : decode cX6_gather 97 = .ok (.getfield 9, 3) := by decide +kernel
theorem dX6_gather_100 : decode cX6_gather 100 = .ok (.iload_n 2, 1) := by decide +kernel
theorem dX6_gather_101 : decode cX6_gather 101 = .ok (.invokevirtual 83, 3) := by decide +kernel
theorem dX6_gather_104 : decode cX6_gather 104 = .ok (.istore_n 2, 1) := by decide +kernel
theorem dX6_gather_105 : decode cX6_gather 105 = .ok (.iinc 3 (-1), 3) := by decide +kernel
theorem dX6_gather_108 : decode cX6_gather 108 = .ok (.goto (-80), 3) := by decide +kernel
theorem dX6_gather_111 : decode cX6_gather 111 = .ok (.return_, 1) := by decide +kernel
theorem dX6_tellAmongLive_0 : decode cX6_tellAmongLive 0 = .ok (.aload_n 0, 1) := by decide +kernel
theorem dX6_tellAmongLive_1 : decode cX6_tellAmongLive 1 = .ok (.getfield 64, 3) := by decide +kernel
theorem dX6_tellAmongLive_4 : decode cX6_tellAmongLive 4 = .ok (.aload_n 0, 1) := by decide +kernel
theorem dX6_tellAmongLive_5 : decode cX6_tellAmongLive 5 = .ok (.getfield 53, 3) := by decide +kernel
theorem dX6_tellAmongLive_8 : decode cX6_tellAmongLive 8 = .ok (.iadd, 1) := by decide +kernel
theorem dX6_tellAmongLive_9 : decode cX6_tellAmongLive 9 = .ok (.istore 4, 2) := by decide +kernel
theorem dX6_tellAmongLive_11 : decode cX6_tellAmongLive 11 = .ok (.aload_n 3, 1) := by decide +kernel
theorem dX6_tellAmongLive_12 : decode cX6_tellAmongLive 12 = .ok (.iload 4, 2) := by decide +kernel
theorem dX6_tellAmongLive_14 : decode cX6_tellAmongLive 14 = .ok (.aload_n 0, 1) := by decide +kernel
theorem dX6_tellAmongLive_15 : decode cX6_tellAmongLive 15 = .ok (.iload_n 2, 1) := by decide +kernel
theorem dX6_tellAmongLive_16 : decode cX6_tellAmongLive 16 = .ok (.invokevirtual 86, 3) := by decide +kernel
theorem dX6_tellAmongLive_19 : decode cX6_tellAmongLive 19 = .ok (.invokevirtual 89, 3) := by decide +kernel
theorem dX6_tellAmongLive_22 : decode cX6_tellAmongLive 22 = .ok (.istore 5, 2) := by decide +kernel
theorem dX6_tellAmongLive_24 : decode cX6_tellAmongLive 24 = .ok (.iconst 0, 1) := by decide +kernel
theorem dX6_tellAmongLive_25 : decode cX6_tellAmongLive 25 = .ok (.istore 6, 2) := by decide +kernel
theorem dX6_tellAmongLive_27 : decode cX6_tellAmongLive 27 = .ok (.iconst 0, 1) := by decide +kernel
theorem dX6_tellAmongLive_28 : decode cX6_tellAmongLive 28 = .ok (.istore 7, 2) := by decide +kernel
theorem dX6_tellAmongLive_30 : decode cX6_tellAmongLive 30 = .ok (.iload 7, 2) := by decide +kernel
theorem dX6_tellAmongLive_32 : decode cX6_tellAmongLive 32 = .ok (.aload_n 0, 1) := by decide +kernel
theorem dX6_tellAmongLive_33 : decode cX6_tellAmongLive 33 = .ok (.getfield 53, 3) := by decide +kernel
theorem dX6_tellAmongLive_36 : decode cX6_tellAmongLive 36 = .ok (.if_icmp .ge 82, 3) := by decide +kernel
theorem dX6_tellAmongLive_39 : decode cX6_tellAmongLive 39 = .ok (.aload_n 0, 1) := by decide +kernel
theorem dX6_tellAmongLive_40 : decode cX6_tellAmongLive 40 = .ok (.getfield 9, 3) := by decide +kernel
theorem dX6_tellAmongLive_43 : decode cX6_tellAmongLive 43 = .ok (.aload_n 0, 1) := by decide +kernel
theorem dX6_tellAmongLive_44 : decode cX6_tellAmongLive 44 = .ok (.getfield 23, 3) := by decide +kernel
theorem dX6_tellAmongLive_47 : decode cX6_tellAmongLive 47 = .ok (.iload 7, 2) := by decide +kernel
theorem dX6_tellAmongLive_49 : decode cX6_tellAmongLive 49 = .ok (.iaload, 1) := by decide +kernel
theorem dX6_tellAmongLive_50 : decode cX6_tellAmongLive 50 = .ok (.invokevirtual 80, 3) := by decide +kernel
theorem dX6_tellAmongLive_53 : decode cX6_tellAmongLive 53 = .ok (.istore 8, 2) := by decide +kernel
theorem dX6_tellAmongLive_55 : decode cX6_tellAmongLive 55 = .ok (.iload 5, 2) := by decide +kernel
theorem dX6_tellAmongLive_57 : decode cX6_tellAmongLive 57 = .ok (.iload 6, 2) := by decide +kernel
theorem dX6_tellAmongLive_59 : decode cX6_tellAmongLive 59 = .ok (.iload 8, 2) := by decide +kernel
theorem dX6_tellAmongLive_61 : decode cX6_tellAmongLive 61 = .ok (.iadd, 1) := by decide +kernel
theorem dX6_tellAmongLive_62 : decode cX6_tellAmongLive 62 = .ok (.if_icmp .ge 43, 3) := by decide +kernel
theorem dX6_tellAmongLive_65 : decode cX6_tellAmongLive 65 = .ok (.aload_n 3, 1) := by decide +kernel
theorem dX6_tellAmongLive_66 : decode cX6_tellAmongLive 66 = .ok (.iload 6, 2) := by decide +kernel
theorem dX6_tellAmongLive_68 : decode cX6_tellAmongLive 68 = .ok (.iload 8, 2) := by decide +kernel
theorem dX6_tellAmongLive_70 : decode cX6_tellAmongLive 70 = .ok (.iload 4, 2) := by decide +kernel
theorem dX6_tellAmongLive_72 : decode cX6_tellAmongLive 72 = .ok (.invokevirtual 95, 3) := by decide +kernel
theorem dX6_tellAmongLive_75 : decode cX6_tellAmongLive 75 = .ok (.aload_n 0, 1) := by decide +kernel
theorem dX6_tellAmongLive_76 : decode cX6_tellAmongLive 76 = .ok (.getfield 15, 3) := by decide +kernel
theorem dX6_tellAmongLive_79 : decode cX6_tellAmongLive 79 = .ok (.iload 6, 2) := by decide +kernel
theorem dX6_tellAmongLive_81 : decode cX6_tellAmongLive 81 = .ok (.iload 8, 2) := by decide +kernel
theorem dX6_tellAmongLive_83 : decode cX6_tellAmongLive 83 = .ok (.iload 4, 2) := by decide +kernel
theorem dX6_tellAmongLive_85 : decode cX6_tellAmongLive 85 = .ok (.iload_n 1, 1) := by decide +kernel
theorem dX6_tellAmongLive_86 : decode cX6_tellAmongLive 86 = .ok (.iconst 0, 1) := by decide +kernel
theorem dX6_tellAmongLive_87 : decode cX6_tellAmongLive 87 = .ok (.invokevirtual 99, 3) := by decide +kernel
theorem dX6_tellAmongLive_90 : decode cX6_tellAmongLive 90 = .ok (.aload_n 0, 1) := by decide +kernel
theorem dX6_tellAmongLive_91 : decode cX6_tellAmongLive 91 = .ok (.getfield 9, 3) := by decide +kernel
theorem dX6_tellAmongLive_94 : decode cX6_tellAmongLive 94 = .ok (.aload_n 0, 1) := by decide +kernel
theorem dX6_tellAmongLive_95 : decode cX6_tellAmongLive 95 = .ok (.getfield 23, 3) := by decide +kernel
theorem dX6_tellAmongLive_98 : decode cX6_tellAmongLive 98 = .ok (.iload 7, 2) := by decide +kernel
theorem dX6_tellAmongLive_100 : decode cX6_tellAmongLive 100 = .ok (.iaload, 1) := by decide +kernel
theorem dX6_tellAmongLive_101 : decode cX6_tellAmongLive 101 = .ok (.invokevirtual 73, 3) := by decide +kernel
theorem dX6_tellAmongLive_104 : decode cX6_tellAmongLive 104 = .ok (.ireturn, 1) := by decide +kernel
theorem dX6_tellAmongLive_105 : decode cX6_tellAmongLive 105 = .ok (.iload 6, 2) := by decide +kernel
theorem dX6_tellAmongLive_107 : decode cX6_tellAmongLive 107 = .ok (.iload 8, 2) := by decide +kernel
theorem dX6_tellAmongLive_109 : decode cX6_tellAmongLive 109 = .ok (.iadd, 1) := by decide +kernel
theorem dX6_tellAmongLive_110 : decode cX6_tellAmongLive 110 = .ok (.istore 6, 2) := by decide +kernel
theorem dX6_tellAmongLive_112 : decode cX6_tellAmongLive 112 = .ok (.iinc 7 1, 3) := by decide +kernel
theorem dX6_tellAmongLive_115 : decode cX6_tellAmongLive 115 = .ok (.goto (-85), 3) := by decide +kernel
theorem dX6_tellAmongLive_118 : decode cX6_tellAmongLive 118 = .ok (.aload_n 3, 1) := by decide +kernel
theorem dX6_tellAmongLive_119 : decode cX6_tellAmongLive 119 = .ok (.aload_n 0, 1) := by decide +kernel
theorem dX6_tellAmongLive_120 : decode cX6_tellAmongLive 120 = .ok (.getfield 64, 3) := by decide +kernel
theorem dX6_tellAmongLive_123 : decode cX6_tellAmongLive 123 = .ok (.aload_n 0, 1) := by decide +kernel
theorem dX6_tellAmongLive_124 : decode cX6_tellAmongLive 124 = .ok (.getfield 53, 3) := by decide +kernel
theorem dX6_tellAmongLive_127 : decode cX6_tellAmongLive 127 = .ok (.iload 4, 2) := by decide +kernel
theorem dX6_tellAmongLive_129 : decode cX6_tellAmongLive 129 = .ok (.invokevirtual 95, 3) := by decide +kernel
theorem dX6_tellAmongLive_132 : decode cX6_tellAmongLive 132 = .ok (.aload_n 0, 1) := by decide +kernel
theorem dX6_tellAmongLive_133 : decode cX6_tellAmongLive 133 = .ok (.getfield 15, 3) := by decide +kernel
theorem dX6_tellAmongLive_136 : decode cX6_tellAmongLive 136 = .ok (.aload_n 0, 1) := by decide +kernel
theorem dX6_tellAmongLive_137 : decode cX6_tellAmongLive 137 = .ok (.getfield 64, 3) := by decide +kernel
theorem dX6_tellAmongLive_140 : decode cX6_tellAmongLive 140 = .ok (.aload_n 0, 1) := by decide +kernel
theorem dX6_tellAmongLive_141 : decode cX6_tellAmongLive 141 = .ok (.getfield 53, 3) := by decide +kernel
theorem dX6_tellAmongLive_144 : decode cX6_tellAmongLive 144 = .ok (.iload 4, 2) := by decide +kernel
theorem dX6_tellAmongLive_146 : decode cX6_tellAmongLive 146 = .ok (.iload_n 1, 1) := by decide +kernel
theorem dX6_tellAmongLive_147 : decode cX6_tellAmongLive 147 = .ok (.iconst 1, 1) := by decide +kernel
theorem dX6_tellAmongLive_148 : decode cX6_tellAmongLive 148 = .ok (.invokevirtual 99, 3) := by decide +kernel
theorem dX6_tellAmongLive_151 : decode cX6_tellAmongLive 151 = .ok (.aload_n 0, 1) := by decide +kernel
theorem dX6_tellAmongLive_152 : decode cX6_tellAmongLive 152 = .ok (.invokevirtual 105, 3) := by decide +kernel
theorem dX6_tellAmongLive_155 : decode cX6_tellAmongLive 155 = .ok (.iconst (-1), 1) := by decide +kernel
theorem dX6_tellAmongLive_156 : decode cX6_tellAmongLive 156 = .ok (.ireturn, 1) := by decide +kernel
theorem dX6_liveBeginOf_0 : decode cX6_liveBeginOf 0 = .ok (.iconst 0, 1) := by decide +kernel
theorem dX6_liveBeginOf_1 : decode cX6_liveBeginOf 1 = .ok (.istore_n 2, 1) := by decide +kernel
theorem dX6_liveBeginOf_2 : decode cX6_liveBeginOf 2 = .ok (.iconst 0, 1) := by decide +kernel
theorem dX6_liveBeginOf_3 : decode cX6_liveBeginOf 3 = .ok (.istore_n 3, 1) := by decide +kernel
theorem dX6_liveBeginOf_4 : decode cX6_liveBeginOf 4 = .ok (.iload_n 3, 1) := by decide +kernel
theorem dX6_liveBeginOf_5 : decode cX6_liveBeginOf 5 = .ok (.aload_n 0, 1) := by decide +kernel
theorem dX6_liveBeginOf_6 : decode cX6_liveBeginOf 6 = .ok (.getfield 53, 3) := by decide +kernel
theorem dX6_liveBeginOf_9 : decode cX6_liveBeginOf 9 = .ok (.if_icmp .ge 44, 3) := by decide +kernel
theorem dX6_liveBeginOf_12 : decode cX6_liveBeginOf 12 = .ok (.aload_n 0, 1) := by decide +kernel
theorem dX6_liveBeginOf_13 : decode cX6_liveBeginOf 13 = .ok (.getfield 9, 3) := by decide +kernel
theorem dX6_liveBeginOf_16 : decode cX6_liveBeginOf 16 = .ok (.aload_n 0, 1) := by decide +kernel
theorem dX6_liveBeginOf_17 : decode cX6_liveBeginOf 17 = .ok (.getfield 23, 3) := by decide +kernel
theorem dX6_liveBeginOf_20 : decode cX6_liveBeginOf 20 = .ok (.iload_n 3, 1) := by decide +kernel
theorem dX6_liveBeginOf_21 : decode cX6_liveBeginOf 21 = .ok (.iaload, 1) := by decide +kernel
theorem dX6_liveBeginOf_22 : decode cX6_liveBeginOf 22 = .ok (.invokevirtual 73, 3) := by decide +kernel
theorem dX6_liveBeginOf_25 : decode cX6_liveBeginOf 25 = .ok (.iload_n 1, 1) := by decide +kernel
theorem dX6_liveBeginOf_26 : decode cX6_liveBeginOf 26 = .ok (.if_icmp .ne 5, 3) := by decide +kernel
theorem dX6_liveBeginOf_29 : decode cX6_liveBeginOf 29 = .ok (.iload_n 2, 1) := by decide +kernel
theorem dX6_liveBeginOf_30 : decode cX6_liveBeginOf 30 = .ok (.ireturn, 1) := by decide +kernel
theorem dX6_liveBeginOf_31 : decode cX6_liveBeginOf 31 = .ok (.iload_n 2, 1) := by decide +kernel
theorem dX6_liveBeginOf_32 : decode cX6_liveBeginOf 32 = .ok (.aload_n 0, 1) := by decide +kernel
theorem dX6_liveBeginOf_33 : decode cX6_liveBeginOf 33 = .ok (.getfield 9, 3) := by decide +kernel
theorem dX6_liveBeginOf_36 : decode cX6_liveBeginOf 36 = .ok (.aload_n 0, 1) := by decide +kernel
theorem dX6_liveBeginOf_37 : decode cX6_liveBeginOf 37 = .ok (.getfield 23, 3) := by decide +kernel
theorem dX6_liveBeginOf_40 : decode cX6_liveBeginOf 40 = .ok (.iload_n 3, 1) := by decide +kernel
theorem dX6_liveBeginOf_41 : decode cX6_liveBeginOf 41 = .ok (.iaload, 1) := by decide +kernel
theorem dX6_liveBeginOf_42 : decode cX6_liveBeginOf 42 = .ok (.invokevirtual 80, 3) := by decide +kernel
theorem dX6_liveBeginOf_45 : decode cX6_liveBeginOf 45 = .ok (.iadd, 1) := by decide +kernel
theorem dX6_liveBeginOf_46 : decode cX6_liveBeginOf 46 = .ok (.istore_n 2, 1) := by decide +kernel
theorem dX6_liveBeginOf_47 : decode cX6_liveBeginOf 47 = .ok (.iinc 3 1, 3) := by decide +kernel
theorem dX6_liveBeginOf_50 : decode cX6_liveBeginOf 50 = .ok (.goto (-46), 3) := by decide +kernel
theorem dX6_liveBeginOf_53 : decode cX6_liveBeginOf 53 = .ok (.iload_n 2, 1) := by decide +kernel
theorem dX6_liveBeginOf_54 : decode cX6_liveBeginOf 54 = .ok (.ireturn, 1) := by decide +kernel
theorem dX6_putLiveOut_0 : decode cX6_putLiveOut 0 = .ok (.iconst 0, 1) := by decide +kernel
theorem dX6_putLiveOut_1 : decode cX6_putLiveOut 1 = .ok (.istore_n 1, 1) := by decide +kernel
theorem dX6_putLiveOut_2 : decode cX6_putLiveOut 2 = .ok (.iload_n 1, 1) := by decide +kernel
theorem dX6_putLiveOut_3 : decode cX6_putLiveOut 3 = .ok (.aload_n 0, 1) := by decide +kernel
theorem dX6_putLiveOut_4 : decode cX6_putLiveOut 4 = .ok (.getfield 53, 3) := by decide +kernel
theorem dX6_putLiveOut_7 : decode cX6_putLiveOut 7 = .ok (.if_icmp .ge 40, 3) := by decide +kernel
theorem dX6_putLiveOut_10 : decode cX6_putLiveOut 10 = .ok (.aload_n 0, 1) := by decide +kernel
theorem dX6_putLiveOut_11 : decode cX6_putLiveOut 11 = .ok (.getfield 9, 3) := by decide +kernel
theorem dX6_putLiveOut_14 : decode cX6_putLiveOut 14 = .ok (.aload_n 0, 1) := by decide +kernel
theorem dX6_putLiveOut_15 : decode cX6_putLiveOut 15 = .ok (.getfield 23, 3) := by decide +kernel
theorem dX6_putLiveOut_18 : decode cX6_putLiveOut 18 = .ok (.iload_n 1, 1) := by decide +kernel
theorem dX6_putLiveOut_19 : decode cX6_putLiveOut 19 = .ok (.iaload, 1) := by decide +kernel
theorem dX6_putLiveOut_20 : decode cX6_putLiveOut 20 = .ok (.invokevirtual 73, 3) := by decide +kernel
theorem dX6_putLiveOut_23 : decode cX6_putLiveOut 23 = .ok (.istore_n 2, 1) := by decide +kernel
theorem dX6_putLiveOut_24 : decode cX6_putLiveOut 24 = .ok (.iload_n 2, 1) := by decide +kernel
theorem dX6_putLiveOut_25 : decode cX6_putLiveOut 25 = .ok (.invokestatic 108, 3) := by decide +kernel
theorem dX6_putLiveOut_28 : decode cX6_putLiveOut 28 = .ok (.ifCond .eq 13, 3) := by decide +kernel
theorem dX6_putLiveOut_31 : decode cX6_putLiveOut 31 = .ok (.aload_n 0, 1) := by decide +kernel
theorem dX6_putLiveOut_32 : decode cX6_putLiveOut 32 = .ok (.getfield 19, 3) := by decide +kernel
theorem dX6_putLiveOut_35 : decode cX6_putLiveOut 35 = .ok (.iload_n 2, 1) := by decide +kernel
theorem dX6_putLiveOut_36 : decode cX6_putLiveOut 36 = .ok (.aload_n 0, 1) := by decide +kernel
theorem dX6_putLiveOut_37 : decode cX6_putLiveOut 37 = .ok (.getfield 30, 3) := by decide +kernel
theorem dX6_putLiveOut_40 : decode cX6_putLiveOut 40 = .ok (.iastore, 1) := by decide +kernel
theorem dX6_putLiveOut_41 : decode cX6_putLiveOut 41 = .ok (.iinc 1 1, 3) := by decide +kernel
theorem dX6_putLiveOut_44 : decode cX6_putLiveOut 44 = .ok (.goto (-42), 3) := by decide +kernel
theorem dX6_putLiveOut_47 : decode cX6_putLiveOut 47 = .ok (.aload_n 0, 1) := by decide +kernel
theorem dX6_putLiveOut_48 : decode cX6_putLiveOut 48 = .ok (.dup, 1) := by decide +kernel
theorem dX6_putLiveOut_49 : decode cX6_putLiveOut 49 = .ok (.getfield 33, 3) := by decide +kernel
theorem dX6_putLiveOut_52 : decode cX6_putLiveOut 52 = .ok (.aload_n 0, 1) := by decide +kernel
theorem dX6_putLiveOut_53 : decode cX6_putLiveOut 53 = .ok (.getfield 53, 3) := by decide +kernel
theorem dX6_putLiveOut_56 : decode cX6_putLiveOut 56 = .ok (.iadd, 1) := by decide +kernel
theorem dX6_putLiveOut_57 : decode cX6_putLiveOut 57 = .ok (.putfield 33, 3) := by decide +kernel
theorem dX6_putLiveOut_60 : decode cX6_putLiveOut 60 = .ok (.return_, 1) := by decide +kernel
theorem dX6_isOut_0 : decode cX6_isOut 0 = .ok (.iload_n 1, 1) := by decide +kernel
theorem dX6_isOut_1 : decode cX6_isOut 1 = .ok (.invokestatic 108, 3) := by decide +kernel
theorem dX6_isOut_4 : decode cX6_isOut 4 = .ok (.ifCond .eq 20, 3) := by decide +kernel
theorem dX6_isOut_7 : decode cX6_isOut 7 = .ok (.aload_n 0, 1) := by decide +kernel
theorem dX6_isOut_8 : decode cX6_isOut 8 = .ok (.getfield 19, 3) := by decide +kernel
theorem dX6_isOut_11 : decode cX6_isOut 11 = .ok (.iload_n 1, 1) := by decide +kernel
theorem dX6_isOut_12 : decode cX6_isOut 12 = .ok (.iaload, 1) := by decide +kernel
theorem dX6_isOut_13 : decode cX6_isOut 13 = .ok (.aload_n 0, 1) := by decide +kernel
theorem dX6_isOut_14 : decode cX6_isOut 14 = .ok (.getfield 30, 3) := by decide +kernel
theorem dX6_isOut_17 : decode cX6_isOut 17 = .ok (.if_icmp .ne 7, 3) := by decide +kernel
theorem dX6_isOut_20 : decode cX6_isOut 20 = .ok (.iconst 1, 1) := by decide +kernel
theorem dX6_isOut_21 : decode cX6_isOut 21 = .ok (.goto 4, 3) := by decide +kernel
theorem dX6_isOut_24 : decode cX6_isOut 24 = .ok (.iconst 0, 1) := by decide +kernel
theorem dX6_isOut_25 : decode cX6_isOut 25 = .ok (.ireturn, 1) := by decide +kernel
theorem dX6_tellPlainly_0 : decode cX6_tellPlainly 0 = .ok (.sipush 257, 3) := by decide +kernel
theorem dX6_tellPlainly_3 : decode cX6_tellPlainly 3 = .ok (.aload_n 0, 1) := by decide +kernel
theorem dX6_tellPlainly_4 : decode cX6_tellPlainly 4 = .ok (.getfield 33, 3) := by decide +kernel
theorem dX6_tellPlainly_7 : decode cX6_tellPlainly 7 = .ok (.isub, 1) := by decide +kernel
theorem dX6_tellPlainly_8 : decode cX6_tellPlainly 8 = .ok (.istore_n 3, 1) := by decide +kernel
theorem dX6_tellPlainly_9 : decode cX6_tellPlainly 9 = .ok (.aload_n 2, 1) := by decide +kernel
theorem dX6_tellPlainly_10 : decode cX6_tellPlainly 10 = .ok (.iload_n 3, 1) := by decide +kernel
theorem dX6_tellPlainly_11 : decode cX6_tellPlainly 11 = .ok (.aload_n 0, 1) := by decide +kernel
theorem dX6_tellPlainly_12 : decode cX6_tellPlainly 12 = .ok (.iload_n 1, 1) := by decide +kernel
theorem dX6_tellPlainly_13 : decode cX6_tellPlainly 13 = .ok (.invokevirtual 111, 3) := by decide +kernel
theorem dX6_tellPlainly_16 : decode cX6_tellPlainly 16 = .ok (.invokevirtual 89, 3) := by decide +kernel
theorem dX6_tellPlainly_19 : decode cX6_tellPlainly 19 = .ok (.istore 4, 2) := by decide +kernel
theorem dX6_tellPlainly_21 : decode cX6_tellPlainly 21 = .ok (.aload_n 2, 1) := by decide +kernel
theorem dX6_tellPlainly_22 : decode cX6_tellPlainly 22 = .ok (.iload 4, 2) := by decide +kernel
theorem dX6_tellPlainly_24 : decode cX6_tellPlainly 24 = .ok (.iconst 1, 1) := by decide +kernel
theorem dX6_tellPlainly_25 : decode cX6_tellPlainly 25 = .ok (.iload_n 3, 1) := by decide +kernel
theorem dX6_tellPlainly_26 : decode cX6_tellPlainly 26 = .ok (.invokevirtual 95, 3) := by decide +kernel
theorem dX6_tellPlainly_29 : decode cX6_tellPlainly 29 = .ok (.aload_n 0, 1) := by decide +kernel
theorem dX6_tellPlainly_30 : decode cX6_tellPlainly 30 = .ok (.getfield 15, 3) := by decide +kernel
theorem dX6_tellPlainly_33 : decode cX6_tellPlainly 33 = .ok (.iload 4, 2) := by decide +kernel
theorem dX6_tellPlainly_35 : decode cX6_tellPlainly 35 = .ok (.iconst 1, 1) := by decide +kernel
theorem dX6_tellPlainly_36 : decode cX6_tellPlainly 36 = .ok (.iload_n 3, 1) := by decide +kernel
theorem dX6_tellPlainly_37 : decode cX6_tellPlainly 37 = .ok (.iconst (-1), 1) := by decide +kernel
theorem dX6_tellPlainly_38 : decode cX6_tellPlainly 38 = .ok (.iconst 0, 1) := by decide +kernel
theorem dX6_tellPlainly_39 : decode cX6_tellPlainly 39 = .ok (.invokevirtual 99, 3) := by decide +kernel
theorem dX6_tellPlainly_42 : decode cX6_tellPlainly 42 = .ok (.aload_n 0, 1) := by decide +kernel
theorem dX6_tellPlainly_43 : decode cX6_tellPlainly 43 = .ok (.iload 4, 2) := by decide +kernel
theorem dX6_tellPlainly_45 : decode cX6_tellPlainly 45 = .ok (.invokevirtual 114, 3) := by decide +kernel
theorem dX6_tellPlainly_48 : decode cX6_tellPlainly 48 = .ok (.ireturn, 1) := by decide +kernel
theorem dX6_plainBeginOf_0 : decode cX6_plainBeginOf 0 = .ok (.iconst 0, 1) := by decide +kernel
theorem dX6_plainBeginOf_1 : decode cX6_plainBeginOf 1 = .ok (.istore_n 2, 1) := by decide +kernel
theorem dX6_plainBeginOf_2 : decode cX6_plainBeginOf 2 = .ok (.iconst 0, 1) := by decide +kernel
theorem dX6_plainBeginOf_3 : decode cX6_plainBeginOf 3 = .ok (.istore_n 3, 1) := by decide +kernel
theorem dX6_plainBeginOf_4 : decode cX6_plainBeginOf 4 = .ok (.iload_n 3, 1) := by decide +kernel
theorem dX6_plainBeginOf_5 : decode cX6_plainBeginOf 5 = .ok (.iload_n 1, 1) := by decide +kernel
theorem dX6_plainBeginOf_6 : decode cX6_plainBeginOf 6 = .ok (.if_icmp .ge 27, 3) := by decide +kernel
theorem dX6_plainBeginOf_9 : decode cX6_plainBeginOf 9 = .ok (.iload_n 3, 1) := by decide +kernel
theorem dX6_plainBeginOf_10 : decode cX6_plainBeginOf 10 = .ok (.sipush 256, 3) := by decide +kernel
theorem dX6_plainBeginOf_13 : decode cX6_plainBeginOf 13 = .ok (.if_icmp .ge 20, 3) := by decide +kernel
theorem dX6_plainBeginOf_16 : decode cX6_plainBeginOf 16 = .ok (.aload_n 0, 1) := by decide +kernel
theorem dX6_plainBeginOf_17 : decode cX6_plainBeginOf 17 = .ok (.iload_n 3, 1) := by decide +kernel
theorem dX6_plainBeginOf_18 : decode cX6_plainBeginOf 18 = .ok (.invokevirtual 76, 3) := by decide +kernel
theorem dX6_plainBeginOf_21 : decode cX6_plainBeginOf 21 = .ok (.ifCond .ne 6, 3) := by decide +kernel
theorem dX6_plainBeginOf_24 : decode cX6_plainBeginOf 24 = .ok (.iinc 2 1, 3) := by decide +kernel
theorem dX6_plainBeginOf_27 : decode cX6_plainBeginOf 27 = .ok (.iinc 3 1, 3) := by decide +kernel
theorem dX6_plainBeginOf_30 : decode cX6_plainBeginOf 30 = .ok (.goto (-26), 3) := by decide +kernel
theorem dX6_plainBeginOf_33 : decode cX6_plainBeginOf 33 = .ok (.iload_n 2, 1) := by decide +kernel
theorem dX6_plainBeginOf_34 : decode cX6_plainBeginOf 34 = .ok (.ireturn, 1) := by decide +kernel
theorem dX6_plainSymbolAt_0 : decode cX6_plainSymbolAt 0 = .ok (.iconst 0, 1) := by decide +kernel
theorem dX6_plainSymbolAt_1 : decode cX6_plainSymbolAt 1 = .ok (.istore_n 2, 1) := by decide +kernel
theorem dX6_plainSymbolAt_2 : decode cX6_plainSymbolAt 2 = .ok (.iconst 0, 1) := by decide +kernel
theorem dX6_plainSymbolAt_3 : decode cX6_plainSymbolAt 3 = .ok (.istore_n 3, 1) := by decide +kernel
theorem dX6_plainSymbolAt_4 : decode cX6_plainSymbolAt 4 = .ok (.iload_n 3, 1) := by decide +kernel
theorem dX6_plainSymbolAt_5 : decode cX6_plainSymbolAt 5 = .ok (.sipush 256, 3) := by decide +kernel
theorem dX6_plainSymbolAt_8 : decode cX6_plainSymbolAt 8 = .ok (.if_icmp .ge 27, 3) := by decide +kernel
theorem dX6_plainSymbolAt_11 : decode cX6_plainSymbolAt 11 = .ok (.aload_n 0, 1) := by decide +kernel
theorem dX6_plainSymbolAt_12 : decode cX6_plainSymbolAt 12 = .ok (.iload_n 3, 1) := by decide +kernel
theorem dX6_plainSymbolAt_13 : decode cX6_plainSymbolAt 13 = .ok (.invokevirtual 76, 3) := by decide +kernel
theorem dX6_plainSymbolAt_16 : decode cX6_plainSymbolAt 16 = .ok (.ifCond .ne 13, 3) := by decide +kernel
theorem dX6_plainSymbolAt_19 : decode cX6_plainSymbolAt 19 = .ok (.iload_n 2, 1) := by decide +kernel
theorem dX6_plainSymbolAt_20 : decode cX6_plainSymbolAt 20 = .ok (.iload_n 1, 1) := by decide +kernel
theorem dX6_plainSymbolAt_21 : decode cX6_plainSymbolAt 21 = .ok (.if_icmp .ne 5, 3) := by decide +kernel
theorem dX6_plainSymbolAt_24 : decode cX6_plainSymbolAt 24 = .ok (.iload_n 3, 1) := by decide +kernel
theorem dX6_plainSymbolAt_25 : decode cX6_plainSymbolAt 25 = .ok (.ireturn, 1) := by decide +kernel
theorem dX6_plainSymbolAt_26 : decode cX6_plainSymbolAt 26 = .ok (.iinc 2 1, 3) := by decide +kernel
theorem dX6_plainSymbolAt_29 : decode cX6_plainSymbolAt 29 = .ok (.iinc 3 1, 3) := by decide +kernel
theorem dX6_plainSymbolAt_32 : decode cX6_plainSymbolAt 32 = .ok (.goto (-28), 3) := by decide +kernel
theorem dX6_plainSymbolAt_35 : decode cX6_plainSymbolAt 35 = .ok (.sipush 256, 3) := by decide +kernel
theorem dX6_plainSymbolAt_38 : decode cX6_plainSymbolAt 38 = .ok (.ireturn, 1) := by decide +kernel
theorem dX7_init_0 : decode cX7_init 0 = .ok (.aload_n 0, 1) := by decide +kernel
theorem dX7_init_1 : decode cX7_init 1 = .ok (.invokespecial 1, 3) := by decide +kernel
theorem dX7_init_4 : decode cX7_init 4 = .ok (.aload_n 0, 1) := by decide +kernel
theorem dX7_init_5 : decode cX7_init 5 = .ok (.new 7, 3) := by decide +kernel
theorem dX7_init_8 : decode cX7_init 8 = .ok (.dup, 1) := by decide +kernel
theorem dX7_init_9 : decode cX7_init 9 = .ok (.sipush 4000, 3) := by decide +kernel
theorem dX7_init_12 : decode cX7_init 12 = .ok (.invokespecial 11, 3) := by decide +kernel
theorem dX7_init_15 : decode cX7_init 15 = .ok (.putfield 14, 3) := by decide +kernel
theorem dX7_init_18 : decode cX7_init 18 = .ok (.aload_n 0, 1) := by decide +kernel
theorem dX7_init_19 : decode cX7_init 19 = .ok (.new 7, 3) := by decide +kernel
theorem dX7_init_22 : decode cX7_init 22 = .ok (.dup, 1) := by decide +kernel
theorem dX7_init_23 : decode cX7_init 23 = .ok (.sipush 8000, 3) := by decide +kernel
theorem dX7_init_26 : decode cX7_init 26 = .ok (.invokespecial 11, 3) := by decide +kernel
theorem dX7_init_29 : decode cX7_init 29 = .ok (.putfield 18, 3) := by decide +kernel
theorem dX7_init_32 : decode cX7_init 32 = .ok (.aload_n 0, 1) := by decide +kernel
theorem dX7_init_33 : decode cX7_init 33 = .ok (.new 7, 3) := by decide +kernel
theorem dX7_init_36 : decode cX7_init 36 = .ok (.dup, 1) := by decide +kernel
theorem dX7_init_37 : decode cX7_init 37 = .ok (.sipush 4000, 3) := by decide +kernel
theorem dX7_init_40 : decode cX7_init 40 = .ok (.invokespecial 11, 3) := by decide +kernel
theorem dX7_init_43 : decode cX7_init 43 = .ok (.putfield 21, 3) := by decide +kernel
theorem dX7_init_46 : decode cX7_init 46 = .ok (.aload_n 0, 1) := by decide +kernel
theorem dX7_init_47 : decode cX7_init 47 = .ok (.new 24, 3) := by decide +kernel
theorem dX7_init_50 : decode cX7_init 50 = .ok (.dup, 1) := by decide +kernel
theorem dX7_init_51 : decode cX7_init 51 = .ok (.invokespecial 26, 3) := by decide +kernel
theorem dX7_init_54 : decode cX7_init 54 = .ok (.putfield 27, 3) := by decide +kernel
theorem dX7_init_57 : decode cX7_init 57 = .ok (.aload_n 0, 1) := by decide +kernel
theorem dX7_init_58 : decode cX7_init 58 = .ok (.new 31, 3) := by decide +kernel
theorem dX7_init_61 : decode cX7_init 61 = .ok (.dup, 1) := by decide +kernel
theorem dX7_init_62 : decode cX7_init 62 = .ok (.sipush 2000, 3) := by decide +kernel
theorem dX7_init_65 : decode cX7_init 65 = .ok (.invokespecial 33, 3) := by decide +kernel
theorem dX7_init_68 : decode cX7_init 68 = .ok (.putfield 34, 3) := by decide +kernel
theorem dX7_init_71 : decode cX7_init 71 = .ok (.aload_n 0, 1) := by decide +kernel
theorem dX7_init_72 : decode cX7_init 72 = .ok (.new 38, 3) := by decide +kernel
theorem dX7_init_75 : decode cX7_init 75 = .ok (.dup, 1) := by decide +kernel
theorem dX7_init_76 : decode cX7_init 76 = .ok (.aload_n 0, 1) := by decide +kernel
theorem dX7_init_77 : decode cX7_init 77 = .ok (.getfield 34, 3) := by decide +kernel
theorem dX7_init_80 : decode cX7_init 80 = .ok (.aload_n 0, 1) := by decide +kernel
theorem dX7_init_81 : decode cX7_init 81 = .ok (.getfield 27, 3) := by decide +kernel
theorem dX7_init_84 : decode cX7_init 84 = .ok (.invokespecial 40, 3) := by decide +kernel
theorem dX7_init_87 : decode cX7_init 87 = .ok (.putfield 43, 3) := by decide +kernel
theorem dX7_init_90 : decode cX7_init 90 = .ok (.aload_n 0, 1) := by decide +kernel
theorem dX7_init_91 : decode cX7_init 91 = .ok (.new 47, 3) := by decide +kernel
theorem dX7_init_94 : decode cX7_init 94 = .ok (.dup, 1) := by decide +kernel
theorem dX7_init_95 : decode cX7_init 95 = .ok (.aload_n 0, 1) := by decide +kernel
theorem dX7_init_96 : decode cX7_init 96 = .ok (.getfield 18, 3) := by decide +kernel
theorem dX7_init_99 : decode cX7_init 99 = .ok (.invokespecial 49, 3) := by decide +kernel
theorem dX7_init_102 : decode cX7_init 102 = .ok (.putfield 52, 3) := by decide +kernel
theorem dX7_init_105 : decode cX7_init 105 = .ok (.aload_n 0, 1) := by decide +kernel
theorem dX7_init_106 : decode cX7_init 106 = .ok (.new 56, 3) := by decide +kernel
theorem dX7_init_109 : decode cX7_init 109 = .ok (.dup, 1) := by decide +kernel
theorem dX7_init_110 : decode cX7_init 110 = .ok (.aload_n 0, 1) := by decide +kernel
theorem dX7_init_111 : decode cX7_init 111 = .ok (.getfield 18, 3) := by decide +kernel
theorem dX7_init_114 : decode cX7_init 114 = .ok (.invokespecial 58, 3) := by decide +kernel
theorem dX7_init_117 : decode cX7_init 117 = .ok (.putfield 59, 3) := by decide +kernel
theorem dX7_init_120 : decode cX7_init 120 = .ok (.return_, 1) := by decide +kernel
theorem dX7_begin_0 : decode cX7_begin 0 = .ok (.iload_n 1, 1) := by decide +kernel
theorem dX7_begin_1 : decode cX7_begin 1 = .ok (.iconst 4, 1) := by decide +kernel
theorem dX7_begin_2 : decode cX7_begin 2 = .ok (.if_icmp .lt 10, 3) := by decide +kernel
theorem dX7_begin_5 : decode cX7_begin 5 = .ok (.iload_n 1, 1) := by decide +kernel
theorem dX7_begin_6 : decode cX7_begin 6 = .ok (.sipush 6000, 3) := by decide +kernel
theorem dX7_begin_9 : decode cX7_begin 9 = .ok (.if_icmp .le 5, 3) := by decide +kernel
theorem dX7_begin_12 : decode cX7_begin 12 = .ok (.iconst 0, 1) := by decide +kernel
theorem dX7_begin_13 : decode cX7_begin 13 = .ok (.ireturn, 1) := by decide +kernel
theorem dX7_begin_14 : decode cX7_begin 14 = .ok (.aload_n 0, 1) := by decide +kernel
theorem dX7_begin_15 : decode cX7_begin 15 = .ok (.getfield 14, 3) := by decide +kernel
theorem dX7_begin_18 : decode cX7_begin 18 = .ok (.invokevirtual 63, 3) := by decide +kernel
theorem dX7_begin_21 : decode cX7_begin 21 = .ok (.aload_n 0, 1) := by decide +kernel
theorem dX7_begin_22 : decode cX7_begin 22 = .ok (.getfield 18, 3) := by decide +kernel
theorem dX7_begin_25 : decode cX7_begin 25 = .ok (.invokevirtual 63, 3) := by decide +kernel
theorem dX7_begin_28 : decode cX7_begin 28 = .ok (.aload_n 0, 1) := by decide +kernel
theorem dX7_begin_29 : decode cX7_begin 29 = .ok (.getfield 21, 3) := by decide +kernel
theorem dX7_begin_32 : decode cX7_begin 32 = .ok (.invokevirtual 63, 3) := by decide +kernel
theorem dX7_begin_35 : decode cX7_begin 35 = .ok (.aload_n 0, 1) := by decide +kernel
theorem dX7_begin_36 : decode cX7_begin 36 = .ok (.getfield 27, 3) := by decide +kernel
theorem dX7_begin_39 : decode cX7_begin 39 = .ok (.invokevirtual 66, 3) := by decide +kernel
theorem dX7_begin_42 : decode cX7_begin 42 = .ok (.aload_n 0, 1) := by decide +kernel
theorem dX7_begin_43 : decode cX7_begin 43 = .ok (.getfield 34, 3) := by decide +kernel
theorem dX7_begin_46 : decode cX7_begin 46 = .ok (.invokevirtual 67, 3) := by decide +kernel
theorem dX7_begin_49 : decode cX7_begin 49 = .ok (.aload_n 0, 1) := by decide +kernel
theorem dX7_begin_50 : decode cX7_begin 50 = .ok (.getfield 34, 3) := by decide +kernel
theorem dX7_begin_53 : decode cX7_begin 53 = .ok (.iload_n 1, 1) := by decide +kernel
theorem dX7_begin_54 : decode cX7_begin 54 = .ok (.invokevirtual 70, 3) := by decide +kernel
theorem dX7_begin_57 : decode cX7_begin 57 = .ok (.aload_n 0, 1) := by decide +kernel
theorem dX7_begin_58 : decode cX7_begin 58 = .ok (.lconst 0, 1) := by decide +kernel
theorem dX7_begin_59 : decode cX7_begin 59 = .ok (.putfield 73, 3) := by decide +kernel
theorem dX7_begin_62 : decode cX7_begin 62 = .ok (.aload_n 0, 1) := by decide +kernel
theorem dX7_begin_63 : decode cX7_begin 63 = .ok (.lconst 0, 1) := by decide +kernel
theorem dX7_begin_64 : decode cX7_begin 64 = .ok (.putfield 77, 3) := by decide +kernel
theorem dX7_begin_67 : decode cX7_begin 67 = .ok (.iconst 1, 1) := by decide +kernel
theorem dX7_begin_68 : decode cX7_begin 68 = .ok (.ireturn, 1) := by decide +kernel
theorem dX7_feed_0 : decode cX7_feed 0 = .ok (.aload_n 0, 1) := by decide +kernel
theorem dX7_feed_1 : decode cX7_feed 1 = .ok (.getfield 14, 3) := by decide +kernel
theorem dX7_feed_4 : decode cX7_feed 4 = .ok (.iload_n 1, 1) := by decide +kernel
theorem dX7_feed_5 : decode cX7_feed 5 = .ok (.invokevirtual 80, 3) := by decide +kernel
theorem dX7_feed_8 : decode cX7_feed 8 = .ok (.ireturn, 1) := by decide +kernel
theorem dX7_cut_0 : decode cX7_cut 0 = .ok (.aload_n 0, 1) := by decide +kernel
theorem dX7_cut_1 : decode cX7_cut 1 = .ok (.getfield 14, 3) := by decide +kernel
theorem dX7_cut_4 : decode cX7_cut 4 = .ok (.iload_n 1, 1) := by decide +kernel
theorem dX7_cut_5 : decode cX7_cut 5 = .ok (.invokevirtual 84, 3) := by decide +kernel
theorem dX7_cut_8 : decode cX7_cut 8 = .ok (.ireturn, 1) := by decide +kernel
theorem dX7_encode_0 : decode cX7_encode 0 = .ok (.aload_n 0, 1) := by decide +kernel
theorem dX7_encode_1 : decode cX7_encode 1 = .ok (.getfield 27, 3) := by decide +kernel
theorem dX7_encode_4 : decode cX7_encode 4 = .ok (.invokevirtual 66, 3) := by decide +kernel
theorem dX7_encode_7 : decode cX7_encode 7 = .ok (.aload_n 0, 1) := by decide +kernel
theorem dX7_encode_8 : decode cX7_encode 8 = .ok (.getfield 34, 3) := by decide +kernel
theorem dX7_encode_11 : decode cX7_encode 11 = .ok (.invokevirtual 67, 3) := by decide +kernel
theorem dX7_encode_14 : decode cX7_encode 14 = .ok (.aload_n 0, 1) := by decide +kernel
theorem dX7_encode_15 : decode cX7_encode 15 = .ok (.getfield 52, 3) := by decide +kernel
theorem dX7_encode_18 : decode cX7_encode 18 = .ok (.invokevirtual 87, 3) := by decide +kernel
theorem dX7_encode_21 : decode cX7_encode 21 = .ok (.iconst 0, 1) := by decide +kernel
theorem dX7_encode_22 : decode cX7_encode 22 = .ok (.istore_n 1, 1) := by decide +kernel
theorem dX7_encode_23 : decode cX7_encode 23 = .ok (.iload_n 1, 1) := by decide +kernel
theorem dX7_encode_24 : decode cX7_encode 24 = .ok (.aload_n 0, 1) := by decide +kernel
theorem dX7_encode_25 : decode cX7_encode 25 = .ok (.getfield 14, 3) := by decide +kernel
theorem dX7_encode_28 : decode cX7_encode 28 = .ok (.invokevirtual 88, 3) := by decide +kernel
theorem dX7_encode_31 : decode cX7_encode 31 = .ok (.if_icmp .ge 46, 3) := by decide +kernel
theorem dX7_encode_34 : decode cX7_encode 34 = .ok (.aload_n 0, 1) := by decide +kernel
theorem dX7_encode_35 : decode cX7_encode 35 = .ok (.getfield 14, 3) := by decide +kernel
theorem dX7_encode_38 : decode cX7_encode 38 = .ok (.iload_n 1, 1) := by decide +kernel
theorem dX7_encode_39 : decode cX7_encode 39 = .ok (.invokevirtual 92, 3) := by decide +kernel
theorem dX7_encode_42 : decode cX7_encode 42 = .ok (.istore_n 2, 1) := by decide +kernel
theorem dX7_encode_43 : decode cX7_encode 43 = .ok (.aload_n 0, 1) := by decide +kernel
theorem dX7_encode_44 : decode cX7_encode 44 = .ok (.getfield 43, 3) := by decide +kernel
theorem dX7_encode_47 : decode cX7_encode 47 = .ok (.iload_n 2, 1) := by decide +kernel
theorem dX7_encode_48 : decode cX7_encode 48 = .ok (.aload_n 0, 1) := by decide +kernel
theorem dX7_encode_49 : decode cX7_encode 49 = .ok (.getfield 52, 3) := by decide +kernel
theorem dX7_encode_52 : decode cX7_encode 52 = .ok (.invokevirtual 96, 3) := by decide +kernel
theorem dX7_encode_55 : decode cX7_encode 55 = .ok (.pop, 1) := by decide +kernel
theorem dX7_encode_56 : decode cX7_encode 56 = .ok (.aload_n 0, 1) := by decide +kernel
theorem dX7_encode_57 : decode cX7_encode 57 = .ok (.getfield 34, 3) := by decide +kernel
theorem dX7_encode_60 : decode cX7_encode 60 = .ok (.iload_n 2, 1) := by decide +kernel
theorem dX7_encode_61 : decode cX7_encode 61 = .ok (.aload_n 0, 1) := by decide +kernel
theorem dX7_encode_62 : decode cX7_encode 62 = .ok (.getfield 43, 3) := by decide +kernel
theorem dX7_encode_65 : decode cX7_encode 65 = .ok (.invokevirtual 100, 3) := by decide +kernel
theorem dX7_encode_68 : decode cX7_encode 68 = .ok (.invokevirtual 103, 3) := by decide +kernel
theorem dX7_encode_71 : decode cX7_encode 71 = .ok (.iinc 1 1, 3) := by decide +kernel
theorem dX7_encode_74 : decode cX7_encode 74 = .ok (.goto (-51), 3) := by decide +kernel
theorem dX7_encode_77 : decode cX7_encode 77 = .ok (.aload_n 0, 1) := by decide +kernel
theorem dX7_encode_78 : decode cX7_encode 78 = .ok (.getfield 43, 3) := by decide +kernel
theorem dX7_encode_81 : decode cX7_encode 81 = .ok (.sipush 256, 3) := by decide +kernel
theorem dX7_encode_84 : decode cX7_encode 84 = .ok (.aload_n 0, 1) := by decide +kernel
theorem dX7_encode_85 : decode cX7_encode 85 = .ok (.getfield 52, 3) := by decide +kernel
theorem dX7_encode_88 : decode cX7_encode 88 = .ok (.invokevirtual 96, 3) := by decide +kernel
theorem dX7_encode_91 : decode cX7_encode 91 = .ok (.pop, 1) := by decide +kernel
theorem dX7_encode_92 : decode cX7_encode 92 = .ok (.aload_n 0, 1) := by decide +kernel
theorem dX7_encode_93 : decode cX7_encode 93 = .ok (.aload_n 0, 1) := by decide +kernel
theorem dX7_encode_94 : decode cX7_encode 94 = .ok (.getfield 52, 3) := by decide +kernel
theorem dX7_encode_97 : decode cX7_encode 97 = .ok (.invokevirtual 107, 3) := by decide +kernel
theorem dX7_encode_100 : decode cX7_encode 100 = .ok (.aload_n 0, 1) := by decide +kernel
theorem dX7_encode_101 : decode cX7_encode 101 = .ok (.getfield 52, 3) := by decide +kernel
theorem dX7_encode_104 : decode cX7_encode 104 = .ok (.invokevirtual 111, 3) := by decide +kernel
theorem dX7_encode_107 : decode cX7_encode 107 = .ok (.ifCond .eq 13, 3) := by decide +kernel
theorem dX7_encode_110 : decode cX7_encode 110 = .ok (.aload_n 0, 1) := by decide +kernel
theorem dX7_encode_111 : decode cX7_encode 111 = .ok (.getfield 18, 3) := by decide +kernel
theorem dX7_encode_114 : decode cX7_encode 114 = .ok (.invokevirtual 88, 3) := by decide +kernel
theorem dX7_encode_117 : decode cX7_encode 117 = .ok (.goto 4, 3) := by decide +kernel
theorem dX7_encode_120 : decode cX7_encode 120 = .ok (.iconst (-1), 1) := by decide +kernel
theorem dX7_encode_121 : decode cX7_encode 121 = .ok (.ireturn, 1) := by decide +kernel
theorem dX7_decode_0 : decode cX7_decode 0 = .ok (.aload_n 0, 1) := by decide +kernel
theorem dX7_decode_1 : decode cX7_decode 1 = .ok (.getfield 27, 3) := by decide +kernel
theorem dX7_decode_4 : decode cX7_decode 4 = .ok (.invokevirtual 66, 3) := by decide +kernel
theorem dX7_decode_7 : decode cX7_decode 7 = .ok (.aload_n 0, 1) := by decide +kernel
theorem dX7_decode_8 : decode cX7_decode 8 = .ok (.getfield 34, 3) := by decide +kernel
theorem dX7_decode_11 : decode cX7_decode 11 = .ok (.invokevirtual 67, 3) := by decide +kernel
theorem dX7_decode_14 : decode cX7_decode 14 = .ok (.aload_n 0, 1) := by decide +kernel
theorem dX7_decode_15 : decode cX7_decode 15 = .ok (.getfield 59, 3) := by decide +kernel
theorem dX7_decode_18 : decode cX7_decode 18 = .ok (.invokevirtual 115, 3) := by decide +kernel
theorem dX7_decode_21 : decode cX7_decode 21 = .ok (.aload_n 0, 1) := by decide +kernel
theorem dX7_decode_22 : decode cX7_decode 22 = .ok (.getfield 21, 3) := by decide +kernel
theorem dX7_decode_25 : decode cX7_decode 25 = .ok (.invokevirtual 63, 3) := by decide +kernel
theorem dX7_decode_28 : decode cX7_decode 28 = .ok (.aload_n 0, 1) := by decide +kernel
theorem dX7_decode_29 : decode cX7_decode 29 = .ok (.invokevirtual 116, 3) := by decide +kernel
theorem dX7_decode_32 : decode cX7_decode 32 = .ok (.istore_n 1, 1) := by decide +kernel
theorem dX7_decode_33 : decode cX7_decode 33 = .ok (.aload_n 0, 1) := by decide +kernel
theorem dX7_decode_34 : decode cX7_decode 34 = .ok (.aload_n 0, 1) := by decide +kernel
theorem dX7_decode_35 : decode cX7_decode 35 = .ok (.getfield 59, 3) := by decide +kernel
theorem dX7_decode_38 : decode cX7_decode 38 = .ok (.invokevirtual 107, 3) := by decide +kernel
theorem dX7_decode_41 : decode cX7_decode 41 = .ok (.iload_n 1, 1) := by decide +kernel
theorem dX7_decode_42 : decode cX7_decode 42 = .ok (.ifCond .eq 26, 3) := by decide +kernel
theorem dX7_decode_45 : decode cX7_decode 45 = .ok (.aload_n 0, 1) := by decide +kernel
theorem dX7_decode_46 : decode cX7_decode 46 = .ok (.getfield 18, 3) := by decide +kernel
theorem dX7_decode_49 : decode cX7_decode 49 = .ok (.invokevirtual 88, 3) := by decide +kernel
theorem dX7_decode_52 : decode cX7_decode 52 = .ok (.iconst 4, 1) := by decide +kernel
theorem dX7_decode_53 : decode cX7_decode 53 = .ok (.aload_n 0, 1) := by decide +kernel
theorem dX7_decode_54 : decode cX7_decode 54 = .ok (.getfield 59, 3) := by decide +kernel
theorem dX7_decode_57 : decode cX7_decode 57 = .ok (.invokevirtual 119, 3) := by decide +kernel
theorem dX7_decode_60 : decode cX7_decode 60 = .ok (.iadd, 1) := by decide +kernel
theorem dX7_decode_61 : decode cX7_decode 61 = .ok (.if_icmp .ne 7, 3) := by decide +kernel
theorem dX7_decode_64 : decode cX7_decode 64 = .ok (.iconst 1, 1) := by decide +kernel
theorem dX7_decode_65 : decode cX7_decode 65 = .ok (.goto 4, 3) := by decide +kernel
theorem dX7_decode_68 : decode cX7_decode 68 = .ok (.iconst 0, 1) := by decide +kernel
theorem dX7_decode_69 : decode cX7_decode 69 = .ok (.istore_n 2, 1) := by decide +kernel
theorem dX7_decode_70 : decode cX7_decode 70 = .ok (.iload_n 2, 1) := by decide +kernel
theorem dX7_decode_71 : decode cX7_decode 71 = .ok (.ifCond .eq 13, 3) := by decide +kernel
theorem dX7_decode_74 : decode cX7_decode 74 = .ok (.aload_n 0, 1) := by decide +kernel
theorem dX7_decode_75 : decode cX7_decode 75 = .ok (.getfield 21, 3) := by decide +kernel
theorem dX7_decode_78 : decode cX7_decode 78 = .ok (.invokevirtual 88, 3) := by decide +kernel
theorem dX7_decode_81 : decode cX7_decode 81 = .ok (.goto 4, 3) := by decide +kernel
theorem dX7_decode_84 : decode cX7_decode 84 = .ok (.iconst (-1), 1) := by decide +kernel
theorem dX7_decode_85 : decode cX7_decode 85 = .ok (.ireturn, 1) := by decide +kernel
theorem dX7_push_0 : decode cX7_push 0 = .ok (.aload_n 0, 1) := by decide +kernel
theorem dX7_push_1 : decode cX7_push 1 = .ok (.getfield 18, 3) := by decide +kernel
theorem dX7_push_4 : decode cX7_push 4 = .ok (.iload_n 1, 1) := by decide +kernel
theorem dX7_push_5 : decode cX7_push 5 = .ok (.invokevirtual 80, 3) := by decide +kernel
theorem dX7_push_8 : decode cX7_push 8 = .ok (.ireturn, 1) := by decide +kernel
theorem dX7_change_0 : decode cX7_change 0 = .ok (.aload_n 0, 1) := by decide +kernel
theorem dX7_change_1 : decode cX7_change 1 = .ok (.getfield 18, 3) := by decide +kernel
theorem dX7_change_4 : decode cX7_change 4 = .ok (.iload_n 1, 1) := by decide +kernel
theorem dX7_change_5 : decode cX7_change 5 = .ok (.iload_n 2, 1) := by decide +kernel
theorem dX7_change_6 : decode cX7_change 6 = .ok (.invokevirtual 122, 3) := by decide +kernel
theorem dX7_change_9 : decode cX7_change 9 = .ok (.ireturn, 1) := by decide +kernel
theorem dX7_keep_0 : decode cX7_keep 0 = .ok (.aload_n 0, 1) := by decide +kernel
theorem dX7_keep_1 : decode cX7_keep 1 = .ok (.getfield 18, 3) := by decide +kernel
theorem dX7_keep_4 : decode cX7_keep 4 = .ok (.iload_n 1, 1) := by decide +kernel
theorem dX7_keep_5 : decode cX7_keep 5 = .ok (.invokevirtual 84, 3) := by decide +kernel
theorem dX7_keep_8 : decode cX7_keep 8 = .ok (.ireturn, 1) := by decide +kernel
theorem dX7_at_0 : decode cX7_at 0 = .ok (.aload_n 0, 1) := by decide +kernel
theorem dX7_at_1 : decode cX7_at 1 = .ok (.iload_n 1, 1) := by decide +kernel
theorem dX7_at_2 : decode cX7_at 2 = .ok (.invokevirtual 126, 3) := by decide +kernel
theorem dX7_at_5 : decode cX7_at 5 = .ok (.astore_n 3, 1) := by decide +kernel
theorem dX7_at_6 : decode cX7_at 6 = .ok (.aload_n 3, 1) := by decide +kernel
theorem dX7_at_7 : decode cX7_at 7 = .ok (.ifnonnull 7, 3) := by decide +kernel
theorem dX7_at_10 : decode cX7_at 10 = .ok (.iconst (-1), 1) := by decide +kernel
theorem dX7_at_11 : decode cX7_at 11 = .ok (.goto 8, 3) := by decide +kernel
theorem dX7_at_14 : decode cX7_at 14 = .ok (.aload_n 3, 1) := by decide +kernel
theorem dX7_at_15 : decode cX7_at 15 = .ok (.iload_n 2, 1) := by decide +kernel
theorem dX7_at_16 : decode cX7_at 16 = .ok (.invokevirtual 92, 3) := by decide +kernel
theorem dX7_at_19 : decode cX7_at 19 = .ok (.ireturn, 1) := by decide +kernel
theorem dX7_size_0 : decode cX7_size 0 = .ok (.aload_n 0, 1) := by decide +kernel
theorem dX7_size_1 : decode cX7_size 1 = .ok (.iload_n 1, 1) := by decide +kernel
theorem dX7_size_2 : decode cX7_size 2 = .ok (.invokevirtual 126, 3) := by decide +kernel
theorem dX7_size_5 : decode cX7_size 5 = .ok (.astore_n 2, 1) := by decide +kernel
theorem dX7_size_6 : decode cX7_size 6 = .ok (.aload_n 2, 1) := by decide +kernel
theorem dX7_size_7 : decode cX7_size 7 = .ok (.ifnonnull 7, 3) := by decide +kernel
theorem dX7_size_10 : decode cX7_size 10 = .ok (.iconst (-1), 1) := by decide +kernel
theorem dX7_size_11 : decode cX7_size 11 = .ok (.goto 7, 3) := by decide +kernel
theorem dX7_size_14 : decode cX7_size 14 = .ok (.aload_n 2, 1) := by decide +kernel
theorem dX7_size_15 : decode cX7_size 15 = .ok (.invokevirtual 88, 3) := by decide +kernel
theorem dX7_size_18 : decode cX7_size 18 = .ok (.ireturn, 1) := by decide +kernel
theorem dX7_step_0 : decode cX7_step 0 = .ok (.aload_n 0, 1) := by decide +kernel
theorem dX7_step_1 : decode cX7_step 1 = .ok (.getfield 27, 3) := by decide +kernel
theorem dX7_step_4 : decode cX7_step 4 = .ok (.iload_n 1, 1) := by decide +kernel
theorem dX7_step_5 : decode cX7_step 5 = .ok (.iload_n 2, 1) := by decide +kernel
theorem dX7_step_6 : decode cX7_step 6 = .ok (.invokevirtual 130, 3) := by decide +kernel
theorem dX7_step_9 : decode cX7_step 9 = .ok (.ireturn, 1) := by decide +kernel
theorem dX7_count_0 : decode cX7_count 0 = .ok (.iload_n 1, 1) := by decide +kernel
theorem dX7_count_1 : decode cX7_count 1 = .ok (.tableswitch 111 0 7 #[47, 56, 65, 70, 79, 88, 97, 102], 47) := by decide +kernel
theorem dX7_count_48 : decode cX7_count 48 = .ok (.aload_n 0, 1) := by decide +kernel
theorem dX7_count_49 : decode cX7_count 49 = .ok (.getfield 27, 3) := by decide +kernel
theorem dX7_count_52 : decode cX7_count 52 = .ok (.invokevirtual 134, 3) := by decide +kernel
theorem dX7_count_55 : decode cX7_count 55 = .ok (.i2l, 1) := by decide +kernel
theorem dX7_count_56 : decode cX7_count 56 = .ok (.lreturn, 1) := by decide +kernel
theorem dX7_count_57 : decode cX7_count 57 = .ok (.aload_n 0, 1) := by decide +kernel
theorem dX7_count_58 : decode cX7_count 58 = .ok (.getfield 27, 3) := by decide +kernel
theorem dX7_count_61 : decode cX7_count 61 = .ok (.invokevirtual 137, 3) := by decide +kernel
theorem dX7_count_64 : decode cX7_count 64 = .ok (.i2l, 1) := by decide +kernel
theorem dX7_count_65 : decode cX7_count 65 = .ok (.lreturn, 1) := by decide +kernel
theorem dX7_count_66 : decode cX7_count 66 = .ok (.aload_n 0, 1) := by decide +kernel
theorem dX7_count_67 : decode cX7_count 67 = .ok (.getfield 73, 3) := by decide +kernel
theorem dX7_count_70 : decode cX7_count 70 = .ok (.lreturn, 1) := by decide +kernel
theorem dX7_count_71 : decode cX7_count 71 = .ok (.aload_n 0, 1) := by decide +kernel
theorem dX7_count_72 : decode cX7_count 72 = .ok (.getfield 34, 3) := by decide +kernel
theorem dX7_count_75 : decode cX7_count 75 = .ok (.invokevirtual 140, 3) := by decide +kernel
theorem dX7_count_78 : decode cX7_count 78 = .ok (.i2l, 1) := by decide +kernel
theorem dX7_count_79 : decode cX7_count 79 = .ok (.lreturn, 1) := by decide +kernel
theorem dX7_count_80 : decode cX7_count 80 = .ok (.aload_n 0, 1) := by decide +kernel
theorem dX7_count_81 : decode cX7_count 81 = .ok (.getfield 34, 3) := by decide +kernel
theorem dX7_count_84 : decode cX7_count 84 = .ok (.invokevirtual 143, 3) := by decide +kernel
theorem dX7_count_87 : decode cX7_count 87 = .ok (.i2l, 1) := by decide +kernel
theorem dX7_count_88 : decode cX7_count 88 = .ok (.lreturn, 1) := by decide +kernel
theorem dX7_count_89 : decode cX7_count 89 = .ok (.aload_n 0, 1) := by decide +kernel
theorem dX7_count_90 : decode cX7_count 90 = .ok (.getfield 34, 3) := by decide +kernel
theorem dX7_count_93 : decode cX7_count 93 = .ok (.invokevirtual 146, 3) := by decide +kernel
theorem dX7_count_96 : decode cX7_count 96 = .ok (.i2l, 1) := by decide +kernel
theorem dX7_count_97 : decode cX7_count 97 = .ok (.lreturn, 1) := by decide +kernel
theorem dX7_count_98 : decode cX7_count 98 = .ok (.aload_n 0, 1) := by decide +kernel
theorem dX7_count_99 : decode cX7_count 99 = .ok (.getfield 77, 3) := by decide +kernel
theorem dX7_count_102 : decode cX7_count 102 = .ok (.lreturn, 1) := by decide +kernel
theorem dX7_count_103 : decode cX7_count 103 = .ok (.aload_n 0, 1) := by decide +kernel
theorem dX7_count_104 : decode cX7_count 104 = .ok (.getfield 34, 3) := by decide +kernel
theorem dX7_count_107 : decode cX7_count 107 = .ok (.invokevirtual 149, 3) := by decide +kernel
theorem dX7_count_110 : decode cX7_count 110 = .ok (.i2l, 1) := by decide +kernel
theorem dX7_count_111 : decode cX7_count 111 = .ok (.lreturn, 1) := by decide +kernel
theorem dX7_count_112 : decode cX7_count 112 = .ok (.ldc2_w 152, 3) := by decide +kernel
theorem dX7_count_115 : decode cX7_count 115 = .ok (.lreturn, 1) := by decide +kernel
theorem dX7_learnt_0 : decode cX7_learnt 0 = .ok (.aload_n 0, 1) := by decide +kernel
theorem dX7_learnt_1 : decode cX7_learnt 1 = .ok (.getfield 34, 3) := by decide +kernel
theorem dX7_learnt_4 : decode cX7_learnt 4 = .ok (.iload_n 1, 1) := by decide +kernel
theorem dX7_learnt_5 : decode cX7_learnt 5 = .ok (.iload_n 2, 1) := by decide +kernel
theorem dX7_learnt_6 : decode cX7_learnt 6 = .ok (.iload_n 3, 1) := by decide +kernel
theorem dX7_learnt_7 : decode cX7_learnt 7 = .ok (.invokestatic 154, 3) := by decide +kernel
theorem dX7_learnt_10 : decode cX7_learnt 10 = .ok (.invokevirtual 158, 3) := by decide +kernel
theorem dX7_learnt_13 : decode cX7_learnt 13 = .ok (.istore 5, 2) := by decide +kernel
theorem dX7_learnt_15 : decode cX7_learnt 15 = .ok (.aload_n 0, 1) := by decide +kernel
theorem dX7_learnt_16 : decode cX7_learnt 16 = .ok (.getfield 34, 3) := by decide +kernel
theorem dX7_learnt_19 : decode cX7_learnt 19 = .ok (.aload_n 0, 1) := by decide +kernel
theorem dX7_learnt_20 : decode cX7_learnt 20 = .ok (.getfield 34, 3) := by decide +kernel
theorem dX7_learnt_23 : decode cX7_learnt 23 = .ok (.iload 5, 2) := by decide +kernel
theorem dX7_learnt_25 : decode cX7_learnt 25 = .ok (.iload 4, 2) := by decide +kernel
theorem dX7_learnt_27 : decode cX7_learnt 27 = .ok (.invokevirtual 161, 3) := by decide +kernel
theorem dX7_learnt_30 : decode cX7_learnt 30 = .ok (.invokevirtual 164, 3) := by decide +kernel
theorem dX7_learnt_33 : decode cX7_learnt 33 = .ok (.ireturn, 1) := by decide +kernel
theorem dX7_node_0 : decode cX7_node 0 = .ok (.aload_n 0, 1) := by decide +kernel
theorem dX7_node_1 : decode cX7_node 1 = .ok (.getfield 34, 3) := by decide +kernel
theorem dX7_node_4 : decode cX7_node 4 = .ok (.iload_n 1, 1) := by decide +kernel
theorem dX7_node_5 : decode cX7_node 5 = .ok (.iload_n 2, 1) := by decide +kernel
theorem dX7_node_6 : decode cX7_node 6 = .ok (.iload_n 3, 1) := by decide +kernel
theorem dX7_node_7 : decode cX7_node 7 = .ok (.invokestatic 154, 3) := by decide +kernel
theorem dX7_node_10 : decode cX7_node 10 = .ok (.invokevirtual 158, 3) := by decide +kernel
theorem dX7_node_13 : decode cX7_node 13 = .ok (.istore 5, 2) := by decide +kernel
theorem dX7_node_15 : decode cX7_node 15 = .ok (.aload_n 0, 1) := by decide +kernel
theorem dX7_node_16 : decode cX7_node 16 = .ok (.getfield 34, 3) := by decide +kernel
theorem dX7_node_19 : decode cX7_node 19 = .ok (.aload_n 0, 1) := by decide +kernel
theorem dX7_node_20 : decode cX7_node 20 = .ok (.getfield 34, 3) := by decide +kernel
theorem dX7_node_23 : decode cX7_node 23 = .ok (.iload 5, 2) := by decide +kernel
theorem dX7_node_25 : decode cX7_node 25 = .ok (.iload 4, 2) := by decide +kernel
theorem dX7_node_27 : decode cX7_node 27 = .ok (.invokevirtual 167, 3) := by decide +kernel
theorem dX7_node_30 : decode cX7_node 30 = .ok (.invokevirtual 170, 3) := by decide +kernel
theorem dX7_node_33 : decode cX7_node 33 = .ok (.ireturn, 1) := by decide +kernel
theorem dX7_readUpToEnd_0 : decode cX7_readUpToEnd 0 = .ok (.iconst 0, 1) := by decide +kernel
theorem dX7_readUpToEnd_1 : decode cX7_readUpToEnd 1 = .ok (.istore_n 1, 1) := by decide +kernel
theorem dX7_readUpToEnd_2 : decode cX7_readUpToEnd 2 = .ok (.iload_n 1, 1) := by decide +kernel
theorem dX7_readUpToEnd_3 : decode cX7_readUpToEnd 3 = .ok (.sipush 4000, 3) := by decide +kernel
theorem dX7_readUpToEnd_6 : decode cX7_readUpToEnd 6 = .ok (.if_icmp .gt 59, 3) := by decide +kernel
theorem dX7_readUpToEnd_9 : decode cX7_readUpToEnd 9 = .ok (.aload_n 0, 1) := by decide +kernel
theorem dX7_readUpToEnd_10 : decode cX7_readUpToEnd 10 = .ok (.getfield 43, 3) := by decide +kernel
theorem dX7_readUpToEnd_13 : decode cX7_readUpToEnd 13 = .ok (.iconst (-1), 1) := by decide +kernel
theorem dX7_readUpToEnd_14 : decode cX7_readUpToEnd 14 = .ok (.aload_n 0, 1) := by decide +kernel
theorem dX7_readUpToEnd_15 : decode cX7_readUpToEnd 15 = .ok (.getfield 59, 3) := by decide +kernel
theorem dX7_readUpToEnd_18 : decode cX7_readUpToEnd 18 = .ok (.invokevirtual 96, 3) := by decide +kernel
theorem dX7_readUpToEnd_21 : decode cX7_readUpToEnd 21 = .ok (.istore_n 2, 1) := by decide +kernel
theorem dX7_readUpToEnd_22 : decode cX7_readUpToEnd 22 = .ok (.iload_n 2, 1) := by decide +kernel
theorem dX7_readUpToEnd_23 : decode cX7_readUpToEnd 23 = .ok (.sipush 256, 3) := by decide +kernel
theorem dX7_readUpToEnd_26 : decode cX7_readUpToEnd 26 = .ok (.if_icmp .ne 5, 3) := by decide +kernel
theorem dX7_readUpToEnd_29 : decode cX7_readUpToEnd 29 = .ok (.iconst 1, 1) := by decide +kernel
theorem dX7_readUpToEnd_30 : decode cX7_readUpToEnd 30 = .ok (.ireturn, 1) := by decide +kernel
theorem dX7_readUpToEnd_31 : decode cX7_readUpToEnd 31 = .ok (.aload_n 0, 1) := by decide +kernel
theorem dX7_readUpToEnd_32 : decode cX7_readUpToEnd 32 = .ok (.getfield 21, 3) := by decide +kernel
theorem dX7_readUpToEnd_35 : decode cX7_readUpToEnd 35 = .ok (.iload_n 2, 1) := by decide +kernel
theorem dX7_readUpToEnd_36 : decode cX7_readUpToEnd 36 = .ok (.invokevirtual 80, 3) := by decide +kernel
theorem dX7_readUpToEnd_39 : decode cX7_readUpToEnd 39 = .ok (.ifCond .ne 5, 3) := by decide +kernel
theorem dX7_readUpToEnd_42 : decode cX7_readUpToEnd 42 = .ok (.iconst 0, 1) := by decide +kernel
theorem dX7_readUpToEnd_43 : decode cX7_readUpToEnd 43 = .ok (.ireturn, 1) := by decide +kernel
theorem dX7_readUpToEnd_44 : decode cX7_readUpToEnd 44 = .ok (.aload_n 0, 1) := by decide +kernel
theorem dX7_readUpToEnd_45 : decode cX7_readUpToEnd 45 = .ok (.getfield 34, 3) := by decide +kernel
theorem dX7_readUpToEnd_48 : decode cX7_readUpToEnd 48 = .ok (.iload_n 2, 1) := by decide +kernel
theorem dX7_readUpToEnd_49 : decode cX7_readUpToEnd 49 = .ok (.aload_n 0, 1) := by decide +kernel
theorem dX7_readUpToEnd_50 : decode cX7_readUpToEnd 50 = .ok (.getfield 43, 3) := by decide +kernel
theorem dX7_readUpToEnd_53 : decode cX7_readUpToEnd 53 = .ok (.invokevirtual 100, 3) := by decide +kernel
theorem dX7_readUpToEnd_56 : decode cX7_readUpToEnd 56 = .ok (.invokevirtual 103, 3) := by decide +kernel
theorem dX7_readUpToEnd_59 : decode cX7_readUpToEnd 59 = .ok (.iinc 1 1, 3) := by decide +kernel
theorem dX7_readUpToEnd_62 : decode cX7_readUpToEnd 62 = .ok (.goto (-60), 3) := by decide +kernel
theorem dX7_readUpToEnd_65 : decode cX7_readUpToEnd 65 = .ok (.iconst 0, 1) := by decide +kernel
theorem dX7_readUpToEnd_66 : decode cX7_readUpToEnd 66 = .ok (.ireturn, 1) := by decide +kernel
theorem dX7_noteEnd_0 : decode cX7_noteEnd 0 = .ok (.aload_n 0, 1) := by decide +kernel
theorem dX7_noteEnd_1 : decode cX7_noteEnd 1 = .ok (.aload_n 1, 1) := by decide +kernel
theorem dX7_noteEnd_2 : decode cX7_noteEnd 2 = .ok (.invokevirtual 173, 3) := by decide +kernel
theorem dX7_noteEnd_5 : decode cX7_noteEnd 5 = .ok (.i2l, 1) := by decide +kernel
theorem dX7_noteEnd_6 : decode cX7_noteEnd 6 = .ok (.putfield 73, 3) := by decide +kernel
theorem dX7_noteEnd_9 : decode cX7_noteEnd 9 = .ok (.aload_n 0, 1) := by decide +kernel
theorem dX7_noteEnd_10 : decode cX7_noteEnd 10 = .ok (.aload_n 1, 1) := by decide +kernel
theorem dX7_noteEnd_11 : decode cX7_noteEnd 11 = .ok (.invokevirtual 176, 3) := by decide +kernel
theorem dX7_noteEnd_14 : decode cX7_noteEnd 14 = .ok (.putfield 77, 3) := by decide +kernel
theorem dX7_noteEnd_17 : decode cX7_noteEnd 17 = .ok (.return_, 1) := by decide +kernel
theorem dX7_rowOf_0 : decode cX7_rowOf 0 = .ok (.iload_n 1, 1) := by decide +kernel
theorem dX7_rowOf_1 : decode cX7_rowOf 1 = .ok (.tableswitch 42 0 2 #[27, 32, 37], 27) := by decide +kernel
theorem dX7_rowOf_28 : decode cX7_rowOf 28 = .ok (.aload_n 0, 1) := by decide +kernel
theorem dX7_rowOf_29 : decode cX7_rowOf 29 = .ok (.getfield 14, 3) := by decide +kernel
theorem dX7_rowOf_32 : decode cX7_rowOf 32 = .ok (.areturn, 1) := by decide +kernel
end
section
theorem dX7_rowOf_33 : decode cX7_rowOf 33 = .ok (.aload_n 0, 1) := by decide +kernel
theorem dX7_rowOf_34 : decode cX7_rowOf 34 = .ok (.getfield 18, 3) := by decide +kernel
theorem dX7_rowOf_37 : decode cX7_rowOf 37 = .ok (.areturn, 1) := by decide +kernel
theorem dX7_rowOf_38 : decode cX7_rowOf 38 = .ok (.aload_n 0, 1) := by decide +kernel
theorem dX7_rowOf_39 : decode cX7_rowOf 39 = .ok (.getfield 21, 3) := by decide +kernel
theorem dX7_rowOf_42 : decode cX7_rowOf 42 = .ok (.areturn, 1) := by decide +kernel
theorem dX7_rowOf_43 : decode cX7_rowOf 43 = .ok (.aconst_null, 1) := by decide +kernel
theorem dX7_rowOf_44 : decode cX7_rowOf 44 = .ok (.areturn, 1) := by decide +kernel
theorem dX7_isByte_0 : decode cX7_isByte 0 = .ok (.iload_n 0, 1) := by decide +kernel
theorem dX7_isByte_1 : decode cX7_isByte 1 = .ok (.ifCond .lt 14, 3) := by decide +kernel
theorem dX7_isByte_4 : decode cX7_isByte 4 = .ok (.iload_n 0, 1) := by decide +kernel
theorem dX7_isByte_5 : decode cX7_isByte 5 = .ok (.sipush 256, 3) := by decide +kernel
theorem dX7_isByte_8 : decode cX7_isByte 8 = .ok (.if_icmp .ge 7, 3) := by decide +kernel
theorem dX7_isByte_11 : decode cX7_isByte 11 = .ok (.iconst 1, 1) := by decide +kernel
theorem dX7_isByte_12 : decode cX7_isByte 12 = .ok (.goto 4, 3) := by decide +kernel
theorem dX7_isByte_15 : decode cX7_isByte 15 = .ok (.iconst 0, 1) := by decide +kernel
theorem dX7_isByte_16 : decode cX7_isByte 16 = .ok (.ireturn, 1) := by decide +kernel
theorem dX7_keyOf_0 : decode cX7_keyOf 0 = .ok (.iload_n 0, 1) := by decide +kernel
theorem dX7_keyOf_1 : decode cX7_keyOf 1 = .ok (.ifCond .ne 5, 3) := by decide +kernel
theorem dX7_keyOf_4 : decode cX7_keyOf 4 = .ok (.iconst 0, 1) := by decide +kernel
theorem dX7_keyOf_5 : decode cX7_keyOf 5 = .ok (.ireturn, 1) := by decide +kernel
theorem dX7_keyOf_6 : decode cX7_keyOf 6 = .ok (.iload_n 0, 1) := by decide +kernel
theorem dX7_keyOf_7 : decode cX7_keyOf 7 = .ok (.iconst 1, 1) := by decide +kernel
theorem dX7_keyOf_8 : decode cX7_keyOf 8 = .ok (.if_icmp .ne 14, 3) := by decide +kernel
theorem dX7_keyOf_11 : decode cX7_keyOf 11 = .ok (.iload_n 1, 1) := by decide +kernel
theorem dX7_keyOf_12 : decode cX7_keyOf 12 = .ok (.invokestatic 180, 3) := by decide +kernel
theorem dX7_keyOf_15 : decode cX7_keyOf 15 = .ok (.ifCond .eq 7, 3) := by decide +kernel
theorem dX7_keyOf_18 : decode cX7_keyOf 18 = .ok (.iconst 1, 1) := by decide +kernel
theorem dX7_keyOf_19 : decode cX7_keyOf 19 = .ok (.iload_n 1, 1) := by decide +kernel
theorem dX7_keyOf_20 : decode cX7_keyOf 20 = .ok (.iadd, 1) := by decide +kernel
theorem dX7_keyOf_21 : decode cX7_keyOf 21 = .ok (.ireturn, 1) := by decide +kernel
theorem dX7_keyOf_22 : decode cX7_keyOf 22 = .ok (.iload_n 0, 1) := by decide +kernel
theorem dX7_keyOf_23 : decode cX7_keyOf 23 = .ok (.iconst 2, 1) := by decide +kernel
theorem dX7_keyOf_24 : decode cX7_keyOf 24 = .ok (.if_icmp .ne 29, 3) := by decide +kernel
theorem dX7_keyOf_27 : decode cX7_keyOf 27 = .ok (.iload_n 1, 1) := by decide +kernel
theorem dX7_keyOf_28 : decode cX7_keyOf 28 = .ok (.invokestatic 180, 3) := by decide +kernel
theorem dX7_keyOf_31 : decode cX7_keyOf 31 = .ok (.ifCond .eq 22, 3) := by decide +kernel
theorem dX7_keyOf_34 : decode cX7_keyOf 34 = .ok (.iload_n 2, 1) := by decide +kernel
theorem dX7_keyOf_35 : decode cX7_keyOf 35 = .ok (.invokestatic 180, 3) := by decide +kernel
theorem dX7_keyOf_38 : decode cX7_keyOf 38 = .ok (.ifCond .eq 15, 3) := by decide +kernel
theorem dX7_keyOf_41 : decode cX7_keyOf 41 = .ok (.sipush 257, 3) := by decide +kernel
theorem dX7_keyOf_44 : decode cX7_keyOf 44 = .ok (.iload_n 1, 1) := by decide +kernel
theorem dX7_keyOf_45 : decode cX7_keyOf 45 = .ok (.sipush 256, 3) := by decide +kernel
theorem dX7_keyOf_48 : decode cX7_keyOf 48 = .ok (.imul, 1) := by decide +kernel
theorem dX7_keyOf_49 : decode cX7_keyOf 49 = .ok (.iadd, 1) := by decide +kernel
theorem dX7_keyOf_50 : decode cX7_keyOf 50 = .ok (.iload_n 2, 1) := by decide +kernel
theorem dX7_keyOf_51 : decode cX7_keyOf 51 = .ok (.iadd, 1) := by decide +kernel
theorem dX7_keyOf_52 : decode cX7_keyOf 52 = .ok (.ireturn, 1) := by decide +kernel
theorem dX7_keyOf_53 : decode cX7_keyOf 53 = .ok (.iconst (-1), 1) := by decide +kernel
theorem dX7_keyOf_54 : decode cX7_keyOf 54 = .ok (.ireturn, 1) := by decide +kernel
theorem dX7_grown_0 : decode cX7_grown 0 = .ok (.iload_n 1, 1) := by decide +kernel
theorem dX7_grown_1 : decode cX7_grown 1 = .ok (.iconst 2, 1) := by decide +kernel
theorem dX7_grown_2 : decode cX7_grown 2 = .ok (.iload_n 0, 1) := by decide +kernel
theorem dX7_grown_3 : decode cX7_grown 3 = .ok (.imul, 1) := by decide +kernel
theorem dX7_grown_4 : decode cX7_grown 4 = .ok (.invokestatic 183, 3) := by decide +kernel
theorem dX7_grown_7 : decode cX7_grown 7 = .ok (.ireturn, 1) := by decide +kernel
theorem dX8_init_0 : decode cX8_init 0 = .ok (.aload_n 0, 1) := by decide +kernel
theorem dX8_init_1 : decode cX8_init 1 = .ok (.invokespecial 1, 3) := by decide +kernel
theorem dX8_init_4 : decode cX8_init 4 = .ok (.aload_n 0, 1) := by decide +kernel
theorem dX8_init_5 : decode cX8_init 5 = .ok (.sipush 4000, 3) := by decide +kernel
theorem dX8_init_8 : decode cX8_init 8 = .ok (.newarray .byte, 2) := by decide +kernel
theorem dX8_init_10 : decode cX8_init 10 = .ok (.putfield 7, 3) := by decide +kernel
theorem dX8_init_13 : decode cX8_init 13 = .ok (.aload_n 0, 1) := by decide +kernel
theorem dX8_init_14 : decode cX8_init 14 = .ok (.sipush 8000, 3) := by decide +kernel
theorem dX8_init_17 : decode cX8_init 17 = .ok (.newarray .byte, 2) := by decide +kernel
theorem dX8_init_19 : decode cX8_init 19 = .ok (.putfield 13, 3) := by decide +kernel
theorem dX8_init_22 : decode cX8_init 22 = .ok (.aload_n 0, 1) := by decide +kernel
theorem dX8_init_23 : decode cX8_init 23 = .ok (.sipush 4000, 3) := by decide +kernel
theorem dX8_init_26 : decode cX8_init 26 = .ok (.newarray .byte, 2) := by decide +kernel
theorem dX8_init_28 : decode cX8_init 28 = .ok (.putfield 16, 3) := by decide +kernel
theorem dX8_init_31 : decode cX8_init 31 = .ok (.aload_n 0, 1) := by decide +kernel
theorem dX8_init_32 : decode cX8_init 32 = .ok (.sipush 2000, 3) := by decide +kernel
theorem dX8_init_35 : decode cX8_init 35 = .ok (.putfield 19, 3) := by decide +kernel
theorem dX8_init_38 : decode cX8_init 38 = .ok (.aload_n 0, 1) := by decide +kernel
theorem dX8_init_39 : decode cX8_init 39 = .ok (.sipush 6000, 3) := by decide +kernel
theorem dX8_init_42 : decode cX8_init 42 = .ok (.newarray .int, 2) := by decide +kernel
theorem dX8_init_44 : decode cX8_init 44 = .ok (.putfield 23, 3) := by decide +kernel
theorem dX8_init_47 : decode cX8_init 47 = .ok (.aload_n 0, 1) := by decide +kernel
theorem dX8_init_48 : decode cX8_init 48 = .ok (.sipush 6000, 3) := by decide +kernel
theorem dX8_init_51 : decode cX8_init 51 = .ok (.newarray .short, 2) := by decide +kernel
theorem dX8_init_53 : decode cX8_init 53 = .ok (.putfield 27, 3) := by decide +kernel
theorem dX8_init_56 : decode cX8_init 56 = .ok (.aload_n 0, 1) := by decide +kernel
theorem dX8_init_57 : decode cX8_init 57 = .ok (.sipush 6000, 3) := by decide +kernel
theorem dX8_init_60 : decode cX8_init 60 = .ok (.newarray .short, 2) := by decide +kernel
theorem dX8_init_62 : decode cX8_init 62 = .ok (.putfield 31, 3) := by decide +kernel
theorem dX8_init_65 : decode cX8_init 65 = .ok (.aload_n 0, 1) := by decide +kernel
theorem dX8_init_66 : decode cX8_init 66 = .ok (.sipush 20000, 3) := by decide +kernel
theorem dX8_init_69 : decode cX8_init 69 = .ok (.newarray .short, 2) := by decide +kernel
theorem dX8_init_71 : decode cX8_init 71 = .ok (.putfield 34, 3) := by decide +kernel
theorem dX8_init_74 : decode cX8_init 74 = .ok (.aload_n 0, 1) := by decide +kernel
theorem dX8_init_75 : decode cX8_init 75 = .ok (.sipush 20000, 3) := by decide +kernel
theorem dX8_init_78 : decode cX8_init 78 = .ok (.newarray .short, 2) := by decide +kernel
theorem dX8_init_80 : decode cX8_init 80 = .ok (.putfield 37, 3) := by decide +kernel
theorem dX8_init_83 : decode cX8_init 83 = .ok (.aload_n 0, 1) := by decide +kernel
theorem dX8_init_84 : decode cX8_init 84 = .ok (.sipush 20000, 3) := by decide +kernel
theorem dX8_init_87 : decode cX8_init 87 = .ok (.newarray .short, 2) := by decide +kernel
theorem dX8_init_89 : decode cX8_init 89 = .ok (.putfield 40, 3) := by decide +kernel
theorem dX8_init_92 : decode cX8_init 92 = .ok (.aload_n 0, 1) := by decide +kernel
theorem dX8_init_93 : decode cX8_init 93 = .ok (.sipush 20000, 3) := by decide +kernel
theorem dX8_init_96 : decode cX8_init 96 = .ok (.newarray .byte, 2) := by decide +kernel
theorem dX8_init_98 : decode cX8_init 98 = .ok (.putfield 43, 3) := by decide +kernel
theorem dX8_init_101 : decode cX8_init 101 = .ok (.aload_n 0, 1) := by decide +kernel
theorem dX8_init_102 : decode cX8_init 102 = .ok (.sipush 257, 3) := by decide +kernel
theorem dX8_init_105 : decode cX8_init 105 = .ok (.newarray .boolean, 2) := by decide +kernel
theorem dX8_init_107 : decode cX8_init 107 = .ok (.putfield 46, 3) := by decide +kernel
theorem dX8_init_110 : decode cX8_init 110 = .ok (.aload_n 0, 1) := by decide +kernel
theorem dX8_init_111 : decode cX8_init 111 = .ok (.sipush 2000, 3) := by decide +kernel
theorem dX8_init_114 : decode cX8_init 114 = .ok (.invokevirtual 50, 3) := by decide +kernel
theorem dX8_init_117 : decode cX8_init 117 = .ok (.pop, 1) := by decide +kernel
theorem dX8_init_118 : decode cX8_init 118 = .ok (.return_, 1) := by decide +kernel
theorem dX8_begin_0 : decode cX8_begin 0 = .ok (.iload_n 1, 1) := by decide +kernel
theorem dX8_begin_1 : decode cX8_begin 1 = .ok (.iconst 4, 1) := by decide +kernel
theorem dX8_begin_2 : decode cX8_begin 2 = .ok (.if_icmp .lt 10, 3) := by decide +kernel
theorem dX8_begin_5 : decode cX8_begin 5 = .ok (.iload_n 1, 1) := by decide +kernel
theorem dX8_begin_6 : decode cX8_begin 6 = .ok (.sipush 6000, 3) := by decide +kernel
theorem dX8_begin_9 : decode cX8_begin 9 = .ok (.if_icmp .le 5, 3) := by decide +kernel
theorem dX8_begin_12 : decode cX8_begin 12 = .ok (.iconst 0, 1) := by decide +kernel
theorem dX8_begin_13 : decode cX8_begin 13 = .ok (.ireturn, 1) := by decide +kernel
theorem dX8_begin_14 : decode cX8_begin 14 = .ok (.aload_n 0, 1) := by decide +kernel
theorem dX8_begin_15 : decode cX8_begin 15 = .ok (.iload_n 1, 1) := by decide +kernel
theorem dX8_begin_16 : decode cX8_begin 16 = .ok (.putfield 19, 3) := by decide +kernel
theorem dX8_begin_19 : decode cX8_begin 19 = .ok (.aload_n 0, 1) := by decide +kernel
theorem dX8_begin_20 : decode cX8_begin 20 = .ok (.iconst 0, 1) := by decide +kernel
theorem dX8_begin_21 : decode cX8_begin 21 = .ok (.putfield 54, 3) := by decide +kernel
theorem dX8_begin_24 : decode cX8_begin 24 = .ok (.aload_n 0, 1) := by decide +kernel
theorem dX8_begin_25 : decode cX8_begin 25 = .ok (.iconst 0, 1) := by decide +kernel
theorem dX8_begin_26 : decode cX8_begin 26 = .ok (.putfield 57, 3) := by decide +kernel
theorem dX8_begin_29 : decode cX8_begin 29 = .ok (.aload_n 0, 1) := by decide +kernel
theorem dX8_begin_30 : decode cX8_begin 30 = .ok (.iconst 0, 1) := by decide +kernel
theorem dX8_begin_31 : decode cX8_begin 31 = .ok (.putfield 60, 3) := by decide +kernel
theorem dX8_begin_34 : decode cX8_begin 34 = .ok (.aload_n 0, 1) := by decide +kernel
theorem dX8_begin_35 : decode cX8_begin 35 = .ok (.invokevirtual 63, 3) := by decide +kernel
theorem dX8_begin_38 : decode cX8_begin 38 = .ok (.aload_n 0, 1) := by decide +kernel
theorem dX8_begin_39 : decode cX8_begin 39 = .ok (.lconst 0, 1) := by decide +kernel
theorem dX8_begin_40 : decode cX8_begin 40 = .ok (.putfield 66, 3) := by decide +kernel
theorem dX8_begin_43 : decode cX8_begin 43 = .ok (.iconst 1, 1) := by decide +kernel
theorem dX8_begin_44 : decode cX8_begin 44 = .ok (.ireturn, 1) := by decide +kernel
theorem dX8_startModel_0 : decode cX8_startModel 0 = .ok (.aload_n 0, 1) := by decide +kernel
theorem dX8_startModel_1 : decode cX8_startModel 1 = .ok (.iconst 0, 1) := by decide +kernel
theorem dX8_startModel_2 : decode cX8_startModel 2 = .ok (.putfield 70, 3) := by decide +kernel
theorem dX8_startModel_5 : decode cX8_startModel 5 = .ok (.aload_n 0, 1) := by decide +kernel
theorem dX8_startModel_6 : decode cX8_startModel 6 = .ok (.iconst 0, 1) := by decide +kernel
theorem dX8_startModel_7 : decode cX8_startModel 7 = .ok (.putfield 73, 3) := by decide +kernel
theorem dX8_startModel_10 : decode cX8_startModel 10 = .ok (.aload_n 0, 1) := by decide +kernel
theorem dX8_startModel_11 : decode cX8_startModel 11 = .ok (.iconst 0, 1) := by decide +kernel
theorem dX8_startModel_12 : decode cX8_startModel 12 = .ok (.putfield 76, 3) := by decide +kernel
theorem dX8_startModel_15 : decode cX8_startModel 15 = .ok (.aload_n 0, 1) := by decide +kernel
theorem dX8_startModel_16 : decode cX8_startModel 16 = .ok (.iconst 0, 1) := by decide +kernel
theorem dX8_startModel_17 : decode cX8_startModel 17 = .ok (.putfield 79, 3) := by decide +kernel
theorem dX8_startModel_20 : decode cX8_startModel 20 = .ok (.aload_n 0, 1) := by decide +kernel
theorem dX8_startModel_21 : decode cX8_startModel 21 = .ok (.iconst 0, 1) := by decide +kernel
theorem dX8_startModel_22 : decode cX8_startModel 22 = .ok (.putfield 82, 3) := by decide +kernel
theorem dX8_startModel_25 : decode cX8_startModel 25 = .ok (.aload_n 0, 1) := by decide +kernel
theorem dX8_startModel_26 : decode cX8_startModel 26 = .ok (.iconst 0, 1) := by decide +kernel
theorem dX8_startModel_27 : decode cX8_startModel 27 = .ok (.putfield 85, 3) := by decide +kernel
theorem dX8_startModel_30 : decode cX8_startModel 30 = .ok (.aload_n 0, 1) := by decide +kernel
theorem dX8_startModel_31 : decode cX8_startModel 31 = .ok (.iconst 0, 1) := by decide +kernel
theorem dX8_startModel_32 : decode cX8_startModel 32 = .ok (.putfield 88, 3) := by decide +kernel
theorem dX8_startModel_35 : decode cX8_startModel 35 = .ok (.aload_n 0, 1) := by decide +kernel
theorem dX8_startModel_36 : decode cX8_startModel 36 = .ok (.iconst 0, 1) := by decide +kernel
theorem dX8_startModel_37 : decode cX8_startModel 37 = .ok (.putfield 91, 3) := by decide +kernel
theorem dX8_startModel_40 : decode cX8_startModel 40 = .ok (.aload_n 0, 1) := by decide +kernel
theorem dX8_startModel_41 : decode cX8_startModel 41 = .ok (.iconst 0, 1) := by decide +kernel
theorem dX8_startModel_42 : decode cX8_startModel 42 = .ok (.putfield 94, 3) := by decide +kernel
theorem dX8_startModel_45 : decode cX8_startModel 45 = .ok (.aload_n 0, 1) := by decide +kernel
theorem dX8_startModel_46 : decode cX8_startModel 46 = .ok (.ldc2_w 97, 3) := by decide +kernel
theorem dX8_startModel_49 : decode cX8_startModel 49 = .ok (.putfield 66, 3) := by decide +kernel
theorem dX8_startModel_52 : decode cX8_startModel 52 = .ok (.return_, 1) := by decide +kernel
theorem dX8_feed_0 : decode cX8_feed 0 = .ok (.iload_n 1, 1) := by decide +kernel
theorem dX8_feed_1 : decode cX8_feed 1 = .ok (.ifCond .lt 20, 3) := by decide +kernel
theorem dX8_feed_4 : decode cX8_feed 4 = .ok (.iload_n 1, 1) := by decide +kernel
theorem dX8_feed_5 : decode cX8_feed 5 = .ok (.sipush 255, 3) := by decide +kernel
theorem dX8_feed_8 : decode cX8_feed 8 = .ok (.if_icmp .gt 13, 3) := by decide +kernel
theorem dX8_feed_11 : decode cX8_feed 11 = .ok (.aload_n 0, 1) := by decide +kernel
theorem dX8_feed_12 : decode cX8_feed 12 = .ok (.getfield 54, 3) := by decide +kernel
theorem dX8_feed_15 : decode cX8_feed 15 = .ok (.sipush 4000, 3) := by decide +kernel
theorem dX8_feed_18 : decode cX8_feed 18 = .ok (.if_icmp .ne 5, 3) := by decide +kernel
theorem dX8_feed_21 : decode cX8_feed 21 = .ok (.iconst 0, 1) := by decide +kernel
theorem dX8_feed_22 : decode cX8_feed 22 = .ok (.ireturn, 1) := by decide +kernel
theorem dX8_feed_23 : decode cX8_feed 23 = .ok (.aload_n 0, 1) := by decide +kernel
theorem dX8_feed_24 : decode cX8_feed 24 = .ok (.getfield 7, 3) := by decide +kernel
theorem dX8_feed_27 : decode cX8_feed 27 = .ok (.aload_n 0, 1) := by decide +kernel
theorem dX8_feed_28 : decode cX8_feed 28 = .ok (.getfield 54, 3) := by decide +kernel
theorem dX8_feed_31 : decode cX8_feed 31 = .ok (.iload_n 1, 1) := by decide +kernel
theorem dX8_feed_32 : decode cX8_feed 32 = .ok (.i2b, 1) := by decide +kernel
theorem dX8_feed_33 : decode cX8_feed 33 = .ok (.bastore, 1) := by decide +kernel
theorem dX8_feed_34 : decode cX8_feed 34 = .ok (.aload_n 0, 1) := by decide +kernel
theorem dX8_feed_35 : decode cX8_feed 35 = .ok (.dup, 1) := by decide +kernel
theorem dX8_feed_36 : decode cX8_feed 36 = .ok (.getfield 54, 3) := by decide +kernel
theorem dX8_feed_39 : decode cX8_feed 39 = .ok (.iconst 1, 1) := by decide +kernel
theorem dX8_feed_40 : decode cX8_feed 40 = .ok (.iadd, 1) := by decide +kernel
theorem dX8_feed_41 : decode cX8_feed 41 = .ok (.putfield 54, 3) := by decide +kernel
theorem dX8_feed_44 : decode cX8_feed 44 = .ok (.iconst 1, 1) := by decide +kernel
theorem dX8_feed_45 : decode cX8_feed 45 = .ok (.ireturn, 1) := by decide +kernel
theorem dX8_cut_0 : decode cX8_cut 0 = .ok (.iload_n 1, 1) := by decide +kernel
theorem dX8_cut_1 : decode cX8_cut 1 = .ok (.ifCond .lt 11, 3) := by decide +kernel
theorem dX8_cut_4 : decode cX8_cut 4 = .ok (.iload_n 1, 1) := by decide +kernel
theorem dX8_cut_5 : decode cX8_cut 5 = .ok (.aload_n 0, 1) := by decide +kernel
theorem dX8_cut_6 : decode cX8_cut 6 = .ok (.getfield 54, 3) := by decide +kernel
theorem dX8_cut_9 : decode cX8_cut 9 = .ok (.if_icmp .le 5, 3) := by decide +kernel
theorem dX8_cut_12 : decode cX8_cut 12 = .ok (.iconst 0, 1) := by decide +kernel
theorem dX8_cut_13 : decode cX8_cut 13 = .ok (.ireturn, 1) := by decide +kernel
theorem dX8_cut_14 : decode cX8_cut 14 = .ok (.aload_n 0, 1) := by decide +kernel
theorem dX8_cut_15 : decode cX8_cut 15 = .ok (.iload_n 1, 1) := by decide +kernel
theorem dX8_cut_16 : decode cX8_cut 16 = .ok (.putfield 54, 3) := by decide +kernel
theorem dX8_cut_19 : decode cX8_cut 19 = .ok (.iconst 1, 1) := by decide +kernel
theorem dX8_cut_20 : decode cX8_cut 20 = .ok (.ireturn, 1) := by decide +kernel
theorem dX8_contextOf_0 : decode cX8_contextOf 0 = .ok (.iload_n 0, 1) := by decide +kernel
theorem dX8_contextOf_1 : decode cX8_contextOf 1 = .ok (.ifCond .ne 7, 3) := by decide +kernel
theorem dX8_contextOf_4 : decode cX8_contextOf 4 = .ok (.iconst 0, 1) := by decide +kernel
theorem dX8_contextOf_5 : decode cX8_contextOf 5 = .ok (.goto 25, 3) := by decide +kernel
theorem dX8_contextOf_8 : decode cX8_contextOf 8 = .ok (.iload_n 0, 1) := by decide +kernel
theorem dX8_contextOf_9 : decode cX8_contextOf 9 = .ok (.iconst 1, 1) := by decide +kernel
theorem dX8_contextOf_10 : decode cX8_contextOf 10 = .ok (.if_icmp .ne 9, 3) := by decide +kernel
theorem dX8_contextOf_13 : decode cX8_contextOf 13 = .ok (.iconst 1, 1) := by decide +kernel
theorem dX8_contextOf_14 : decode cX8_contextOf 14 = .ok (.iload_n 1, 1) := by decide +kernel
theorem dX8_contextOf_15 : decode cX8_contextOf 15 = .ok (.iadd, 1) := by decide +kernel
theorem dX8_contextOf_16 : decode cX8_contextOf 16 = .ok (.goto 14, 3) := by decide +kernel
theorem dX8_contextOf_19 : decode cX8_contextOf 19 = .ok (.sipush 257, 3) := by decide +kernel
theorem dX8_contextOf_22 : decode cX8_contextOf 22 = .ok (.sipush 256, 3) := by decide +kernel
theorem dX8_contextOf_25 : decode cX8_contextOf 25 = .ok (.iload_n 1, 1) := by decide +kernel
theorem dX8_contextOf_26 : decode cX8_contextOf 26 = .ok (.imul, 1) := by decide +kernel
theorem dX8_contextOf_27 : decode cX8_contextOf 27 = .ok (.iadd, 1) := by decide +kernel
theorem dX8_contextOf_28 : decode cX8_contextOf 28 = .ok (.iload_n 2, 1) := by decide +kernel
theorem dX8_contextOf_29 : decode cX8_contextOf 29 = .ok (.iadd, 1) := by decide +kernel
theorem dX8_contextOf_30 : decode cX8_contextOf 30 = .ok (.ireturn, 1) := by decide +kernel
theorem dX8_here_0 : decode cX8_here 0 = .ok (.iload_n 1, 1) := by decide +kernel
theorem dX8_here_1 : decode cX8_here 1 = .ok (.aload_n 0, 1) := by decide +kernel
theorem dX8_here_2 : decode cX8_here 2 = .ok (.getfield 91, 3) := by decide +kernel
theorem dX8_here_5 : decode cX8_here 5 = .ok (.aload_n 0, 1) := by decide +kernel
theorem dX8_here_6 : decode cX8_here 6 = .ok (.getfield 94, 3) := by decide +kernel
theorem dX8_here_9 : decode cX8_here 9 = .ok (.invokestatic 99, 3) := by decide +kernel
theorem dX8_here_12 : decode cX8_here 12 = .ok (.ireturn, 1) := by decide +kernel
theorem dX8_find_0 : decode cX8_find 0 = .ok (.iconst 0, 1) := by decide +kernel
theorem dX8_find_1 : decode cX8_find 1 = .ok (.istore_n 3, 1) := by decide +kernel
theorem dX8_find_2 : decode cX8_find 2 = .ok (.iload_n 3, 1) := by decide +kernel
theorem dX8_find_3 : decode cX8_find 3 = .ok (.aload_n 0, 1) := by decide +kernel
theorem dX8_find_4 : decode cX8_find 4 = .ok (.getfield 70, 3) := by decide +kernel
theorem dX8_find_7 : decode cX8_find 7 = .ok (.if_icmp .ge 31, 3) := by decide +kernel
theorem dX8_find_10 : decode cX8_find 10 = .ok (.aload_n 0, 1) := by decide +kernel
theorem dX8_find_11 : decode cX8_find 11 = .ok (.getfield 23, 3) := by decide +kernel
theorem dX8_find_14 : decode cX8_find 14 = .ok (.iload_n 3, 1) := by decide +kernel
theorem dX8_find_15 : decode cX8_find 15 = .ok (.iaload, 1) := by decide +kernel
theorem dX8_find_16 : decode cX8_find 16 = .ok (.iload_n 1, 1) := by decide +kernel
theorem dX8_find_17 : decode cX8_find 17 = .ok (.if_icmp .ne 15, 3) := by decide +kernel
theorem dX8_find_20 : decode cX8_find 20 = .ok (.aload_n 0, 1) := by decide +kernel
theorem dX8_find_21 : decode cX8_find 21 = .ok (.getfield 27, 3) := by decide +kernel
theorem dX8_find_24 : decode cX8_find 24 = .ok (.iload_n 3, 1) := by decide +kernel
theorem dX8_find_25 : decode cX8_find 25 = .ok (.saload, 1) := by decide +kernel
theorem dX8_find_26 : decode cX8_find 26 = .ok (.iload_n 2, 1) := by decide +kernel
theorem dX8_find_27 : decode cX8_find 27 = .ok (.if_icmp .ne 5, 3) := by decide +kernel
theorem dX8_find_30 : decode cX8_find 30 = .ok (.iload_n 3, 1) := by decide +kernel
theorem dX8_find_31 : decode cX8_find 31 = .ok (.ireturn, 1) := by decide +kernel
theorem dX8_find_32 : decode cX8_find 32 = .ok (.iinc 3 1, 3) := by decide +kernel
theorem dX8_find_35 : decode cX8_find 35 = .ok (.goto (-33), 3) := by decide +kernel
theorem dX8_find_38 : decode cX8_find 38 = .ok (.iconst (-1), 1) := by decide +kernel
theorem dX8_find_39 : decode cX8_find 39 = .ok (.ireturn, 1) := by decide +kernel
theorem dX8_learn_0 : decode cX8_learn 0 = .ok (.iload_n 2, 1) := by decide +kernel
theorem dX8_learn_1 : decode cX8_learn 1 = .ok (.ifCond .ge 7, 3) := by decide +kernel
theorem dX8_learn_4 : decode cX8_learn 4 = .ok (.iconst 0, 1) := by decide +kernel
theorem dX8_learn_5 : decode cX8_learn 5 = .ok (.goto 4, 3) := by decide +kernel
theorem dX8_learn_8 : decode cX8_learn 8 = .ok (.iload_n 2, 1) := by decide +kernel
theorem dX8_learn_9 : decode cX8_learn 9 = .ok (.istore_n 3, 1) := by decide +kernel
theorem dX8_learn_10 : decode cX8_learn 10 = .ok (.aload_n 0, 1) := by decide +kernel
theorem dX8_learn_11 : decode cX8_learn 11 = .ok (.getfield 88, 3) := by decide +kernel
theorem dX8_learn_14 : decode cX8_learn 14 = .ok (.iconst 2, 1) := by decide +kernel
theorem dX8_learn_15 : decode cX8_learn 15 = .ok (.if_icmp .ge 10, 3) := by decide +kernel
theorem dX8_learn_18 : decode cX8_learn 18 = .ok (.aload_n 0, 1) := by decide +kernel
theorem dX8_learn_19 : decode cX8_learn 19 = .ok (.getfield 88, 3) := by decide +kernel
theorem dX8_learn_22 : decode cX8_learn 22 = .ok (.goto 4, 3) := by decide +kernel
theorem dX8_learn_25 : decode cX8_learn 25 = .ok (.iconst 2, 1) := by decide +kernel
theorem dX8_learn_26 : decode cX8_learn 26 = .ok (.istore 4, 2) := by decide +kernel
theorem dX8_learn_28 : decode cX8_learn 28 = .ok (.iload 4, 2) := by decide +kernel
theorem dX8_learn_30 : decode cX8_learn 30 = .ok (.iload_n 3, 1) := by decide +kernel
theorem dX8_learn_31 : decode cX8_learn 31 = .ok (.if_icmp .lt 135, 3) := by decide +kernel
theorem dX8_learn_34 : decode cX8_learn 34 = .ok (.aload_n 0, 1) := by decide +kernel
theorem dX8_learn_35 : decode cX8_learn 35 = .ok (.iload 4, 2) := by decide +kernel
theorem dX8_learn_37 : decode cX8_learn 37 = .ok (.invokevirtual 103, 3) := by decide +kernel
theorem dX8_learn_40 : decode cX8_learn 40 = .ok (.istore 5, 2) := by decide +kernel
theorem dX8_learn_42 : decode cX8_learn 42 = .ok (.aload_n 0, 1) := by decide +kernel
theorem dX8_learn_43 : decode cX8_learn 43 = .ok (.iload 5, 2) := by decide +kernel
theorem dX8_learn_45 : decode cX8_learn 45 = .ok (.iload_n 1, 1) := by decide +kernel
theorem dX8_learn_46 : decode cX8_learn 46 = .ok (.invokevirtual 107, 3) := by decide +kernel
theorem dX8_learn_49 : decode cX8_learn 49 = .ok (.istore 6, 2) := by decide +kernel
theorem dX8_learn_51 : decode cX8_learn 51 = .ok (.iload 6, 2) := by decide +kernel
theorem dX8_learn_53 : decode cX8_learn 53 = .ok (.iconst (-1), 1) := by decide +kernel
theorem dX8_learn_54 : decode cX8_learn 54 = .ok (.if_icmp .ne 75, 3) := by decide +kernel
theorem dX8_learn_57 : decode cX8_learn 57 = .ok (.aload_n 0, 1) := by decide +kernel
theorem dX8_learn_58 : decode cX8_learn 58 = .ok (.getfield 70, 3) := by decide +kernel
theorem dX8_learn_61 : decode cX8_learn 61 = .ok (.aload_n 0, 1) := by decide +kernel
theorem dX8_learn_62 : decode cX8_learn 62 = .ok (.getfield 19, 3) := by decide +kernel
theorem dX8_learn_65 : decode cX8_learn 65 = .ok (.if_icmp .ne 19, 3) := by decide +kernel
theorem dX8_learn_68 : decode cX8_learn 68 = .ok (.aload_n 0, 1) := by decide +kernel
theorem dX8_learn_69 : decode cX8_learn 69 = .ok (.iconst 0, 1) := by decide +kernel
theorem dX8_learn_70 : decode cX8_learn 70 = .ok (.putfield 70, 3) := by decide +kernel
theorem dX8_learn_73 : decode cX8_learn 73 = .ok (.aload_n 0, 1) := by decide +kernel
theorem dX8_learn_74 : decode cX8_learn 74 = .ok (.dup, 1) := by decide +kernel
theorem dX8_learn_75 : decode cX8_learn 75 = .ok (.getfield 85, 3) := by decide +kernel
theorem dX8_learn_78 : decode cX8_learn 78 = .ok (.iconst 1, 1) := by decide +kernel
theorem dX8_learn_79 : decode cX8_learn 79 = .ok (.iadd, 1) := by decide +kernel
theorem dX8_learn_80 : decode cX8_learn 80 = .ok (.putfield 85, 3) := by decide +kernel
theorem dX8_learn_83 : decode cX8_learn 83 = .ok (.return_, 1) := by decide +kernel
theorem dX8_learn_84 : decode cX8_learn 84 = .ok (.aload_n 0, 1) := by decide +kernel
theorem dX8_learn_85 : decode cX8_learn 85 = .ok (.getfield 23, 3) := by decide +kernel
theorem dX8_learn_88 : decode cX8_learn 88 = .ok (.aload_n 0, 1) := by decide +kernel
theorem dX8_learn_89 : decode cX8_learn 89 = .ok (.getfield 70, 3) := by decide +kernel
theorem dX8_learn_92 : decode cX8_learn 92 = .ok (.iload 5, 2) := by decide +kernel
theorem dX8_learn_94 : decode cX8_learn 94 = .ok (.iastore, 1) := by decide +kernel
theorem dX8_learn_95 : decode cX8_learn 95 = .ok (.aload_n 0, 1) := by decide +kernel
theorem dX8_learn_96 : decode cX8_learn 96 = .ok (.getfield 27, 3) := by decide +kernel
theorem dX8_learn_99 : decode cX8_learn 99 = .ok (.aload_n 0, 1) := by decide +kernel
theorem dX8_learn_100 : decode cX8_learn 100 = .ok (.getfield 70, 3) := by decide +kernel
theorem dX8_learn_103 : decode cX8_learn 103 = .ok (.iload_n 1, 1) := by decide +kernel
theorem dX8_learn_104 : decode cX8_learn 104 = .ok (.i2s, 1) := by decide +kernel
theorem dX8_learn_105 : decode cX8_learn 105 = .ok (.sastore, 1) := by decide +kernel
theorem dX8_learn_106 : decode cX8_learn 106 = .ok (.aload_n 0, 1) := by decide +kernel
theorem dX8_learn_107 : decode cX8_learn 107 = .ok (.getfield 31, 3) := by decide +kernel
theorem dX8_learn_110 : decode cX8_learn 110 = .ok (.aload_n 0, 1) := by decide +kernel
theorem dX8_learn_111 : decode cX8_learn 111 = .ok (.getfield 70, 3) := by decide +kernel
theorem dX8_learn_114 : decode cX8_learn 114 = .ok (.iconst 1, 1) := by decide +kernel
theorem dX8_learn_115 : decode cX8_learn 115 = .ok (.sastore, 1) := by decide +kernel
theorem dX8_learn_116 : decode cX8_learn 116 = .ok (.aload_n 0, 1) := by decide +kernel
theorem dX8_learn_117 : decode cX8_learn 117 = .ok (.dup, 1) := by decide +kernel
theorem dX8_learn_118 : decode cX8_learn 118 = .ok (.getfield 70, 3) := by decide +kernel
theorem dX8_learn_121 : decode cX8_learn 121 = .ok (.iconst 1, 1) := by decide +kernel
theorem dX8_learn_122 : decode cX8_learn 122 = .ok (.iadd, 1) := by decide +kernel
theorem dX8_learn_123 : decode cX8_learn 123 = .ok (.putfield 70, 3) := by decide +kernel
theorem dX8_learn_126 : decode cX8_learn 126 = .ok (.goto 34, 3) := by decide +kernel
theorem dX8_learn_129 : decode cX8_learn 129 = .ok (.aload_n 0, 1) := by decide +kernel
theorem dX8_learn_130 : decode cX8_learn 130 = .ok (.getfield 31, 3) := by decide +kernel
theorem dX8_learn_133 : decode cX8_learn 133 = .ok (.iload 6, 2) := by decide +kernel
theorem dX8_learn_135 : decode cX8_learn 135 = .ok (.saload, 1) := by decide +kernel
theorem dX8_learn_136 : decode cX8_learn 136 = .ok (.sipush 255, 3) := by decide +kernel
theorem dX8_learn_139 : decode cX8_learn 139 = .ok (.if_icmp .ne 9, 3) := by decide +kernel
theorem dX8_learn_142 : decode cX8_learn 142 = .ok (.aload_n 0, 1) := by decide +kernel
theorem dX8_learn_143 : decode cX8_learn 143 = .ok (.iload 5, 2) := by decide +kernel
theorem dX8_learn_145 : decode cX8_learn 145 = .ok (.invokevirtual 111, 3) := by decide +kernel
theorem dX8_learn_148 : decode cX8_learn 148 = .ok (.aload_n 0, 1) := by decide +kernel
theorem dX8_learn_149 : decode cX8_learn 149 = .ok (.getfield 31, 3) := by decide +kernel
theorem dX8_learn_152 : decode cX8_learn 152 = .ok (.iload 6, 2) := by decide +kernel
theorem dX8_learn_154 : decode cX8_learn 154 = .ok (.dup2, 1) := by decide +kernel
theorem dX8_learn_155 : decode cX8_learn 155 = .ok (.saload, 1) := by decide +kernel
theorem dX8_learn_156 : decode cX8_learn 156 = .ok (.iconst 1, 1) := by decide +kernel
theorem dX8_learn_157 : decode cX8_learn 157 = .ok (.iadd, 1) := by decide +kernel
theorem dX8_learn_158 : decode cX8_learn 158 = .ok (.i2s, 1) := by decide +kernel
theorem dX8_learn_159 : decode cX8_learn 159 = .ok (.sastore, 1) := by decide +kernel
theorem dX8_learn_160 : decode cX8_learn 160 = .ok (.iinc 4 (-1), 3) := by decide +kernel
theorem dX8_learn_163 : decode cX8_learn 163 = .ok (.goto (-135), 3) := by decide +kernel
theorem dX8_learn_166 : decode cX8_learn 166 = .ok (.return_, 1) := by decide +kernel
theorem dX8_halve_0 : decode cX8_halve 0 = .ok (.iconst 0, 1) := by decide +kernel
theorem dX8_halve_1 : decode cX8_halve 1 = .ok (.istore_n 2, 1) := by decide +kernel
theorem dX8_halve_2 : decode cX8_halve 2 = .ok (.iload_n 2, 1) := by decide +kernel
theorem dX8_halve_3 : decode cX8_halve 3 = .ok (.aload_n 0, 1) := by decide +kernel
theorem dX8_halve_4 : decode cX8_halve 4 = .ok (.getfield 70, 3) := by decide +kernel
theorem dX8_halve_7 : decode cX8_halve 7 = .ok (.if_icmp .ge 36, 3) := by decide +kernel
theorem dX8_halve_10 : decode cX8_halve 10 = .ok (.aload_n 0, 1) := by decide +kernel
theorem dX8_halve_11 : decode cX8_halve 11 = .ok (.getfield 23, 3) := by decide +kernel
theorem dX8_halve_14 : decode cX8_halve 14 = .ok (.iload_n 2, 1) := by decide +kernel
theorem dX8_halve_15 : decode cX8_halve 15 = .ok (.iaload, 1) := by decide +kernel
theorem dX8_halve_16 : decode cX8_halve 16 = .ok (.iload_n 1, 1) := by decide +kernel
theorem dX8_halve_17 : decode cX8_halve 17 = .ok (.if_icmp .ne 20, 3) := by decide +kernel
theorem dX8_halve_20 : decode cX8_halve 20 = .ok (.aload_n 0, 1) := by decide +kernel
theorem dX8_halve_21 : decode cX8_halve 21 = .ok (.getfield 31, 3) := by decide +kernel
theorem dX8_halve_24 : decode cX8_halve 24 = .ok (.iload_n 2, 1) := by decide +kernel
theorem dX8_halve_25 : decode cX8_halve 25 = .ok (.aload_n 0, 1) := by decide +kernel
theorem dX8_halve_26 : decode cX8_halve 26 = .ok (.getfield 31, 3) := by decide +kernel
theorem dX8_halve_29 : decode cX8_halve 29 = .ok (.iload_n 2, 1) := by decide +kernel
theorem dX8_halve_30 : decode cX8_halve 30 = .ok (.saload, 1) := by decide +kernel
theorem dX8_halve_31 : decode cX8_halve 31 = .ok (.iconst 1, 1) := by decide +kernel
theorem dX8_halve_32 : decode cX8_halve 32 = .ok (.iadd, 1) := by decide +kernel
theorem dX8_halve_33 : decode cX8_halve 33 = .ok (.iconst 2, 1) := by decide +kernel
theorem dX8_halve_34 : decode cX8_halve 34 = .ok (.idiv, 1) := by decide +kernel
theorem dX8_halve_35 : decode cX8_halve 35 = .ok (.i2s, 1) := by decide +kernel
theorem dX8_halve_36 : decode cX8_halve 36 = .ok (.sastore, 1) := by decide +kernel
theorem dX8_halve_37 : decode cX8_halve 37 = .ok (.iinc 2 1, 3) := by decide +kernel
theorem dX8_halve_40 : decode cX8_halve 40 = .ok (.goto (-38), 3) := by decide +kernel
theorem dX8_halve_43 : decode cX8_halve 43 = .ok (.aload_n 0, 1) := by decide +kernel
theorem dX8_halve_44 : decode cX8_halve 44 = .ok (.dup, 1) := by decide +kernel
theorem dX8_halve_45 : decode cX8_halve 45 = .ok (.getfield 82, 3) := by decide +kernel
theorem dX8_halve_48 : decode cX8_halve 48 = .ok (.iconst 1, 1) := by decide +kernel
theorem dX8_halve_49 : decode cX8_halve 49 = .ok (.iadd, 1) := by decide +kernel
theorem dX8_halve_50 : decode cX8_halve 50 = .ok (.putfield 82, 3) := by decide +kernel
theorem dX8_halve_53 : decode cX8_halve 53 = .ok (.return_, 1) := by decide +kernel
theorem dX8_goBy_0 : decode cX8_goBy 0 = .ok (.aload_n 0, 1) := by decide +kernel
theorem dX8_goBy_1 : decode cX8_goBy 1 = .ok (.aload_n 0, 1) := by decide +kernel
theorem dX8_goBy_2 : decode cX8_goBy 2 = .ok (.getfield 91, 3) := by decide +kernel
theorem dX8_goBy_5 : decode cX8_goBy 5 = .ok (.putfield 94, 3) := by decide +kernel
theorem dX8_goBy_8 : decode cX8_goBy 8 = .ok (.aload_n 0, 1) := by decide +kernel
theorem dX8_goBy_9 : decode cX8_goBy 9 = .ok (.iload_n 1, 1) := by decide +kernel
theorem dX8_goBy_10 : decode cX8_goBy 10 = .ok (.putfield 91, 3) := by decide +kernel
theorem dX8_goBy_13 : decode cX8_goBy 13 = .ok (.aload_n 0, 1) := by decide +kernel
theorem dX8_goBy_14 : decode cX8_goBy 14 = .ok (.dup, 1) := by decide +kernel
theorem dX8_goBy_15 : decode cX8_goBy 15 = .ok (.getfield 88, 3) := by decide +kernel
theorem dX8_goBy_18 : decode cX8_goBy 18 = .ok (.iconst 1, 1) := by decide +kernel
theorem dX8_goBy_19 : decode cX8_goBy 19 = .ok (.iadd, 1) := by decide +kernel
theorem dX8_goBy_20 : decode cX8_goBy 20 = .ok (.putfield 88, 3) := by decide +kernel
theorem dX8_goBy_23 : decode cX8_goBy 23 = .ok (.return_, 1) := by decide +kernel
theorem dX8_note_0 : decode cX8_note 0 = .ok (.aload_n 0, 1) := by decide +kernel
theorem dX8_note_1 : decode cX8_note 1 = .ok (.getfield 73, 3) := by decide +kernel
theorem dX8_note_4 : decode cX8_note 4 = .ok (.sipush 20000, 3) := by decide +kernel
theorem dX8_note_7 : decode cX8_note 7 = .ok (.if_icmp .ge 48, 3) := by decide +kernel
theorem dX8_note_10 : decode cX8_note 10 = .ok (.aload_n 0, 1) := by decide +kernel
theorem dX8_note_11 : decode cX8_note 11 = .ok (.getfield 34, 3) := by decide +kernel
theorem dX8_note_14 : decode cX8_note 14 = .ok (.aload_n 0, 1) := by decide +kernel
theorem dX8_note_15 : decode cX8_note 15 = .ok (.getfield 73, 3) := by decide +kernel
theorem dX8_note_18 : decode cX8_note 18 = .ok (.iload_n 1, 1) := by decide +kernel
theorem dX8_note_19 : decode cX8_note 19 = .ok (.i2s, 1) := by decide +kernel
theorem dX8_note_20 : decode cX8_note 20 = .ok (.sastore, 1) := by decide +kernel
theorem dX8_note_21 : decode cX8_note 21 = .ok (.aload_n 0, 1) := by decide +kernel
theorem dX8_note_22 : decode cX8_note 22 = .ok (.getfield 37, 3) := by decide +kernel
theorem dX8_note_25 : decode cX8_note 25 = .ok (.aload_n 0, 1) := by decide +kernel
theorem dX8_note_26 : decode cX8_note 26 = .ok (.getfield 73, 3) := by decide +kernel
theorem dX8_note_29 : decode cX8_note 29 = .ok (.iload_n 2, 1) := by decide +kernel
theorem dX8_note_30 : decode cX8_note 30 = .ok (.i2s, 1) := by decide +kernel
theorem dX8_note_31 : decode cX8_note 31 = .ok (.sastore, 1) := by decide +kernel
theorem dX8_note_32 : decode cX8_note 32 = .ok (.aload_n 0, 1) := by decide +kernel
theorem dX8_note_33 : decode cX8_note 33 = .ok (.getfield 40, 3) := by decide +kernel
theorem dX8_note_36 : decode cX8_note 36 = .ok (.aload_n 0, 1) := by decide +kernel
theorem dX8_note_37 : decode cX8_note 37 = .ok (.getfield 73, 3) := by decide +kernel
theorem dX8_note_40 : decode cX8_note 40 = .ok (.iload_n 3, 1) := by decide +kernel
theorem dX8_note_41 : decode cX8_note 41 = .ok (.i2s, 1) := by decide +kernel
theorem dX8_note_42 : decode cX8_note 42 = .ok (.sastore, 1) := by decide +kernel
theorem dX8_note_43 : decode cX8_note 43 = .ok (.aload_n 0, 1) := by decide +kernel
theorem dX8_note_44 : decode cX8_note 44 = .ok (.getfield 43, 3) := by decide +kernel
theorem dX8_note_47 : decode cX8_note 47 = .ok (.aload_n 0, 1) := by decide +kernel
theorem dX8_note_48 : decode cX8_note 48 = .ok (.getfield 73, 3) := by decide +kernel
theorem dX8_note_51 : decode cX8_note 51 = .ok (.iload 4, 2) := by decide +kernel
theorem dX8_note_53 : decode cX8_note 53 = .ok (.i2b, 1) := by decide +kernel
theorem dX8_note_54 : decode cX8_note 54 = .ok (.bastore, 1) := by decide +kernel
theorem dX8_note_55 : decode cX8_note 55 = .ok (.aload_n 0, 1) := by decide +kernel
theorem dX8_note_56 : decode cX8_note 56 = .ok (.dup, 1) := by decide +kernel
theorem dX8_note_57 : decode cX8_note 57 = .ok (.getfield 73, 3) := by decide +kernel
theorem dX8_note_60 : decode cX8_note 60 = .ok (.iconst 1, 1) := by decide +kernel
theorem dX8_note_61 : decode cX8_note 61 = .ok (.iadd, 1) := by decide +kernel
theorem dX8_note_62 : decode cX8_note 62 = .ok (.putfield 73, 3) := by decide +kernel
theorem dX8_note_65 : decode cX8_note 65 = .ok (.return_, 1) := by decide +kernel
theorem dX8_narrow_0 : decode cX8_narrow 0 = .ok (.aload_n 0, 1) := by decide +kernel
theorem dX8_narrow_1 : decode cX8_narrow 1 = .ok (.getfield 66, 3) := by decide +kernel
theorem dX8_narrow_4 : decode cX8_narrow 4 = .ok (.iload_n 3, 1) := by decide +kernel
theorem dX8_narrow_5 : decode cX8_narrow 5 = .ok (.i2l, 1) := by decide +kernel
theorem dX8_narrow_6 : decode cX8_narrow 6 = .ok (.ldiv, 1) := by decide +kernel
theorem dX8_narrow_7 : decode cX8_narrow 7 = .ok (.lstore 4, 2) := by decide +kernel
theorem dX8_narrow_9 : decode cX8_narrow 9 = .ok (.lload 4, 2) := by decide +kernel
theorem dX8_narrow_11 : decode cX8_narrow 11 = .ok (.iload_n 1, 1) := by decide +kernel
theorem dX8_narrow_12 : decode cX8_narrow 12 = .ok (.i2l, 1) := by decide +kernel
theorem dX8_narrow_13 : decode cX8_narrow 13 = .ok (.lmul, 1) := by decide +kernel
theorem dX8_narrow_14 : decode cX8_narrow 14 = .ok (.lstore 6, 2) := by decide +kernel
theorem dX8_narrow_16 : decode cX8_narrow 16 = .ok (.aload_n 0, 1) := by decide +kernel
theorem dX8_narrow_17 : decode cX8_narrow 17 = .ok (.iload_n 1, 1) := by decide +kernel
theorem dX8_narrow_18 : decode cX8_narrow 18 = .ok (.iload_n 2, 1) := by decide +kernel
theorem dX8_narrow_19 : decode cX8_narrow 19 = .ok (.iadd, 1) := by decide +kernel
theorem dX8_narrow_20 : decode cX8_narrow 20 = .ok (.iload_n 3, 1) := by decide +kernel
theorem dX8_narrow_21 : decode cX8_narrow 21 = .ok (.if_icmp .ne 13, 3) := by decide +kernel
theorem dX8_narrow_24 : decode cX8_narrow 24 = .ok (.aload_n 0, 1) := by decide +kernel
theorem dX8_narrow_25 : decode cX8_narrow 25 = .ok (.getfield 66, 3) := by decide +kernel
theorem dX8_narrow_28 : decode cX8_narrow 28 = .ok (.lload 6, 2) := by decide +kernel
theorem dX8_narrow_30 : decode cX8_narrow 30 = .ok (.lsub, 1) := by decide +kernel
theorem dX8_narrow_31 : decode cX8_narrow 31 = .ok (.goto 8, 3) := by decide +kernel
theorem dX8_narrow_34 : decode cX8_narrow 34 = .ok (.lload 4, 2) := by decide +kernel
theorem dX8_narrow_36 : decode cX8_narrow 36 = .ok (.iload_n 2, 1) := by decide +kernel
theorem dX8_narrow_37 : decode cX8_narrow 37 = .ok (.i2l, 1) := by decide +kernel
theorem dX8_narrow_38 : decode cX8_narrow 38 = .ok (.lmul, 1) := by decide +kernel
theorem dX8_narrow_39 : decode cX8_narrow 39 = .ok (.putfield 66, 3) := by decide +kernel
theorem dX8_narrow_42 : decode cX8_narrow 42 = .ok (.aload_n 0, 1) := by decide +kernel
theorem dX8_narrow_43 : decode cX8_narrow 43 = .ok (.getfield 115, 3) := by decide +kernel
theorem dX8_narrow_46 : decode cX8_narrow 46 = .ok (.ifCond .eq 17, 3) := by decide +kernel
theorem dX8_narrow_49 : decode cX8_narrow 49 = .ok (.aload_n 0, 1) := by decide +kernel
theorem dX8_narrow_50 : decode cX8_narrow 50 = .ok (.dup, 1) := by decide +kernel
theorem dX8_narrow_51 : decode cX8_narrow 51 = .ok (.getfield 119, 3) := by decide +kernel
theorem dX8_narrow_54 : decode cX8_narrow 54 = .ok (.lload 6, 2) := by decide +kernel
theorem dX8_narrow_56 : decode cX8_narrow 56 = .ok (.lsub, 1) := by decide +kernel
theorem dX8_narrow_57 : decode cX8_narrow 57 = .ok (.putfield 119, 3) := by decide +kernel
theorem dX8_narrow_60 : decode cX8_narrow 60 = .ok (.goto 9, 3) := by decide +kernel
theorem dX8_narrow_63 : decode cX8_narrow 63 = .ok (.aload_n 0, 1) := by decide +kernel
theorem dX8_narrow_64 : decode cX8_narrow 64 = .ok (.lload 6, 2) := by decide +kernel
theorem dX8_narrow_66 : decode cX8_narrow 66 = .ok (.invokevirtual 122, 3) := by decide +kernel
theorem dX8_narrow_69 : decode cX8_narrow 69 = .ok (.aload_n 0, 1) := by decide +kernel
theorem dX8_narrow_70 : decode cX8_narrow 70 = .ok (.getfield 66, 3) := by decide +kernel
theorem dX8_narrow_73 : decode cX8_narrow 73 = .ok (.ldc2_w 126, 3) := by decide +kernel
theorem dX8_narrow_76 : decode cX8_narrow 76 = .ok (.lcmp, 1) := by decide +kernel
theorem dX8_narrow_77 : decode cX8_narrow 77 = .ok (.ifCond .ge 119, 3) := by decide +kernel
theorem dX8_narrow_80 : decode cX8_narrow 80 = .ok (.aload_n 0, 1) := by decide +kernel
theorem dX8_narrow_81 : decode cX8_narrow 81 = .ok (.dup, 1) := by decide +kernel
theorem dX8_narrow_82 : decode cX8_narrow 82 = .ok (.getfield 66, 3) := by decide +kernel
theorem dX8_narrow_85 : decode cX8_narrow 85 = .ok (.ldc2_w 128, 3) := by decide +kernel
theorem dX8_narrow_88 : decode cX8_narrow 88 = .ok (.lmul, 1) := by decide +kernel
theorem dX8_narrow_89 : decode cX8_narrow 89 = .ok (.putfield 66, 3) := by decide +kernel
theorem dX8_narrow_92 : decode cX8_narrow 92 = .ok (.aload_n 0, 1) := by decide +kernel
theorem dX8_narrow_93 : decode cX8_narrow 93 = .ok (.dup, 1) := by decide +kernel
theorem dX8_narrow_94 : decode cX8_narrow 94 = .ok (.getfield 79, 3) := by decide +kernel
theorem dX8_narrow_97 : decode cX8_narrow 97 = .ok (.iconst 1, 1) := by decide +kernel
theorem dX8_narrow_98 : decode cX8_narrow 98 = .ok (.iadd, 1) := by decide +kernel
theorem dX8_narrow_99 : decode cX8_narrow 99 = .ok (.putfield 79, 3) := by decide +kernel
theorem dX8_narrow_102 : decode cX8_narrow 102 = .ok (.aload_n 0, 1) := by decide +kernel
theorem dX8_narrow_103 : decode cX8_narrow 103 = .ok (.getfield 115, 3) := by decide +kernel
theorem dX8_narrow_106 : decode cX8_narrow 106 = .ok (.ifCond .eq 49, 3) := by decide +kernel
theorem dX8_narrow_109 : decode cX8_narrow 109 = .ok (.aload_n 0, 1) := by decide +kernel
theorem dX8_narrow_110 : decode cX8_narrow 110 = .ok (.aload_n 0, 1) := by decide +kernel
theorem dX8_narrow_111 : decode cX8_narrow 111 = .ok (.getfield 119, 3) := by decide +kernel
theorem dX8_narrow_114 : decode cX8_narrow 114 = .ok (.ldc2_w 128, 3) := by decide +kernel
theorem dX8_narrow_117 : decode cX8_narrow 117 = .ok (.lmul, 1) := by decide +kernel
theorem dX8_narrow_118 : decode cX8_narrow 118 = .ok (.aload_n 0, 1) := by decide +kernel
theorem dX8_narrow_119 : decode cX8_narrow 119 = .ok (.invokevirtual 130, 3) := by decide +kernel
theorem dX8_narrow_122 : decode cX8_narrow 122 = .ok (.i2l, 1) := by decide +kernel
theorem dX8_narrow_123 : decode cX8_narrow 123 = .ok (.ladd, 1) := by decide +kernel
theorem dX8_narrow_124 : decode cX8_narrow 124 = .ok (.putfield 119, 3) := by decide +kernel
theorem dX8_narrow_127 : decode cX8_narrow 127 = .ok (.aload_n 0, 1) := by decide +kernel
theorem dX8_narrow_128 : decode cX8_narrow 128 = .ok (.aload_n 0, 1) := by decide +kernel
theorem dX8_narrow_129 : decode cX8_narrow 129 = .ok (.getfield 119, 3) := by decide +kernel
theorem dX8_narrow_132 : decode cX8_narrow 132 = .ok (.ldc2_w 134, 3) := by decide +kernel
theorem dX8_narrow_135 : decode cX8_narrow 135 = .ok (.lcmp, 1) := by decide +kernel
theorem dX8_narrow_136 : decode cX8_narrow 136 = .ok (.ifCond .le 9, 3) := by decide +kernel
theorem dX8_narrow_139 : decode cX8_narrow 139 = .ok (.ldc2_w 134, 3) := by decide +kernel
theorem dX8_narrow_142 : decode cX8_narrow 142 = .ok (.goto 7, 3) := by decide +kernel
theorem dX8_narrow_145 : decode cX8_narrow 145 = .ok (.aload_n 0, 1) := by decide +kernel
theorem dX8_narrow_146 : decode cX8_narrow 146 = .ok (.getfield 119, 3) := by decide +kernel
theorem dX8_narrow_149 : decode cX8_narrow 149 = .ok (.putfield 119, 3) := by decide +kernel
theorem dX8_narrow_152 : decode cX8_narrow 152 = .ok (.goto (-83), 3) := by decide +kernel
theorem dX8_narrow_155 : decode cX8_narrow 155 = .ok (.aload_n 0, 1) := by decide +kernel
theorem dX8_narrow_156 : decode cX8_narrow 156 = .ok (.getfield 57, 3) := by decide +kernel
theorem dX8_narrow_159 : decode cX8_narrow 159 = .ok (.sipush 8000, 3) := by decide +kernel
theorem dX8_narrow_162 : decode cX8_narrow 162 = .ok (.if_icmp .ge 26, 3) := by decide +kernel
theorem dX8_narrow_165 : decode cX8_narrow 165 = .ok (.aload_n 0, 1) := by decide +kernel
theorem dX8_narrow_166 : decode cX8_narrow 166 = .ok (.getfield 13, 3) := by decide +kernel
theorem dX8_narrow_169 : decode cX8_narrow 169 = .ok (.aload_n 0, 1) := by decide +kernel
theorem dX8_narrow_170 : decode cX8_narrow 170 = .ok (.getfield 57, 3) := by decide +kernel
theorem dX8_narrow_173 : decode cX8_narrow 173 = .ok (.iconst 0, 1) := by decide +kernel
theorem dX8_narrow_174 : decode cX8_narrow 174 = .ok (.bastore, 1) := by decide +kernel
theorem dX8_narrow_175 : decode cX8_narrow 175 = .ok (.aload_n 0, 1) := by decide +kernel
theorem dX8_narrow_176 : decode cX8_narrow 176 = .ok (.dup, 1) := by decide +kernel
theorem dX8_narrow_177 : decode cX8_narrow 177 = .ok (.getfield 57, 3) := by decide +kernel
theorem dX8_narrow_180 : decode cX8_narrow 180 = .ok (.iconst 1, 1) := by decide +kernel
theorem dX8_narrow_181 : decode cX8_narrow 181 = .ok (.iadd, 1) := by decide +kernel
theorem dX8_narrow_182 : decode cX8_narrow 182 = .ok (.putfield 57, 3) := by decide +kernel
theorem dX8_narrow_185 : decode cX8_narrow 185 = .ok (.goto (-116), 3) := by decide +kernel
theorem dX8_narrow_188 : decode cX8_narrow 188 = .ok (.aload_n 0, 1) := by decide +kernel
theorem dX8_narrow_189 : decode cX8_narrow 189 = .ok (.iconst 1, 1) := by decide +kernel
theorem dX8_narrow_190 : decode cX8_narrow 190 = .ok (.putfield 136, 3) := by decide +kernel
theorem dX8_narrow_193 : decode cX8_narrow 193 = .ok (.goto (-124), 3) := by decide +kernel
theorem dX8_narrow_196 : decode cX8_narrow 196 = .ok (.return_, 1) := by decide +kernel
theorem dX8_addLow_0 : decode cX8_addLow 0 = .ok (.lload_n 1, 1) := by decide +kernel
theorem dX8_addLow_1 : decode cX8_addLow 1 = .ok (.lstore_n 3, 1) := by decide +kernel
theorem dX8_addLow_2 : decode cX8_addLow 2 = .ok (.aload_n 0, 1) := by decide +kernel
theorem dX8_addLow_3 : decode cX8_addLow 3 = .ok (.getfield 57, 3) := by decide +kernel
theorem dX8_addLow_6 : decode cX8_addLow 6 = .ok (.iconst 1, 1) := by decide +kernel
theorem dX8_addLow_7 : decode cX8_addLow 7 = .ok (.isub, 1) := by decide +kernel
theorem dX8_addLow_8 : decode cX8_addLow 8 = .ok (.istore 5, 2) := by decide +kernel
theorem dX8_addLow_10 : decode cX8_addLow 10 = .ok (.iload 5, 2) := by decide +kernel
theorem dX8_addLow_12 : decode cX8_addLow 12 = .ok (.ifCond .lt 52, 3) := by decide +kernel
theorem dX8_addLow_15 : decode cX8_addLow 15 = .ok (.lload_n 3, 1) := by decide +kernel
theorem dX8_addLow_16 : decode cX8_addLow 16 = .ok (.lconst 0, 1) := by decide +kernel
theorem dX8_addLow_17 : decode cX8_addLow 17 = .ok (.lcmp, 1) := by decide +kernel
theorem dX8_addLow_18 : decode cX8_addLow 18 = .ok (.ifCond .le 46, 3) := by decide +kernel
theorem dX8_addLow_21 : decode cX8_addLow 21 = .ok (.aload_n 0, 1) := by decide +kernel
theorem dX8_addLow_22 : decode cX8_addLow 22 = .ok (.getfield 136, 3) := by decide +kernel
theorem dX8_addLow_25 : decode cX8_addLow 25 = .ok (.ifCond .ne 39, 3) := by decide +kernel
theorem dX8_addLow_28 : decode cX8_addLow 28 = .ok (.lload_n 3, 1) := by decide +kernel
theorem dX8_addLow_29 : decode cX8_addLow 29 = .ok (.aload_n 0, 1) := by decide +kernel
theorem dX8_addLow_30 : decode cX8_addLow 30 = .ok (.getfield 13, 3) := by decide +kernel
theorem dX8_addLow_33 : decode cX8_addLow 33 = .ok (.iload 5, 2) := by decide +kernel
theorem dX8_addLow_35 : decode cX8_addLow 35 = .ok (.baload, 1) := by decide +kernel
theorem dX8_addLow_36 : decode cX8_addLow 36 = .ok (.sipush 255, 3) := by decide +kernel
theorem dX8_addLow_39 : decode cX8_addLow 39 = .ok (.iand, 1) := by decide +kernel
theorem dX8_addLow_40 : decode cX8_addLow 40 = .ok (.i2l, 1) := by decide +kernel
theorem dX8_addLow_41 : decode cX8_addLow 41 = .ok (.ladd, 1) := by decide +kernel
theorem dX8_addLow_42 : decode cX8_addLow 42 = .ok (.lstore_n 3, 1) := by decide +kernel
theorem dX8_addLow_43 : decode cX8_addLow 43 = .ok (.aload_n 0, 1) := by decide +kernel
theorem dX8_addLow_44 : decode cX8_addLow 44 = .ok (.getfield 13, 3) := by decide +kernel
theorem dX8_addLow_47 : decode cX8_addLow 47 = .ok (.iload 5, 2) := by decide +kernel
theorem dX8_addLow_49 : decode cX8_addLow 49 = .ok (.lload_n 3, 1) := by decide +kernel
theorem dX8_addLow_50 : decode cX8_addLow 50 = .ok (.l2i, 1) := by decide +kernel
theorem dX8_addLow_51 : decode cX8_addLow 51 = .ok (.i2b, 1) := by decide +kernel
theorem dX8_addLow_52 : decode cX8_addLow 52 = .ok (.bastore, 1) := by decide +kernel
theorem dX8_addLow_53 : decode cX8_addLow 53 = .ok (.lload_n 3, 1) := by decide +kernel
theorem dX8_addLow_54 : decode cX8_addLow 54 = .ok (.bipush 8, 2) := by decide +kernel
theorem dX8_addLow_56 : decode cX8_addLow 56 = .ok (.lshr, 1) := by decide +kernel
theorem dX8_addLow_57 : decode cX8_addLow 57 = .ok (.lstore_n 3, 1) := by decide +kernel
theorem dX8_addLow_58 : decode cX8_addLow 58 = .ok (.iinc 5 (-1), 3) := by decide +kernel
theorem dX8_addLow_61 : decode cX8_addLow 61 = .ok (.goto (-51), 3) := by decide +kernel
theorem dX8_addLow_64 : decode cX8_addLow 64 = .ok (.return_, 1) := by decide +kernel
theorem dX8_nextByte_0 : decode cX8_nextByte 0 = .ok (.aload_n 0, 1) := by decide +kernel
theorem dX8_nextByte_1 : decode cX8_nextByte 1 = .ok (.getfield 139, 3) := by decide +kernel
theorem dX8_nextByte_4 : decode cX8_nextByte 4 = .ok (.aload_n 0, 1) := by decide +kernel
theorem dX8_nextByte_5 : decode cX8_nextByte 5 = .ok (.getfield 57, 3) := by decide +kernel
theorem dX8_nextByte_8 : decode cX8_nextByte 8 = .ok (.if_icmp .ge 19, 3) := by decide +kernel
theorem dX8_nextByte_11 : decode cX8_nextByte 11 = .ok (.aload_n 0, 1) := by decide +kernel
theorem dX8_nextByte_12 : decode cX8_nextByte 12 = .ok (.getfield 13, 3) := by decide +kernel
theorem dX8_nextByte_15 : decode cX8_nextByte 15 = .ok (.aload_n 0, 1) := by decide +kernel
theorem dX8_nextByte_16 : decode cX8_nextByte 16 = .ok (.getfield 139, 3) := by decide +kernel
theorem dX8_nextByte_19 : decode cX8_nextByte 19 = .ok (.baload, 1) := by decide +kernel
theorem dX8_nextByte_20 : decode cX8_nextByte 20 = .ok (.sipush 255, 3) := by decide +kernel
theorem dX8_nextByte_23 : decode cX8_nextByte 23 = .ok (.iand, 1) := by decide +kernel
theorem dX8_nextByte_24 : decode cX8_nextByte 24 = .ok (.goto 4, 3) := by decide +kernel
theorem dX8_nextByte_27 : decode cX8_nextByte 27 = .ok (.iconst 0, 1) := by decide +kernel
theorem dX8_nextByte_28 : decode cX8_nextByte 28 = .ok (.istore_n 1, 1) := by decide +kernel
theorem dX8_nextByte_29 : decode cX8_nextByte 29 = .ok (.aload_n 0, 1) := by decide +kernel
theorem dX8_nextByte_30 : decode cX8_nextByte 30 = .ok (.dup, 1) := by decide +kernel
theorem dX8_nextByte_31 : decode cX8_nextByte 31 = .ok (.getfield 139, 3) := by decide +kernel
theorem dX8_nextByte_34 : decode cX8_nextByte 34 = .ok (.iconst 1, 1) := by decide +kernel
theorem dX8_nextByte_35 : decode cX8_nextByte 35 = .ok (.iadd, 1) := by decide +kernel
theorem dX8_nextByte_36 : decode cX8_nextByte 36 = .ok (.putfield 139, 3) := by decide +kernel
theorem dX8_nextByte_39 : decode cX8_nextByte 39 = .ok (.iload_n 1, 1) := by decide +kernel
theorem dX8_nextByte_40 : decode cX8_nextByte 40 = .ok (.ireturn, 1) := by decide +kernel
theorem dX8_placeOf_0 : decode cX8_placeOf 0 = .ok (.aload_n 0, 1) := by decide +kernel
theorem dX8_placeOf_1 : decode cX8_placeOf 1 = .ok (.getfield 119, 3) := by decide +kernel
theorem dX8_placeOf_4 : decode cX8_placeOf 4 = .ok (.aload_n 0, 1) := by decide +kernel
theorem dX8_placeOf_5 : decode cX8_placeOf 5 = .ok (.getfield 66, 3) := by decide +kernel
theorem dX8_placeOf_8 : decode cX8_placeOf 8 = .ok (.iload_n 1, 1) := by decide +kernel
theorem dX8_placeOf_9 : decode cX8_placeOf 9 = .ok (.i2l, 1) := by decide +kernel
theorem dX8_placeOf_10 : decode cX8_placeOf 10 = .ok (.ldiv, 1) := by decide +kernel
theorem dX8_placeOf_11 : decode cX8_placeOf 11 = .ok (.ldiv, 1) := by decide +kernel
theorem dX8_placeOf_12 : decode cX8_placeOf 12 = .ok (.lstore_n 2, 1) := by decide +kernel
theorem dX8_placeOf_13 : decode cX8_placeOf 13 = .ok (.lload_n 2, 1) := by decide +kernel
theorem dX8_placeOf_14 : decode cX8_placeOf 14 = .ok (.iload_n 1, 1) := by decide +kernel
theorem dX8_placeOf_15 : decode cX8_placeOf 15 = .ok (.i2l, 1) := by decide +kernel
theorem dX8_placeOf_16 : decode cX8_placeOf 16 = .ok (.lconst 1, 1) := by decide +kernel
theorem dX8_placeOf_17 : decode cX8_placeOf 17 = .ok (.lsub, 1) := by decide +kernel
theorem dX8_placeOf_18 : decode cX8_placeOf 18 = .ok (.lcmp, 1) := by decide +kernel
theorem dX8_placeOf_19 : decode cX8_placeOf 19 = .ok (.ifCond .le 9, 3) := by decide +kernel
theorem dX8_placeOf_22 : decode cX8_placeOf 22 = .ok (.iload_n 1, 1) := by decide +kernel
theorem dX8_placeOf_23 : decode cX8_placeOf 23 = .ok (.iconst 1, 1) := by decide +kernel
theorem dX8_placeOf_24 : decode cX8_placeOf 24 = .ok (.isub, 1) := by decide +kernel
theorem dX8_placeOf_25 : decode cX8_placeOf 25 = .ok (.goto 5, 3) := by decide +kernel
theorem dX8_placeOf_28 : decode cX8_placeOf 28 = .ok (.lload_n 2, 1) := by decide +kernel
theorem dX8_placeOf_29 : decode cX8_placeOf 29 = .ok (.l2i, 1) := by decide +kernel
theorem dX8_placeOf_30 : decode cX8_placeOf 30 = .ok (.ireturn, 1) := by decide +kernel
theorem dX8_tell_0 : decode cX8_tell 0 = .ok (.iconst 0, 1) := by decide +kernel
theorem dX8_tell_1 : decode cX8_tell 1 = .ok (.istore_n 2, 1) := by decide +kernel
theorem dX8_tell_2 : decode cX8_tell 2 = .ok (.iload_n 2, 1) := by decide +kernel
theorem dX8_tell_3 : decode cX8_tell 3 = .ok (.sipush 256, 3) := by decide +kernel
theorem dX8_tell_6 : decode cX8_tell 6 = .ok (.if_icmp .gt 16, 3) := by decide +kernel
theorem dX8_tell_9 : decode cX8_tell 9 = .ok (.aload_n 0, 1) := by decide +kernel
theorem dX8_tell_10 : decode cX8_tell 10 = .ok (.getfield 46, 3) := by decide +kernel
theorem dX8_tell_13 : decode cX8_tell 13 = .ok (.iload_n 2, 1) := by decide +kernel
theorem dX8_tell_14 : decode cX8_tell 14 = .ok (.iconst 0, 1) := by decide +kernel
theorem dX8_tell_15 : decode cX8_tell 15 = .ok (.bastore, 1) := by decide +kernel
theorem dX8_tell_16 : decode cX8_tell 16 = .ok (.iinc 2 1, 3) := by decide +kernel
theorem dX8_tell_19 : decode cX8_tell 19 = .ok (.goto (-17), 3) := by decide +kernel
theorem dX8_tell_22 : decode cX8_tell 22 = .ok (.aload_n 0, 1) := by decide +kernel
theorem dX8_tell_23 : decode cX8_tell 23 = .ok (.getfield 88, 3) := by decide +kernel
theorem dX8_tell_26 : decode cX8_tell 26 = .ok (.iconst 2, 1) := by decide +kernel
theorem dX8_tell_27 : decode cX8_tell 27 = .ok (.if_icmp .ge 10, 3) := by decide +kernel
theorem dX8_tell_30 : decode cX8_tell 30 = .ok (.aload_n 0, 1) := by decide +kernel
theorem dX8_tell_31 : decode cX8_tell 31 = .ok (.getfield 88, 3) := by decide +kernel
theorem dX8_tell_34 : decode cX8_tell 34 = .ok (.goto 4, 3) := by decide +kernel
theorem dX8_tell_37 : decode cX8_tell 37 = .ok (.iconst 2, 1) := by decide +kernel
theorem dX8_tell_38 : decode cX8_tell 38 = .ok (.istore_n 2, 1) := by decide +kernel
theorem dX8_tell_39 : decode cX8_tell 39 = .ok (.iload_n 2, 1) := by decide +kernel
theorem dX8_tell_40 : decode cX8_tell 40 = .ok (.ifCond .lt 112, 3) := by decide +kernel
theorem dX8_tell_43 : decode cX8_tell 43 = .ok (.aload_n 0, 1) := by decide +kernel
theorem dX8_tell_44 : decode cX8_tell 44 = .ok (.iload_n 2, 1) := by decide +kernel
theorem dX8_tell_45 : decode cX8_tell 45 = .ok (.invokevirtual 103, 3) := by decide +kernel
theorem dX8_tell_48 : decode cX8_tell 48 = .ok (.istore_n 3, 1) := by decide +kernel
theorem dX8_tell_49 : decode cX8_tell 49 = .ok (.iconst 0, 1) := by decide +kernel
theorem dX8_tell_50 : decode cX8_tell 50 = .ok (.istore 4, 2) := by decide +kernel
theorem dX8_tell_52 : decode cX8_tell 52 = .ok (.iconst 0, 1) := by decide +kernel
theorem dX8_tell_53 : decode cX8_tell 53 = .ok (.istore 5, 2) := by decide +kernel
theorem dX8_tell_55 : decode cX8_tell 55 = .ok (.iconst 0, 1) := by decide +kernel
theorem dX8_tell_56 : decode cX8_tell 56 = .ok (.istore 6, 2) := by decide +kernel
theorem dX8_tell_58 : decode cX8_tell 58 = .ok (.iload 6, 2) := by decide +kernel
theorem dX8_tell_60 : decode cX8_tell 60 = .ok (.aload_n 0, 1) := by decide +kernel
theorem dX8_tell_61 : decode cX8_tell 61 = .ok (.getfield 70, 3) := by decide +kernel
theorem dX8_tell_64 : decode cX8_tell 64 = .ok (.if_icmp .ge 50, 3) := by decide +kernel
theorem dX8_tell_67 : decode cX8_tell 67 = .ok (.aload_n 0, 1) := by decide +kernel
theorem dX8_tell_68 : decode cX8_tell 68 = .ok (.getfield 23, 3) := by decide +kernel
theorem dX8_tell_71 : decode cX8_tell 71 = .ok (.iload 6, 2) := by decide +kernel
theorem dX8_tell_73 : decode cX8_tell 73 = .ok (.iaload, 1) := by decide +kernel
theorem dX8_tell_74 : decode cX8_tell 74 = .ok (.iload_n 3, 1) := by decide +kernel
theorem dX8_tell_75 : decode cX8_tell 75 = .ok (.if_icmp .ne 33, 3) := by decide +kernel
theorem dX8_tell_78 : decode cX8_tell 78 = .ok (.aload_n 0, 1) := by decide +kernel
theorem dX8_tell_79 : decode cX8_tell 79 = .ok (.getfield 46, 3) := by decide +kernel
theorem dX8_tell_82 : decode cX8_tell 82 = .ok (.aload_n 0, 1) := by decide +kernel
theorem dX8_tell_83 : decode cX8_tell 83 = .ok (.getfield 27, 3) := by decide +kernel
theorem dX8_tell_86 : decode cX8_tell 86 = .ok (.iload 6, 2) := by decide +kernel
theorem dX8_tell_88 : decode cX8_tell 88 = .ok (.saload, 1) := by decide +kernel
theorem dX8_tell_89 : decode cX8_tell 89 = .ok (.baload, 1) := by decide +kernel
theorem dX8_tell_90 : decode cX8_tell 90 = .ok (.ifCond .ne 18, 3) := by decide +kernel
theorem dX8_tell_93 : decode cX8_tell 93 = .ok (.iload 4, 2) := by decide +kernel
theorem dX8_tell_95 : decode cX8_tell 95 = .ok (.aload_n 0, 1) := by decide +kernel
theorem dX8_tell_96 : decode cX8_tell 96 = .ok (.getfield 31, 3) := by decide +kernel
theorem dX8_tell_99 : decode cX8_tell 99 = .ok (.iload 6, 2) := by decide +kernel
theorem dX8_tell_101 : decode cX8_tell 101 = .ok (.saload, 1) := by decide +kernel
theorem dX8_tell_102 : decode cX8_tell 102 = .ok (.iadd, 1) := by decide +kernel
theorem dX8_tell_103 : decode cX8_tell 103 = .ok (.istore 4, 2) := by decide +kernel
theorem dX8_tell_105 : decode cX8_tell 105 = .ok (.iinc 5 1, 3) := by decide +kernel
theorem dX8_tell_108 : decode cX8_tell 108 = .ok (.iinc 6 1, 3) := by decide +kernel
theorem dX8_tell_111 : decode cX8_tell 111 = .ok (.goto (-53), 3) := by decide +kernel
theorem dX8_tell_114 : decode cX8_tell 114 = .ok (.iload 5, 2) := by decide +kernel
theorem dX8_tell_116 : decode cX8_tell 116 = .ok (.ifCond .le 30, 3) := by decide +kernel
theorem dX8_tell_119 : decode cX8_tell 119 = .ok (.aload_n 0, 1) := by decide +kernel
theorem dX8_tell_120 : decode cX8_tell 120 = .ok (.iload_n 1, 1) := by decide +kernel
theorem dX8_tell_121 : decode cX8_tell 121 = .ok (.iload_n 2, 1) := by decide +kernel
theorem dX8_tell_122 : decode cX8_tell 122 = .ok (.iload_n 3, 1) := by decide +kernel
theorem dX8_tell_123 : decode cX8_tell 123 = .ok (.iload 4, 2) := by decide +kernel
theorem dX8_tell_125 : decode cX8_tell 125 = .ok (.iload 5, 2) := by decide +kernel
theorem dX8_tell_127 : decode cX8_tell 127 = .ok (.invokevirtual 142, 3) := by decide +kernel
theorem dX8_tell_130 : decode cX8_tell 130 = .ok (.istore 6, 2) := by decide +kernel
theorem dX8_tell_132 : decode cX8_tell 132 = .ok (.iload 6, 2) := by decide +kernel
theorem dX8_tell_134 : decode cX8_tell 134 = .ok (.iconst (-1), 1) := by decide +kernel
theorem dX8_tell_135 : decode cX8_tell 135 = .ok (.if_icmp .eq 11, 3) := by decide +kernel
theorem dX8_tell_138 : decode cX8_tell 138 = .ok (.aload_n 0, 1) := by decide +kernel
theorem dX8_tell_139 : decode cX8_tell 139 = .ok (.iload_n 2, 1) := by decide +kernel
theorem dX8_tell_140 : decode cX8_tell 140 = .ok (.putfield 146, 3) := by decide +kernel
theorem dX8_tell_143 : decode cX8_tell 143 = .ok (.iload 6, 2) := by decide +kernel
theorem dX8_tell_145 : decode cX8_tell 145 = .ok (.ireturn, 1) := by decide +kernel
theorem dX8_tell_146 : decode cX8_tell 146 = .ok (.iinc 2 (-1), 3) := by decide +kernel
theorem dX8_tell_149 : decode cX8_tell 149 = .ok (.goto (-110), 3) := by decide +kernel
theorem dX8_tell_152 : decode cX8_tell 152 = .ok (.aload_n 0, 1) := by decide +kernel
theorem dX8_tell_153 : decode cX8_tell 153 = .ok (.iconst (-1), 1) := by decide +kernel
theorem dX8_tell_154 : decode cX8_tell 154 = .ok (.putfield 146, 3) := by decide +kernel
theorem dX8_tell_157 : decode cX8_tell 157 = .ok (.iconst 0, 1) := by decide +kernel
theorem dX8_tell_158 : decode cX8_tell 158 = .ok (.istore_n 2, 1) := by decide +kernel
theorem dX8_tell_159 : decode cX8_tell 159 = .ok (.iconst 0, 1) := by decide +kernel
theorem dX8_tell_160 : decode cX8_tell 160 = .ok (.istore_n 3, 1) := by decide +kernel
theorem dX8_tell_161 : decode cX8_tell 161 = .ok (.iload_n 3, 1) := by decide +kernel
theorem dX8_tell_162 : decode cX8_tell 162 = .ok (.sipush 256, 3) := by decide +kernel
theorem dX8_tell_165 : decode cX8_tell 165 = .ok (.if_icmp .gt 26, 3) := by decide +kernel
theorem dX8_tell_168 : decode cX8_tell 168 = .ok (.iload_n 2, 1) := by decide +kernel
theorem dX8_tell_169 : decode cX8_tell 169 = .ok (.aload_n 0, 1) := by decide +kernel
theorem dX8_tell_170 : decode cX8_tell 170 = .ok (.getfield 46, 3) := by decide +kernel
theorem dX8_tell_173 : decode cX8_tell 173 = .ok (.iload_n 3, 1) := by decide +kernel
theorem dX8_tell_174 : decode cX8_tell 174 = .ok (.baload, 1) := by decide +kernel
theorem dX8_tell_175 : decode cX8_tell 175 = .ok (.ifCond .eq 7, 3) := by decide +kernel
theorem dX8_tell_178 : decode cX8_tell 178 = .ok (.iconst 0, 1) := by decide +kernel
theorem dX8_tell_179 : decode cX8_tell 179 = .ok (.goto 4, 3) := by decide +kernel
theorem dX8_tell_182 : decode cX8_tell 182 = .ok (.iconst 1, 1) := by decide +kernel
theorem dX8_tell_183 : decode cX8_tell 183 = .ok (.iadd, 1) := by decide +kernel
theorem dX8_tell_184 : decode cX8_tell 184 = .ok (.istore_n 2, 1) := by decide +kernel
theorem dX8_tell_185 : decode cX8_tell 185 = .ok (.iinc 3 1, 3) := by decide +kernel
theorem dX8_tell_188 : decode cX8_tell 188 = .ok (.goto (-27), 3) := by decide +kernel
theorem dX8_tell_191 : decode cX8_tell 191 = .ok (.aload_n 0, 1) := by decide +kernel
theorem dX8_tell_192 : decode cX8_tell 192 = .ok (.getfield 115, 3) := by decide +kernel
theorem dX8_tell_195 : decode cX8_tell 195 = .ok (.ifCond .eq 11, 3) := by decide +kernel
theorem dX8_tell_198 : decode cX8_tell 198 = .ok (.aload_n 0, 1) := by decide +kernel
theorem dX8_tell_199 : decode cX8_tell 199 = .ok (.iload_n 2, 1) := by decide +kernel
theorem dX8_tell_200 : decode cX8_tell 200 = .ok (.invokevirtual 149, 3) := by decide +kernel
theorem dX8_tell_203 : decode cX8_tell 203 = .ok (.goto 4, 3) := by decide +kernel
theorem dX8_tell_206 : decode cX8_tell 206 = .ok (.iconst (-1), 1) := by decide +kernel
theorem dX8_tell_207 : decode cX8_tell 207 = .ok (.istore_n 3, 1) := by decide +kernel
theorem dX8_tell_208 : decode cX8_tell 208 = .ok (.iconst 0, 1) := by decide +kernel
theorem dX8_tell_209 : decode cX8_tell 209 = .ok (.istore 4, 2) := by decide +kernel
theorem dX8_tell_211 : decode cX8_tell 211 = .ok (.iconst (-1), 1) := by decide +kernel
theorem dX8_tell_212 : decode cX8_tell 212 = .ok (.istore 5, 2) := by decide +kernel
theorem dX8_tell_214 : decode cX8_tell 214 = .ok (.iconst 0, 1) := by decide +kernel
theorem dX8_tell_215 : decode cX8_tell 215 = .ok (.istore 6, 2) := by decide +kernel
theorem dX8_tell_217 : decode cX8_tell 217 = .ok (.iload 6, 2) := by decide +kernel
theorem dX8_tell_219 : decode cX8_tell 219 = .ok (.sipush 256, 3) := by decide +kernel
theorem dX8_tell_222 : decode cX8_tell 222 = .ok (.if_icmp .gt 77, 3) := by decide +kernel
theorem dX8_tell_225 : decode cX8_tell 225 = .ok (.iload 5, 2) := by decide +kernel
theorem dX8_tell_227 : decode cX8_tell 227 = .ok (.iconst (-1), 1) := by decide +kernel
theorem dX8_tell_228 : decode cX8_tell 228 = .ok (.if_icmp .ne 71, 3) := by decide +kernel
theorem dX8_tell_231 : decode cX8_tell 231 = .ok (.aload_n 0, 1) := by decide +kernel
theorem dX8_tell_232 : decode cX8_tell 232 = .ok (.getfield 46, 3) := by decide +kernel
theorem dX8_tell_235 : decode cX8_tell 235 = .ok (.iload 6, 2) := by decide +kernel
theorem dX8_tell_237 : decode cX8_tell 237 = .ok (.baload, 1) := by decide +kernel
theorem dX8_tell_238 : decode cX8_tell 238 = .ok (.ifCond .ne 55, 3) := by decide +kernel
theorem dX8_tell_241 : decode cX8_tell 241 = .ok (.aload_n 0, 1) := by decide +kernel
theorem dX8_tell_242 : decode cX8_tell 242 = .ok (.getfield 115, 3) := by decide +kernel
theorem dX8_tell_245 : decode cX8_tell 245 = .ok (.ifCond .eq 18, 3) := by decide +kernel
theorem dX8_tell_248 : decode cX8_tell 248 = .ok (.iload 4, 2) := by decide +kernel
theorem dX8_tell_250 : decode cX8_tell 250 = .ok (.iload_n 3, 1) := by decide +kernel
theorem dX8_tell_251 : decode cX8_tell 251 = .ok (.if_icmp .ne 8, 3) := by decide +kernel
theorem dX8_tell_254 : decode cX8_tell 254 = .ok (.iload 6, 2) := by decide +kernel
theorem dX8_tell_256 : decode cX8_tell 256 = .ok (.goto 19, 3) := by decide +kernel
theorem dX8_tell_259 : decode cX8_tell 259 = .ok (.iconst (-1), 1) := by decide +kernel
theorem dX8_tell_260 : decode cX8_tell 260 = .ok (.goto 15, 3) := by decide +kernel
theorem dX8_tell_263 : decode cX8_tell 263 = .ok (.iload 6, 2) := by decide +kernel
theorem dX8_tell_265 : decode cX8_tell 265 = .ok (.iload_n 1, 1) := by decide +kernel
theorem dX8_tell_266 : decode cX8_tell 266 = .ok (.if_icmp .ne 8, 3) := by decide +kernel
theorem dX8_tell_269 : decode cX8_tell 269 = .ok (.iload 6, 2) := by decide +kernel
theorem dX8_tell_271 : decode cX8_tell 271 = .ok (.goto 4, 3) := by decide +kernel
theorem dX8_tell_274 : decode cX8_tell 274 = .ok (.iconst (-1), 1) := by decide +kernel
theorem dX8_tell_275 : decode cX8_tell 275 = .ok (.istore 5, 2) := by decide +kernel
theorem dX8_tell_277 : decode cX8_tell 277 = .ok (.iload 4, 2) := by decide +kernel
theorem dX8_tell_279 : decode cX8_tell 279 = .ok (.iload 5, 2) := by decide +kernel
theorem dX8_tell_281 : decode cX8_tell 281 = .ok (.iconst (-1), 1) := by decide +kernel
theorem dX8_tell_282 : decode cX8_tell 282 = .ok (.if_icmp .ne 7, 3) := by decide +kernel
theorem dX8_tell_285 : decode cX8_tell 285 = .ok (.iconst 1, 1) := by decide +kernel
theorem dX8_tell_286 : decode cX8_tell 286 = .ok (.goto 4, 3) := by decide +kernel
theorem dX8_tell_289 : decode cX8_tell 289 = .ok (.iconst 0, 1) := by decide +kernel
theorem dX8_tell_290 : decode cX8_tell 290 = .ok (.iadd, 1) := by decide +kernel
theorem dX8_tell_291 : decode cX8_tell 291 = .ok (.istore 4, 2) := by decide +kernel
theorem dX8_tell_293 : decode cX8_tell 293 = .ok (.iinc 6 1, 3) := by decide +kernel
theorem dX8_tell_296 : decode cX8_tell 296 = .ok (.goto (-79), 3) := by decide +kernel
theorem dX8_tell_299 : decode cX8_tell 299 = .ok (.aload_n 0, 1) := by decide +kernel
theorem dX8_tell_300 : decode cX8_tell 300 = .ok (.iload 4, 2) := by decide +kernel
theorem dX8_tell_302 : decode cX8_tell 302 = .ok (.iconst 1, 1) := by decide +kernel
theorem dX8_tell_303 : decode cX8_tell 303 = .ok (.iload_n 2, 1) := by decide +kernel
theorem dX8_tell_304 : decode cX8_tell 304 = .ok (.iconst (-1), 1) := by decide +kernel
theorem dX8_tell_305 : decode cX8_tell 305 = .ok (.invokevirtual 152, 3) := by decide +kernel
theorem dX8_tell_308 : decode cX8_tell 308 = .ok (.aload_n 0, 1) := by decide +kernel
theorem dX8_tell_309 : decode cX8_tell 309 = .ok (.iload 4, 2) := by decide +kernel
theorem dX8_tell_311 : decode cX8_tell 311 = .ok (.iconst 1, 1) := by decide +kernel
theorem dX8_tell_312 : decode cX8_tell 312 = .ok (.iload_n 2, 1) := by decide +kernel
theorem dX8_tell_313 : decode cX8_tell 313 = .ok (.invokevirtual 156, 3) := by decide +kernel
theorem dX8_tell_316 : decode cX8_tell 316 = .ok (.iload 5, 2) := by decide +kernel
theorem dX8_tell_318 : decode cX8_tell 318 = .ok (.ireturn, 1) := by decide +kernel
theorem dX8_tellIn_0 : decode cX8_tellIn 0 = .ok (.iload 4, 2) := by decide +kernel
theorem dX8_tellIn_2 : decode cX8_tellIn 2 = .ok (.iload 5, 2) := by decide +kernel
theorem dX8_tellIn_4 : decode cX8_tellIn 4 = .ok (.iadd, 1) := by decide +kernel
theorem dX8_tellIn_5 : decode cX8_tellIn 5 = .ok (.istore 6, 2) := by decide +kernel
theorem dX8_tellIn_7 : decode cX8_tellIn 7 = .ok (.aload_n 0, 1) := by decide +kernel
theorem dX8_tellIn_8 : decode cX8_tellIn 8 = .ok (.getfield 115, 3) := by decide +kernel
theorem dX8_tellIn_11 : decode cX8_tellIn 11 = .ok (.ifCond .eq 12, 3) := by decide +kernel
theorem dX8_tellIn_14 : decode cX8_tellIn 14 = .ok (.aload_n 0, 1) := by decide +kernel
theorem dX8_tellIn_15 : decode cX8_tellIn 15 = .ok (.iload 6, 2) := by decide +kernel
theorem dX8_tellIn_17 : decode cX8_tellIn 17 = .ok (.invokevirtual 149, 3) := by decide +kernel
theorem dX8_tellIn_20 : decode cX8_tellIn 20 = .ok (.goto 4, 3) := by decide +kernel
theorem dX8_tellIn_23 : decode cX8_tellIn 23 = .ok (.iconst (-1), 1) := by decide +kernel
theorem dX8_tellIn_24 : decode cX8_tellIn 24 = .ok (.istore 7, 2) := by decide +kernel
theorem dX8_tellIn_26 : decode cX8_tellIn 26 = .ok (.iconst 0, 1) := by decide +kernel
theorem dX8_tellIn_27 : decode cX8_tellIn 27 = .ok (.istore 8, 2) := by decide +kernel
theorem dX8_tellIn_29 : decode cX8_tellIn 29 = .ok (.iconst 0, 1) := by decide +kernel
theorem dX8_tellIn_30 : decode cX8_tellIn 30 = .ok (.istore 9, 2) := by decide +kernel
theorem dX8_tellIn_32 : decode cX8_tellIn 32 = .ok (.iload 9, 2) := by decide +kernel
theorem dX8_tellIn_34 : decode cX8_tellIn 34 = .ok (.aload_n 0, 1) := by decide +kernel
theorem dX8_tellIn_35 : decode cX8_tellIn 35 = .ok (.getfield 70, 3) := by decide +kernel
theorem dX8_tellIn_38 : decode cX8_tellIn 38 = .ok (.if_icmp .ge 142, 3) := by decide +kernel
theorem dX8_tellIn_41 : decode cX8_tellIn 41 = .ok (.aload_n 0, 1) := by decide +kernel
theorem dX8_tellIn_42 : decode cX8_tellIn 42 = .ok (.getfield 23, 3) := by decide +kernel
theorem dX8_tellIn_45 : decode cX8_tellIn 45 = .ok (.iload 9, 2) := by decide +kernel
theorem dX8_tellIn_47 : decode cX8_tellIn 47 = .ok (.iaload, 1) := by decide +kernel
theorem dX8_tellIn_48 : decode cX8_tellIn 48 = .ok (.iload_n 3, 1) := by decide +kernel
theorem dX8_tellIn_49 : decode cX8_tellIn 49 = .ok (.if_icmp .ne 125, 3) := by decide +kernel
theorem dX8_tellIn_52 : decode cX8_tellIn 52 = .ok (.aload_n 0, 1) := by decide +kernel
theorem dX8_tellIn_53 : decode cX8_tellIn 53 = .ok (.getfield 46, 3) := by decide +kernel
theorem dX8_tellIn_56 : decode cX8_tellIn 56 = .ok (.aload_n 0, 1) := by decide +kernel
theorem dX8_tellIn_57 : decode cX8_tellIn 57 = .ok (.getfield 27, 3) := by decide +kernel
theorem dX8_tellIn_60 : decode cX8_tellIn 60 = .ok (.iload 9, 2) := by decide +kernel
theorem dX8_tellIn_62 : decode cX8_tellIn 62 = .ok (.saload, 1) := by decide +kernel
theorem dX8_tellIn_63 : decode cX8_tellIn 63 = .ok (.baload, 1) := by decide +kernel
theorem dX8_tellIn_64 : decode cX8_tellIn 64 = .ok (.ifCond .ne 110, 3) := by decide +kernel
theorem dX8_tellIn_67 : decode cX8_tellIn 67 = .ok (.aload_n 0, 1) := by decide +kernel
theorem dX8_tellIn_68 : decode cX8_tellIn 68 = .ok (.getfield 115, 3) := by decide +kernel
theorem dX8_tellIn_71 : decode cX8_tellIn 71 = .ok (.ifCond .eq 26, 3) := by decide +kernel
theorem dX8_tellIn_74 : decode cX8_tellIn 74 = .ok (.iload 7, 2) := by decide +kernel
theorem dX8_tellIn_76 : decode cX8_tellIn 76 = .ok (.iload 8, 2) := by decide +kernel
theorem dX8_tellIn_78 : decode cX8_tellIn 78 = .ok (.aload_n 0, 1) := by decide +kernel
theorem dX8_tellIn_79 : decode cX8_tellIn 79 = .ok (.getfield 31, 3) := by decide +kernel
theorem dX8_tellIn_82 : decode cX8_tellIn 82 = .ok (.iload 9, 2) := by decide +kernel
theorem dX8_tellIn_84 : decode cX8_tellIn 84 = .ok (.saload, 1) := by decide +kernel
theorem dX8_tellIn_85 : decode cX8_tellIn 85 = .ok (.iadd, 1) := by decide +kernel
theorem dX8_tellIn_86 : decode cX8_tellIn 86 = .ok (.if_icmp .ge 7, 3) := by decide +kernel
theorem dX8_tellIn_89 : decode cX8_tellIn 89 = .ok (.iconst 1, 1) := by decide +kernel
theorem dX8_tellIn_90 : decode cX8_tellIn 90 = .ok (.goto 23, 3) := by decide +kernel
theorem dX8_tellIn_93 : decode cX8_tellIn 93 = .ok (.iconst 0, 1) := by decide +kernel
theorem dX8_tellIn_94 : decode cX8_tellIn 94 = .ok (.goto 19, 3) := by decide +kernel
theorem dX8_tellIn_97 : decode cX8_tellIn 97 = .ok (.aload_n 0, 1) := by decide +kernel
theorem dX8_tellIn_98 : decode cX8_tellIn 98 = .ok (.getfield 27, 3) := by decide +kernel
theorem dX8_tellIn_101 : decode cX8_tellIn 101 = .ok (.iload 9, 2) := by decide +kernel
theorem dX8_tellIn_103 : decode cX8_tellIn 103 = .ok (.saload, 1) := by decide +kernel
theorem dX8_tellIn_104 : decode cX8_tellIn 104 = .ok (.iload_n 1, 1) := by decide +kernel
theorem dX8_tellIn_105 : decode cX8_tellIn 105 = .ok (.if_icmp .ne 7, 3) := by decide +kernel
theorem dX8_tellIn_108 : decode cX8_tellIn 108 = .ok (.iconst 1, 1) := by decide +kernel
theorem dX8_tellIn_109 : decode cX8_tellIn 109 = .ok (.goto 4, 3) := by decide +kernel
theorem dX8_tellIn_112 : decode cX8_tellIn 112 = .ok (.iconst 0, 1) := by decide +kernel
theorem dX8_tellIn_113 : decode cX8_tellIn 113 = .ok (.istore 10, 2) := by decide +kernel
theorem dX8_tellIn_115 : decode cX8_tellIn 115 = .ok (.iload 10, 2) := by decide +kernel
theorem dX8_tellIn_117 : decode cX8_tellIn 117 = .ok (.ifCond .eq 45, 3) := by decide +kernel
theorem dX8_tellIn_120 : decode cX8_tellIn 120 = .ok (.aload_n 0, 1) := by decide +kernel
theorem dX8_tellIn_121 : decode cX8_tellIn 121 = .ok (.getfield 31, 3) := by decide +kernel
theorem dX8_tellIn_124 : decode cX8_tellIn 124 = .ok (.iload 9, 2) := by decide +kernel
theorem dX8_tellIn_126 : decode cX8_tellIn 126 = .ok (.saload, 1) := by decide +kernel
theorem dX8_tellIn_127 : decode cX8_tellIn 127 = .ok (.istore 11, 2) := by decide +kernel
theorem dX8_tellIn_129 : decode cX8_tellIn 129 = .ok (.aload_n 0, 1) := by decide +kernel
theorem dX8_tellIn_130 : decode cX8_tellIn 130 = .ok (.getfield 27, 3) := by decide +kernel
theorem dX8_tellIn_133 : decode cX8_tellIn 133 = .ok (.iload 9, 2) := by decide +kernel
theorem dX8_tellIn_135 : decode cX8_tellIn 135 = .ok (.saload, 1) := by decide +kernel
theorem dX8_tellIn_136 : decode cX8_tellIn 136 = .ok (.istore 12, 2) := by decide +kernel
theorem dX8_tellIn_138 : decode cX8_tellIn 138 = .ok (.aload_n 0, 1) := by decide +kernel
theorem dX8_tellIn_139 : decode cX8_tellIn 139 = .ok (.iload 8, 2) := by decide +kernel
theorem dX8_tellIn_141 : decode cX8_tellIn 141 = .ok (.iload 11, 2) := by decide +kernel
theorem dX8_tellIn_143 : decode cX8_tellIn 143 = .ok (.iload 6, 2) := by decide +kernel
theorem dX8_tellIn_145 : decode cX8_tellIn 145 = .ok (.iload_n 2, 1) := by decide +kernel
theorem dX8_tellIn_146 : decode cX8_tellIn 146 = .ok (.invokevirtual 152, 3) := by decide +kernel
theorem dX8_tellIn_149 : decode cX8_tellIn 149 = .ok (.aload_n 0, 1) := by decide +kernel
theorem dX8_tellIn_150 : decode cX8_tellIn 150 = .ok (.iload 8, 2) := by decide +kernel
theorem dX8_tellIn_152 : decode cX8_tellIn 152 = .ok (.iload 11, 2) := by decide +kernel
theorem dX8_tellIn_154 : decode cX8_tellIn 154 = .ok (.iload 6, 2) := by decide +kernel
theorem dX8_tellIn_156 : decode cX8_tellIn 156 = .ok (.invokevirtual 156, 3) := by decide +kernel
theorem dX8_tellIn_159 : decode cX8_tellIn 159 = .ok (.iload 12, 2) := by decide +kernel
theorem dX8_tellIn_161 : decode cX8_tellIn 161 = .ok (.ireturn, 1) := by decide +kernel
theorem dX8_tellIn_162 : decode cX8_tellIn 162 = .ok (.iload 8, 2) := by decide +kernel
theorem dX8_tellIn_164 : decode cX8_tellIn 164 = .ok (.aload_n 0, 1) := by decide +kernel
theorem dX8_tellIn_165 : decode cX8_tellIn 165 = .ok (.getfield 31, 3) := by decide +kernel
theorem dX8_tellIn_168 : decode cX8_tellIn 168 = .ok (.iload 9, 2) := by decide +kernel
theorem dX8_tellIn_170 : decode cX8_tellIn 170 = .ok (.saload, 1) := by decide +kernel
theorem dX8_tellIn_171 : decode cX8_tellIn 171 = .ok (.iadd, 1) := by decide +kernel
theorem dX8_tellIn_172 : decode cX8_tellIn 172 = .ok (.istore 8, 2) := by decide +kernel
theorem dX8_tellIn_174 : decode cX8_tellIn 174 = .ok (.iinc 9 1, 3) := by decide +kernel
theorem dX8_tellIn_177 : decode cX8_tellIn 177 = .ok (.goto (-145), 3) := by decide +kernel
theorem dX8_tellIn_180 : decode cX8_tellIn 180 = .ok (.aload_n 0, 1) := by decide +kernel
theorem dX8_tellIn_181 : decode cX8_tellIn 181 = .ok (.iload 4, 2) := by decide +kernel
theorem dX8_tellIn_183 : decode cX8_tellIn 183 = .ok (.iload 5, 2) := by decide +kernel
theorem dX8_tellIn_185 : decode cX8_tellIn 185 = .ok (.iload 6, 2) := by decide +kernel
theorem dX8_tellIn_187 : decode cX8_tellIn 187 = .ok (.iload_n 2, 1) := by decide +kernel
theorem dX8_tellIn_188 : decode cX8_tellIn 188 = .ok (.invokevirtual 152, 3) := by decide +kernel
theorem dX8_tellIn_191 : decode cX8_tellIn 191 = .ok (.aload_n 0, 1) := by decide +kernel
theorem dX8_tellIn_192 : decode cX8_tellIn 192 = .ok (.getfield 73, 3) := by decide +kernel
theorem dX8_tellIn_195 : decode cX8_tellIn 195 = .ok (.sipush 20000, 3) := by decide +kernel
theorem dX8_tellIn_198 : decode cX8_tellIn 198 = .ok (.if_icmp .gt 20, 3) := by decide +kernel
theorem dX8_tellIn_201 : decode cX8_tellIn 201 = .ok (.aload_n 0, 1) := by decide +kernel
theorem dX8_tellIn_202 : decode cX8_tellIn 202 = .ok (.getfield 43, 3) := by decide +kernel
theorem dX8_tellIn_205 : decode cX8_tellIn 205 = .ok (.aload_n 0, 1) := by decide +kernel
theorem dX8_tellIn_206 : decode cX8_tellIn 206 = .ok (.getfield 73, 3) := by decide +kernel
theorem dX8_tellIn_209 : decode cX8_tellIn 209 = .ok (.iconst 1, 1) := by decide +kernel
theorem dX8_tellIn_210 : decode cX8_tellIn 210 = .ok (.isub, 1) := by decide +kernel
theorem dX8_tellIn_211 : decode cX8_tellIn 211 = .ok (.dup2, 1) := by decide +kernel
theorem dX8_tellIn_212 : decode cX8_tellIn 212 = .ok (.baload, 1) := by decide +kernel
theorem dX8_tellIn_213 : decode cX8_tellIn 213 = .ok (.bipush 8, 2) := by decide +kernel
theorem dX8_tellIn_215 : decode cX8_tellIn 215 = .ok (.iadd, 1) := by decide +kernel
theorem dX8_tellIn_216 : decode cX8_tellIn 216 = .ok (.i2b, 1) := by decide +kernel
theorem dX8_tellIn_217 : decode cX8_tellIn 217 = .ok (.bastore, 1) := by decide +kernel
theorem dX8_tellIn_218 : decode cX8_tellIn 218 = .ok (.aload_n 0, 1) := by decide +kernel
theorem dX8_tellIn_219 : decode cX8_tellIn 219 = .ok (.dup, 1) := by decide +kernel
theorem dX8_tellIn_220 : decode cX8_tellIn 220 = .ok (.getfield 76, 3) := by decide +kernel
theorem dX8_tellIn_223 : decode cX8_tellIn 223 = .ok (.iconst 1, 1) := by decide +kernel
theorem dX8_tellIn_224 : decode cX8_tellIn 224 = .ok (.iadd, 1) := by decide +kernel
theorem dX8_tellIn_225 : decode cX8_tellIn 225 = .ok (.putfield 76, 3) := by decide +kernel
theorem dX8_tellIn_228 : decode cX8_tellIn 228 = .ok (.aload_n 0, 1) := by decide +kernel
theorem dX8_tellIn_229 : decode cX8_tellIn 229 = .ok (.iload 4, 2) := by decide +kernel
theorem dX8_tellIn_231 : decode cX8_tellIn 231 = .ok (.iload 5, 2) := by decide +kernel
theorem dX8_tellIn_233 : decode cX8_tellIn 233 = .ok (.iload 6, 2) := by decide +kernel
theorem dX8_tellIn_235 : decode cX8_tellIn 235 = .ok (.invokevirtual 156, 3) := by decide +kernel
theorem dX8_tellIn_238 : decode cX8_tellIn 238 = .ok (.iconst 0, 1) := by decide +kernel
theorem dX8_tellIn_239 : decode cX8_tellIn 239 = .ok (.istore 9, 2) := by decide +kernel
theorem dX8_tellIn_241 : decode cX8_tellIn 241 = .ok (.iload 9, 2) := by decide +kernel
theorem dX8_tellIn_243 : decode cX8_tellIn 243 = .ok (.aload_n 0, 1) := by decide +kernel
theorem dX8_tellIn_244 : decode cX8_tellIn 244 = .ok (.getfield 70, 3) := by decide +kernel
theorem dX8_tellIn_247 : decode cX8_tellIn 247 = .ok (.if_icmp .ge 33, 3) := by decide +kernel
end
section
theorem dX8_tellIn_250 : decode cX8_tellIn 250 = .ok (.aload_n 0, 1) := by decide +kernel
theorem dX8_tellIn_251 : decode cX8_tellIn 251 = .ok (.getfield 23, 3) := by decide +kernel
theorem dX8_tellIn_254 : decode cX8_tellIn 254 = .ok (.iload 9, 2) := by decide +kernel
theorem dX8_tellIn_256 : decode cX8_tellIn 256 = .ok (.iaload, 1) := by decide +kernel
theorem dX8_tellIn_257 : decode cX8_tellIn 257 = .ok (.iload_n 3, 1) := by decide +kernel
theorem dX8_tellIn_258 : decode cX8_tellIn 258 = .ok (.if_icmp .ne 16, 3) := by decide +kernel
theorem dX8_tellIn_261 : decode cX8_tellIn 261 = .ok (.aload_n 0, 1) := by decide +kernel
theorem dX8_tellIn_262 : decode cX8_tellIn 262 = .ok (.getfield 46, 3) := by decide +kernel
theorem dX8_tellIn_265 : decode cX8_tellIn 265 = .ok (.aload_n 0, 1) := by decide +kernel
theorem dX8_tellIn_266 : decode cX8_tellIn 266 = .ok (.getfield 27, 3) := by decide +kernel
theorem dX8_tellIn_269 : decode cX8_tellIn 269 = .ok (.iload 9, 2) := by decide +kernel
theorem dX8_tellIn_271 : decode cX8_tellIn 271 = .ok (.saload, 1) := by decide +kernel
theorem dX8_tellIn_272 : decode cX8_tellIn 272 = .ok (.iconst 1, 1) := by decide +kernel
theorem dX8_tellIn_273 : decode cX8_tellIn 273 = .ok (.bastore, 1) := by decide +kernel
theorem dX8_tellIn_274 : decode cX8_tellIn 274 = .ok (.iinc 9 1, 3) := by decide +kernel
theorem dX8_tellIn_277 : decode cX8_tellIn 277 = .ok (.goto (-36), 3) := by decide +kernel
theorem dX8_tellIn_280 : decode cX8_tellIn 280 = .ok (.iconst (-1), 1) := by decide +kernel
theorem dX8_tellIn_281 : decode cX8_tellIn 281 = .ok (.ireturn, 1) := by decide +kernel
theorem dX8_encode_0 : decode cX8_encode 0 = .ok (.aload_n 0, 1) := by decide +kernel
theorem dX8_encode_1 : decode cX8_encode 1 = .ok (.invokevirtual 63, 3) := by decide +kernel
theorem dX8_encode_4 : decode cX8_encode 4 = .ok (.aload_n 0, 1) := by decide +kernel
theorem dX8_encode_5 : decode cX8_encode 5 = .ok (.iconst 0, 1) := by decide +kernel
theorem dX8_encode_6 : decode cX8_encode 6 = .ok (.putfield 115, 3) := by decide +kernel
theorem dX8_encode_9 : decode cX8_encode 9 = .ok (.aload_n 0, 1) := by decide +kernel
theorem dX8_encode_10 : decode cX8_encode 10 = .ok (.iconst 0, 1) := by decide +kernel
theorem dX8_encode_11 : decode cX8_encode 11 = .ok (.putfield 136, 3) := by decide +kernel
theorem dX8_encode_14 : decode cX8_encode 14 = .ok (.aload_n 0, 1) := by decide +kernel
theorem dX8_encode_15 : decode cX8_encode 15 = .ok (.iconst 4, 1) := by decide +kernel
theorem dX8_encode_16 : decode cX8_encode 16 = .ok (.putfield 57, 3) := by decide +kernel
theorem dX8_encode_19 : decode cX8_encode 19 = .ok (.iconst 0, 1) := by decide +kernel
theorem dX8_encode_20 : decode cX8_encode 20 = .ok (.istore_n 1, 1) := by decide +kernel
theorem dX8_encode_21 : decode cX8_encode 21 = .ok (.iload_n 1, 1) := by decide +kernel
theorem dX8_encode_22 : decode cX8_encode 22 = .ok (.iconst 4, 1) := by decide +kernel
theorem dX8_encode_23 : decode cX8_encode 23 = .ok (.if_icmp .ge 16, 3) := by decide +kernel
theorem dX8_encode_26 : decode cX8_encode 26 = .ok (.aload_n 0, 1) := by decide +kernel
theorem dX8_encode_27 : decode cX8_encode 27 = .ok (.getfield 13, 3) := by decide +kernel
theorem dX8_encode_30 : decode cX8_encode 30 = .ok (.iload_n 1, 1) := by decide +kernel
theorem dX8_encode_31 : decode cX8_encode 31 = .ok (.iconst 0, 1) := by decide +kernel
theorem dX8_encode_32 : decode cX8_encode 32 = .ok (.bastore, 1) := by decide +kernel
theorem dX8_encode_33 : decode cX8_encode 33 = .ok (.iinc 1 1, 3) := by decide +kernel
theorem dX8_encode_36 : decode cX8_encode 36 = .ok (.goto (-15), 3) := by decide +kernel
theorem dX8_encode_39 : decode cX8_encode 39 = .ok (.iconst 0, 1) := by decide +kernel
theorem dX8_encode_40 : decode cX8_encode 40 = .ok (.istore_n 1, 1) := by decide +kernel
theorem dX8_encode_41 : decode cX8_encode 41 = .ok (.iload_n 1, 1) := by decide +kernel
theorem dX8_encode_42 : decode cX8_encode 42 = .ok (.aload_n 0, 1) := by decide +kernel
theorem dX8_encode_43 : decode cX8_encode 43 = .ok (.getfield 54, 3) := by decide +kernel
theorem dX8_encode_46 : decode cX8_encode 46 = .ok (.if_icmp .ge 40, 3) := by decide +kernel
theorem dX8_encode_49 : decode cX8_encode 49 = .ok (.aload_n 0, 1) := by decide +kernel
theorem dX8_encode_50 : decode cX8_encode 50 = .ok (.getfield 7, 3) := by decide +kernel
theorem dX8_encode_53 : decode cX8_encode 53 = .ok (.iload_n 1, 1) := by decide +kernel
theorem dX8_encode_54 : decode cX8_encode 54 = .ok (.baload, 1) := by decide +kernel
theorem dX8_encode_55 : decode cX8_encode 55 = .ok (.sipush 255, 3) := by decide +kernel
theorem dX8_encode_58 : decode cX8_encode 58 = .ok (.iand, 1) := by decide +kernel
theorem dX8_encode_59 : decode cX8_encode 59 = .ok (.istore_n 2, 1) := by decide +kernel
theorem dX8_encode_60 : decode cX8_encode 60 = .ok (.aload_n 0, 1) := by decide +kernel
theorem dX8_encode_61 : decode cX8_encode 61 = .ok (.iload_n 2, 1) := by decide +kernel
theorem dX8_encode_62 : decode cX8_encode 62 = .ok (.invokevirtual 160, 3) := by decide +kernel
theorem dX8_encode_65 : decode cX8_encode 65 = .ok (.pop, 1) := by decide +kernel
theorem dX8_encode_66 : decode cX8_encode 66 = .ok (.aload_n 0, 1) := by decide +kernel
theorem dX8_encode_67 : decode cX8_encode 67 = .ok (.iload_n 2, 1) := by decide +kernel
theorem dX8_encode_68 : decode cX8_encode 68 = .ok (.aload_n 0, 1) := by decide +kernel
theorem dX8_encode_69 : decode cX8_encode 69 = .ok (.getfield 146, 3) := by decide +kernel
theorem dX8_encode_72 : decode cX8_encode 72 = .ok (.invokevirtual 163, 3) := by decide +kernel
theorem dX8_encode_75 : decode cX8_encode 75 = .ok (.aload_n 0, 1) := by decide +kernel
theorem dX8_encode_76 : decode cX8_encode 76 = .ok (.iload_n 2, 1) := by decide +kernel
theorem dX8_encode_77 : decode cX8_encode 77 = .ok (.invokevirtual 167, 3) := by decide +kernel
theorem dX8_encode_80 : decode cX8_encode 80 = .ok (.iinc 1 1, 3) := by decide +kernel
theorem dX8_encode_83 : decode cX8_encode 83 = .ok (.goto (-42), 3) := by decide +kernel
theorem dX8_encode_86 : decode cX8_encode 86 = .ok (.aload_n 0, 1) := by decide +kernel
theorem dX8_encode_87 : decode cX8_encode 87 = .ok (.sipush 256, 3) := by decide +kernel
theorem dX8_encode_90 : decode cX8_encode 90 = .ok (.invokevirtual 160, 3) := by decide +kernel
theorem dX8_encode_93 : decode cX8_encode 93 = .ok (.pop, 1) := by decide +kernel
theorem dX8_encode_94 : decode cX8_encode 94 = .ok (.aload_n 0, 1) := by decide +kernel
theorem dX8_encode_95 : decode cX8_encode 95 = .ok (.getfield 136, 3) := by decide +kernel
theorem dX8_encode_98 : decode cX8_encode 98 = .ok (.ifCond .eq 10, 3) := by decide +kernel
theorem dX8_encode_101 : decode cX8_encode 101 = .ok (.aload_n 0, 1) := by decide +kernel
theorem dX8_encode_102 : decode cX8_encode 102 = .ok (.iconst 0, 1) := by decide +kernel
theorem dX8_encode_103 : decode cX8_encode 103 = .ok (.putfield 57, 3) := by decide +kernel
theorem dX8_encode_106 : decode cX8_encode 106 = .ok (.iconst (-1), 1) := by decide +kernel
theorem dX8_encode_107 : decode cX8_encode 107 = .ok (.ireturn, 1) := by decide +kernel
theorem dX8_encode_108 : decode cX8_encode 108 = .ok (.aload_n 0, 1) := by decide +kernel
theorem dX8_encode_109 : decode cX8_encode 109 = .ok (.getfield 57, 3) := by decide +kernel
theorem dX8_encode_112 : decode cX8_encode 112 = .ok (.ireturn, 1) := by decide +kernel
theorem dX8_decode_0 : decode cX8_decode 0 = .ok (.aload_n 0, 1) := by decide +kernel
theorem dX8_decode_1 : decode cX8_decode 1 = .ok (.invokevirtual 63, 3) := by decide +kernel
theorem dX8_decode_4 : decode cX8_decode 4 = .ok (.aload_n 0, 1) := by decide +kernel
theorem dX8_decode_5 : decode cX8_decode 5 = .ok (.iconst 1, 1) := by decide +kernel
theorem dX8_decode_6 : decode cX8_decode 6 = .ok (.putfield 115, 3) := by decide +kernel
theorem dX8_decode_9 : decode cX8_decode 9 = .ok (.aload_n 0, 1) := by decide +kernel
theorem dX8_decode_10 : decode cX8_decode 10 = .ok (.iconst 0, 1) := by decide +kernel
theorem dX8_decode_11 : decode cX8_decode 11 = .ok (.putfield 60, 3) := by decide +kernel
theorem dX8_decode_14 : decode cX8_decode 14 = .ok (.aload_n 0, 1) := by decide +kernel
theorem dX8_decode_15 : decode cX8_decode 15 = .ok (.iconst 0, 1) := by decide +kernel
theorem dX8_decode_16 : decode cX8_decode 16 = .ok (.putfield 139, 3) := by decide +kernel
theorem dX8_decode_19 : decode cX8_decode 19 = .ok (.aload_n 0, 1) := by decide +kernel
theorem dX8_decode_20 : decode cX8_decode 20 = .ok (.lconst 0, 1) := by decide +kernel
theorem dX8_decode_21 : decode cX8_decode 21 = .ok (.putfield 119, 3) := by decide +kernel
theorem dX8_decode_24 : decode cX8_decode 24 = .ok (.iconst 0, 1) := by decide +kernel
theorem dX8_decode_25 : decode cX8_decode 25 = .ok (.istore_n 1, 1) := by decide +kernel
theorem dX8_decode_26 : decode cX8_decode 26 = .ok (.iload_n 1, 1) := by decide +kernel
theorem dX8_decode_27 : decode cX8_decode 27 = .ok (.iconst 4, 1) := by decide +kernel
theorem dX8_decode_28 : decode cX8_decode 28 = .ok (.if_icmp .ge 27, 3) := by decide +kernel
theorem dX8_decode_31 : decode cX8_decode 31 = .ok (.aload_n 0, 1) := by decide +kernel
theorem dX8_decode_32 : decode cX8_decode 32 = .ok (.aload_n 0, 1) := by decide +kernel
theorem dX8_decode_33 : decode cX8_decode 33 = .ok (.getfield 119, 3) := by decide +kernel
theorem dX8_decode_36 : decode cX8_decode 36 = .ok (.ldc2_w 128, 3) := by decide +kernel
theorem dX8_decode_39 : decode cX8_decode 39 = .ok (.lmul, 1) := by decide +kernel
theorem dX8_decode_40 : decode cX8_decode 40 = .ok (.aload_n 0, 1) := by decide +kernel
theorem dX8_decode_41 : decode cX8_decode 41 = .ok (.invokevirtual 130, 3) := by decide +kernel
theorem dX8_decode_44 : decode cX8_decode 44 = .ok (.i2l, 1) := by decide +kernel
theorem dX8_decode_45 : decode cX8_decode 45 = .ok (.ladd, 1) := by decide +kernel
theorem dX8_decode_46 : decode cX8_decode 46 = .ok (.putfield 119, 3) := by decide +kernel
theorem dX8_decode_49 : decode cX8_decode 49 = .ok (.iinc 1 1, 3) := by decide +kernel
theorem dX8_decode_52 : decode cX8_decode 52 = .ok (.goto (-26), 3) := by decide +kernel
theorem dX8_decode_55 : decode cX8_decode 55 = .ok (.aload_n 0, 1) := by decide +kernel
theorem dX8_decode_56 : decode cX8_decode 56 = .ok (.iconst (-1), 1) := by decide +kernel
theorem dX8_decode_57 : decode cX8_decode 57 = .ok (.invokevirtual 160, 3) := by decide +kernel
theorem dX8_decode_60 : decode cX8_decode 60 = .ok (.istore_n 1, 1) := by decide +kernel
theorem dX8_decode_61 : decode cX8_decode 61 = .ok (.iload_n 1, 1) := by decide +kernel
theorem dX8_decode_62 : decode cX8_decode 62 = .ok (.sipush 256, 3) := by decide +kernel
theorem dX8_decode_65 : decode cX8_decode 65 = .ok (.if_icmp .eq 59, 3) := by decide +kernel
theorem dX8_decode_68 : decode cX8_decode 68 = .ok (.aload_n 0, 1) := by decide +kernel
theorem dX8_decode_69 : decode cX8_decode 69 = .ok (.getfield 60, 3) := by decide +kernel
theorem dX8_decode_72 : decode cX8_decode 72 = .ok (.sipush 4000, 3) := by decide +kernel
theorem dX8_decode_75 : decode cX8_decode 75 = .ok (.if_icmp .ne 5, 3) := by decide +kernel
theorem dX8_decode_78 : decode cX8_decode 78 = .ok (.iconst (-1), 1) := by decide +kernel
theorem dX8_decode_79 : decode cX8_decode 79 = .ok (.ireturn, 1) := by decide +kernel
theorem dX8_decode_80 : decode cX8_decode 80 = .ok (.aload_n 0, 1) := by decide +kernel
theorem dX8_decode_81 : decode cX8_decode 81 = .ok (.getfield 16, 3) := by decide +kernel
theorem dX8_decode_84 : decode cX8_decode 84 = .ok (.aload_n 0, 1) := by decide +kernel
theorem dX8_decode_85 : decode cX8_decode 85 = .ok (.getfield 60, 3) := by decide +kernel
theorem dX8_decode_88 : decode cX8_decode 88 = .ok (.iload_n 1, 1) := by decide +kernel
theorem dX8_decode_89 : decode cX8_decode 89 = .ok (.i2b, 1) := by decide +kernel
theorem dX8_decode_90 : decode cX8_decode 90 = .ok (.bastore, 1) := by decide +kernel
theorem dX8_decode_91 : decode cX8_decode 91 = .ok (.aload_n 0, 1) := by decide +kernel
theorem dX8_decode_92 : decode cX8_decode 92 = .ok (.dup, 1) := by decide +kernel
theorem dX8_decode_93 : decode cX8_decode 93 = .ok (.getfield 60, 3) := by decide +kernel
theorem dX8_decode_96 : decode cX8_decode 96 = .ok (.iconst 1, 1) := by decide +kernel
theorem dX8_decode_97 : decode cX8_decode 97 = .ok (.iadd, 1) := by decide +kernel
theorem dX8_decode_98 : decode cX8_decode 98 = .ok (.putfield 60, 3) := by decide +kernel
theorem dX8_decode_101 : decode cX8_decode 101 = .ok (.aload_n 0, 1) := by decide +kernel
theorem dX8_decode_102 : decode cX8_decode 102 = .ok (.iload_n 1, 1) := by decide +kernel
theorem dX8_decode_103 : decode cX8_decode 103 = .ok (.aload_n 0, 1) := by decide +kernel
theorem dX8_decode_104 : decode cX8_decode 104 = .ok (.getfield 146, 3) := by decide +kernel
theorem dX8_decode_107 : decode cX8_decode 107 = .ok (.invokevirtual 163, 3) := by decide +kernel
theorem dX8_decode_110 : decode cX8_decode 110 = .ok (.aload_n 0, 1) := by decide +kernel
theorem dX8_decode_111 : decode cX8_decode 111 = .ok (.iload_n 1, 1) := by decide +kernel
theorem dX8_decode_112 : decode cX8_decode 112 = .ok (.invokevirtual 167, 3) := by decide +kernel
theorem dX8_decode_115 : decode cX8_decode 115 = .ok (.aload_n 0, 1) := by decide +kernel
theorem dX8_decode_116 : decode cX8_decode 116 = .ok (.iconst (-1), 1) := by decide +kernel
theorem dX8_decode_117 : decode cX8_decode 117 = .ok (.invokevirtual 160, 3) := by decide +kernel
theorem dX8_decode_120 : decode cX8_decode 120 = .ok (.istore_n 1, 1) := by decide +kernel
theorem dX8_decode_121 : decode cX8_decode 121 = .ok (.goto (-60), 3) := by decide +kernel
theorem dX8_decode_124 : decode cX8_decode 124 = .ok (.aload_n 0, 1) := by decide +kernel
theorem dX8_decode_125 : decode cX8_decode 125 = .ok (.getfield 57, 3) := by decide +kernel
theorem dX8_decode_128 : decode cX8_decode 128 = .ok (.iconst 4, 1) := by decide +kernel
theorem dX8_decode_129 : decode cX8_decode 129 = .ok (.aload_n 0, 1) := by decide +kernel
theorem dX8_decode_130 : decode cX8_decode 130 = .ok (.getfield 79, 3) := by decide +kernel
theorem dX8_decode_133 : decode cX8_decode 133 = .ok (.iadd, 1) := by decide +kernel
theorem dX8_decode_134 : decode cX8_decode 134 = .ok (.if_icmp .ne 10, 3) := by decide +kernel
theorem dX8_decode_137 : decode cX8_decode 137 = .ok (.aload_n 0, 1) := by decide +kernel
theorem dX8_decode_138 : decode cX8_decode 138 = .ok (.getfield 60, 3) := by decide +kernel
theorem dX8_decode_141 : decode cX8_decode 141 = .ok (.goto 4, 3) := by decide +kernel
theorem dX8_decode_144 : decode cX8_decode 144 = .ok (.iconst (-1), 1) := by decide +kernel
theorem dX8_decode_145 : decode cX8_decode 145 = .ok (.ireturn, 1) := by decide +kernel
theorem dX8_push_0 : decode cX8_push 0 = .ok (.iload_n 1, 1) := by decide +kernel
theorem dX8_push_1 : decode cX8_push 1 = .ok (.ifCond .lt 20, 3) := by decide +kernel
theorem dX8_push_4 : decode cX8_push 4 = .ok (.iload_n 1, 1) := by decide +kernel
theorem dX8_push_5 : decode cX8_push 5 = .ok (.sipush 255, 3) := by decide +kernel
theorem dX8_push_8 : decode cX8_push 8 = .ok (.if_icmp .gt 13, 3) := by decide +kernel
theorem dX8_push_11 : decode cX8_push 11 = .ok (.aload_n 0, 1) := by decide +kernel
theorem dX8_push_12 : decode cX8_push 12 = .ok (.getfield 57, 3) := by decide +kernel
theorem dX8_push_15 : decode cX8_push 15 = .ok (.sipush 8000, 3) := by decide +kernel
theorem dX8_push_18 : decode cX8_push 18 = .ok (.if_icmp .ne 5, 3) := by decide +kernel
theorem dX8_push_21 : decode cX8_push 21 = .ok (.iconst 0, 1) := by decide +kernel
theorem dX8_push_22 : decode cX8_push 22 = .ok (.ireturn, 1) := by decide +kernel
theorem dX8_push_23 : decode cX8_push 23 = .ok (.aload_n 0, 1) := by decide +kernel
theorem dX8_push_24 : decode cX8_push 24 = .ok (.getfield 13, 3) := by decide +kernel
theorem dX8_push_27 : decode cX8_push 27 = .ok (.aload_n 0, 1) := by decide +kernel
theorem dX8_push_28 : decode cX8_push 28 = .ok (.getfield 57, 3) := by decide +kernel
theorem dX8_push_31 : decode cX8_push 31 = .ok (.iload_n 1, 1) := by decide +kernel
theorem dX8_push_32 : decode cX8_push 32 = .ok (.i2b, 1) := by decide +kernel
theorem dX8_push_33 : decode cX8_push 33 = .ok (.bastore, 1) := by decide +kernel
theorem dX8_push_34 : decode cX8_push 34 = .ok (.aload_n 0, 1) := by decide +kernel
theorem dX8_push_35 : decode cX8_push 35 = .ok (.dup, 1) := by decide +kernel
theorem dX8_push_36 : decode cX8_push 36 = .ok (.getfield 57, 3) := by decide +kernel
theorem dX8_push_39 : decode cX8_push 39 = .ok (.iconst 1, 1) := by decide +kernel
theorem dX8_push_40 : decode cX8_push 40 = .ok (.iadd, 1) := by decide +kernel
theorem dX8_push_41 : decode cX8_push 41 = .ok (.putfield 57, 3) := by decide +kernel
theorem dX8_push_44 : decode cX8_push 44 = .ok (.iconst 1, 1) := by decide +kernel
theorem dX8_push_45 : decode cX8_push 45 = .ok (.ireturn, 1) := by decide +kernel
theorem dX8_change_0 : decode cX8_change 0 = .ok (.iload_n 1, 1) := by decide +kernel
theorem dX8_change_1 : decode cX8_change 1 = .ok (.ifCond .lt 22, 3) := by decide +kernel
theorem dX8_change_4 : decode cX8_change 4 = .ok (.iload_n 1, 1) := by decide +kernel
theorem dX8_change_5 : decode cX8_change 5 = .ok (.aload_n 0, 1) := by decide +kernel
theorem dX8_change_6 : decode cX8_change 6 = .ok (.getfield 57, 3) := by decide +kernel
theorem dX8_change_9 : decode cX8_change 9 = .ok (.if_icmp .ge 14, 3) := by decide +kernel
theorem dX8_change_12 : decode cX8_change 12 = .ok (.iload_n 2, 1) := by decide +kernel
theorem dX8_change_13 : decode cX8_change 13 = .ok (.ifCond .lt 10, 3) := by decide +kernel
theorem dX8_change_16 : decode cX8_change 16 = .ok (.iload_n 2, 1) := by decide +kernel
theorem dX8_change_17 : decode cX8_change 17 = .ok (.sipush 255, 3) := by decide +kernel
theorem dX8_change_20 : decode cX8_change 20 = .ok (.if_icmp .le 5, 3) := by decide +kernel
theorem dX8_change_23 : decode cX8_change 23 = .ok (.iconst 0, 1) := by decide +kernel
theorem dX8_change_24 : decode cX8_change 24 = .ok (.ireturn, 1) := by decide +kernel
theorem dX8_change_25 : decode cX8_change 25 = .ok (.aload_n 0, 1) := by decide +kernel
theorem dX8_change_26 : decode cX8_change 26 = .ok (.getfield 13, 3) := by decide +kernel
theorem dX8_change_29 : decode cX8_change 29 = .ok (.iload_n 1, 1) := by decide +kernel
theorem dX8_change_30 : decode cX8_change 30 = .ok (.iload_n 2, 1) := by decide +kernel
theorem dX8_change_31 : decode cX8_change 31 = .ok (.i2b, 1) := by decide +kernel
theorem dX8_change_32 : decode cX8_change 32 = .ok (.bastore, 1) := by decide +kernel
theorem dX8_change_33 : decode cX8_change 33 = .ok (.iconst 1, 1) := by decide +kernel
theorem dX8_change_34 : decode cX8_change 34 = .ok (.ireturn, 1) := by decide +kernel
theorem dX8_keep_0 : decode cX8_keep 0 = .ok (.iload_n 1, 1) := by decide +kernel
theorem dX8_keep_1 : decode cX8_keep 1 = .ok (.ifCond .lt 11, 3) := by decide +kernel
theorem dX8_keep_4 : decode cX8_keep 4 = .ok (.iload_n 1, 1) := by decide +kernel
theorem dX8_keep_5 : decode cX8_keep 5 = .ok (.aload_n 0, 1) := by decide +kernel
theorem dX8_keep_6 : decode cX8_keep 6 = .ok (.getfield 57, 3) := by decide +kernel
theorem dX8_keep_9 : decode cX8_keep 9 = .ok (.if_icmp .le 5, 3) := by decide +kernel
theorem dX8_keep_12 : decode cX8_keep 12 = .ok (.iconst 0, 1) := by decide +kernel
theorem dX8_keep_13 : decode cX8_keep 13 = .ok (.ireturn, 1) := by decide +kernel
theorem dX8_keep_14 : decode cX8_keep 14 = .ok (.aload_n 0, 1) := by decide +kernel
theorem dX8_keep_15 : decode cX8_keep 15 = .ok (.iload_n 1, 1) := by decide +kernel
theorem dX8_keep_16 : decode cX8_keep 16 = .ok (.putfield 57, 3) := by decide +kernel
theorem dX8_keep_19 : decode cX8_keep 19 = .ok (.iconst 1, 1) := by decide +kernel
theorem dX8_keep_20 : decode cX8_keep 20 = .ok (.ireturn, 1) := by decide +kernel
theorem dX8_size_0 : decode cX8_size 0 = .ok (.iload_n 1, 1) := by decide +kernel
theorem dX8_size_1 : decode cX8_size 1 = .ok (.ifCond .ne 10, 3) := by decide +kernel
theorem dX8_size_4 : decode cX8_size 4 = .ok (.aload_n 0, 1) := by decide +kernel
theorem dX8_size_5 : decode cX8_size 5 = .ok (.getfield 54, 3) := by decide +kernel
theorem dX8_size_8 : decode cX8_size 8 = .ok (.goto 28, 3) := by decide +kernel
theorem dX8_size_11 : decode cX8_size 11 = .ok (.iload_n 1, 1) := by decide +kernel
theorem dX8_size_12 : decode cX8_size 12 = .ok (.iconst 1, 1) := by decide +kernel
theorem dX8_size_13 : decode cX8_size 13 = .ok (.if_icmp .ne 10, 3) := by decide +kernel
theorem dX8_size_16 : decode cX8_size 16 = .ok (.aload_n 0, 1) := by decide +kernel
theorem dX8_size_17 : decode cX8_size 17 = .ok (.getfield 57, 3) := by decide +kernel
theorem dX8_size_20 : decode cX8_size 20 = .ok (.goto 16, 3) := by decide +kernel
theorem dX8_size_23 : decode cX8_size 23 = .ok (.iload_n 1, 1) := by decide +kernel
theorem dX8_size_24 : decode cX8_size 24 = .ok (.iconst 2, 1) := by decide +kernel
theorem dX8_size_25 : decode cX8_size 25 = .ok (.if_icmp .ne 10, 3) := by decide +kernel
theorem dX8_size_28 : decode cX8_size 28 = .ok (.aload_n 0, 1) := by decide +kernel
theorem dX8_size_29 : decode cX8_size 29 = .ok (.getfield 60, 3) := by decide +kernel
theorem dX8_size_32 : decode cX8_size 32 = .ok (.goto 4, 3) := by decide +kernel
theorem dX8_size_35 : decode cX8_size 35 = .ok (.iconst (-1), 1) := by decide +kernel
theorem dX8_size_36 : decode cX8_size 36 = .ok (.ireturn, 1) := by decide +kernel
theorem dX8_at_0 : decode cX8_at 0 = .ok (.iload_n 2, 1) := by decide +kernel
theorem dX8_at_1 : decode cX8_at 1 = .ok (.ifCond .lt 12, 3) := by decide +kernel
theorem dX8_at_4 : decode cX8_at 4 = .ok (.iload_n 2, 1) := by decide +kernel
theorem dX8_at_5 : decode cX8_at 5 = .ok (.aload_n 0, 1) := by decide +kernel
theorem dX8_at_6 : decode cX8_at 6 = .ok (.iload_n 1, 1) := by decide +kernel
theorem dX8_at_7 : decode cX8_at 7 = .ok (.invokevirtual 170, 3) := by decide +kernel
theorem dX8_at_10 : decode cX8_at 10 = .ok (.if_icmp .lt 5, 3) := by decide +kernel
theorem dX8_at_13 : decode cX8_at 13 = .ok (.iconst (-1), 1) := by decide +kernel
theorem dX8_at_14 : decode cX8_at 14 = .ok (.ireturn, 1) := by decide +kernel
theorem dX8_at_15 : decode cX8_at 15 = .ok (.iload_n 1, 1) := by decide +kernel
theorem dX8_at_16 : decode cX8_at 16 = .ok (.ifCond .ne 12, 3) := by decide +kernel
theorem dX8_at_19 : decode cX8_at 19 = .ok (.aload_n 0, 1) := by decide +kernel
theorem dX8_at_20 : decode cX8_at 20 = .ok (.getfield 7, 3) := by decide +kernel
theorem dX8_at_23 : decode cX8_at 23 = .ok (.iload_n 2, 1) := by decide +kernel
theorem dX8_at_24 : decode cX8_at 24 = .ok (.baload, 1) := by decide +kernel
theorem dX8_at_25 : decode cX8_at 25 = .ok (.goto 23, 3) := by decide +kernel
theorem dX8_at_28 : decode cX8_at 28 = .ok (.iload_n 1, 1) := by decide +kernel
theorem dX8_at_29 : decode cX8_at 29 = .ok (.iconst 1, 1) := by decide +kernel
theorem dX8_at_30 : decode cX8_at 30 = .ok (.if_icmp .ne 12, 3) := by decide +kernel
theorem dX8_at_33 : decode cX8_at 33 = .ok (.aload_n 0, 1) := by decide +kernel
theorem dX8_at_34 : decode cX8_at 34 = .ok (.getfield 13, 3) := by decide +kernel
theorem dX8_at_37 : decode cX8_at 37 = .ok (.iload_n 2, 1) := by decide +kernel
theorem dX8_at_38 : decode cX8_at 38 = .ok (.baload, 1) := by decide +kernel
theorem dX8_at_39 : decode cX8_at 39 = .ok (.goto 9, 3) := by decide +kernel
theorem dX8_at_42 : decode cX8_at 42 = .ok (.aload_n 0, 1) := by decide +kernel
theorem dX8_at_43 : decode cX8_at 43 = .ok (.getfield 16, 3) := by decide +kernel
theorem dX8_at_46 : decode cX8_at 46 = .ok (.iload_n 2, 1) := by decide +kernel
theorem dX8_at_47 : decode cX8_at 47 = .ok (.baload, 1) := by decide +kernel
theorem dX8_at_48 : decode cX8_at 48 = .ok (.sipush 255, 3) := by decide +kernel
theorem dX8_at_51 : decode cX8_at 51 = .ok (.iand, 1) := by decide +kernel
theorem dX8_at_52 : decode cX8_at 52 = .ok (.ireturn, 1) := by decide +kernel
theorem dX8_step_0 : decode cX8_step 0 = .ok (.iload_n 1, 1) := by decide +kernel
theorem dX8_step_1 : decode cX8_step 1 = .ok (.ifCond .lt 18, 3) := by decide +kernel
theorem dX8_step_4 : decode cX8_step 4 = .ok (.iload_n 1, 1) := by decide +kernel
theorem dX8_step_5 : decode cX8_step 5 = .ok (.aload_n 0, 1) := by decide +kernel
theorem dX8_step_6 : decode cX8_step 6 = .ok (.getfield 73, 3) := by decide +kernel
theorem dX8_step_9 : decode cX8_step 9 = .ok (.if_icmp .ge 10, 3) := by decide +kernel
theorem dX8_step_12 : decode cX8_step 12 = .ok (.iload_n 1, 1) := by decide +kernel
theorem dX8_step_13 : decode cX8_step 13 = .ok (.sipush 20000, 3) := by decide +kernel
theorem dX8_step_16 : decode cX8_step 16 = .ok (.if_icmp .lt 6, 3) := by decide +kernel
theorem dX8_step_19 : decode cX8_step 19 = .ok (.bipush (-2), 2) := by decide +kernel
theorem dX8_step_21 : decode cX8_step 21 = .ok (.ireturn, 1) := by decide +kernel
theorem dX8_step_22 : decode cX8_step 22 = .ok (.aload_n 0, 1) := by decide +kernel
theorem dX8_step_23 : decode cX8_step 23 = .ok (.getfield 43, 3) := by decide +kernel
theorem dX8_step_26 : decode cX8_step 26 = .ok (.iload_n 1, 1) := by decide +kernel
theorem dX8_step_27 : decode cX8_step 27 = .ok (.baload, 1) := by decide +kernel
theorem dX8_step_28 : decode cX8_step 28 = .ok (.bipush 7, 2) := by decide +kernel
theorem dX8_step_30 : decode cX8_step 30 = .ok (.if_icmp .lt 7, 3) := by decide +kernel
theorem dX8_step_33 : decode cX8_step 33 = .ok (.iconst 1, 1) := by decide +kernel
theorem dX8_step_34 : decode cX8_step 34 = .ok (.goto 4, 3) := by decide +kernel
theorem dX8_step_37 : decode cX8_step 37 = .ok (.iconst 0, 1) := by decide +kernel
theorem dX8_step_38 : decode cX8_step 38 = .ok (.istore_n 3, 1) := by decide +kernel
theorem dX8_step_39 : decode cX8_step 39 = .ok (.iload_n 2, 1) := by decide +kernel
theorem dX8_step_40 : decode cX8_step 40 = .ok (.tableswitch 94 0 4 #[36, 46, 56, 66, 84], 36) := by decide +kernel
theorem dX8_step_76 : decode cX8_step 76 = .ok (.aload_n 0, 1) := by decide +kernel
theorem dX8_step_77 : decode cX8_step 77 = .ok (.getfield 34, 3) := by decide +kernel
theorem dX8_step_80 : decode cX8_step 80 = .ok (.iload_n 1, 1) := by decide +kernel
theorem dX8_step_81 : decode cX8_step 81 = .ok (.saload, 1) := by decide +kernel
theorem dX8_step_82 : decode cX8_step 82 = .ok (.ldc 173, 2) := by decide +kernel
theorem dX8_step_84 : decode cX8_step 84 = .ok (.iand, 1) := by decide +kernel
theorem dX8_step_85 : decode cX8_step 85 = .ok (.ireturn, 1) := by decide +kernel
theorem dX8_step_86 : decode cX8_step 86 = .ok (.aload_n 0, 1) := by decide +kernel
theorem dX8_step_87 : decode cX8_step 87 = .ok (.getfield 37, 3) := by decide +kernel
theorem dX8_step_90 : decode cX8_step 90 = .ok (.iload_n 1, 1) := by decide +kernel
theorem dX8_step_91 : decode cX8_step 91 = .ok (.saload, 1) := by decide +kernel
theorem dX8_step_92 : decode cX8_step 92 = .ok (.ldc 173, 2) := by decide +kernel
theorem dX8_step_94 : decode cX8_step 94 = .ok (.iand, 1) := by decide +kernel
theorem dX8_step_95 : decode cX8_step 95 = .ok (.ireturn, 1) := by decide +kernel
theorem dX8_step_96 : decode cX8_step 96 = .ok (.aload_n 0, 1) := by decide +kernel
theorem dX8_step_97 : decode cX8_step 97 = .ok (.getfield 40, 3) := by decide +kernel
theorem dX8_step_100 : decode cX8_step 100 = .ok (.iload_n 1, 1) := by decide +kernel
theorem dX8_step_101 : decode cX8_step 101 = .ok (.saload, 1) := by decide +kernel
theorem dX8_step_102 : decode cX8_step 102 = .ok (.ldc 173, 2) := by decide +kernel
theorem dX8_step_104 : decode cX8_step 104 = .ok (.iand, 1) := by decide +kernel
theorem dX8_step_105 : decode cX8_step 105 = .ok (.ireturn, 1) := by decide +kernel
theorem dX8_step_106 : decode cX8_step 106 = .ok (.aload_n 0, 1) := by decide +kernel
theorem dX8_step_107 : decode cX8_step 107 = .ok (.getfield 43, 3) := by decide +kernel
theorem dX8_step_110 : decode cX8_step 110 = .ok (.iload_n 1, 1) := by decide +kernel
theorem dX8_step_111 : decode cX8_step 111 = .ok (.baload, 1) := by decide +kernel
theorem dX8_step_112 : decode cX8_step 112 = .ok (.iload_n 3, 1) := by decide +kernel
theorem dX8_step_113 : decode cX8_step 113 = .ok (.ifCond .eq 8, 3) := by decide +kernel
theorem dX8_step_116 : decode cX8_step 116 = .ok (.bipush 8, 2) := by decide +kernel
theorem dX8_step_118 : decode cX8_step 118 = .ok (.goto 4, 3) := by decide +kernel
theorem dX8_step_121 : decode cX8_step 121 = .ok (.iconst 0, 1) := by decide +kernel
theorem dX8_step_122 : decode cX8_step 122 = .ok (.isub, 1) := by decide +kernel
theorem dX8_step_123 : decode cX8_step 123 = .ok (.ireturn, 1) := by decide +kernel
theorem dX8_step_124 : decode cX8_step 124 = .ok (.iload_n 3, 1) := by decide +kernel
theorem dX8_step_125 : decode cX8_step 125 = .ok (.ifCond .eq 7, 3) := by decide +kernel
theorem dX8_step_128 : decode cX8_step 128 = .ok (.iconst 1, 1) := by decide +kernel
theorem dX8_step_129 : decode cX8_step 129 = .ok (.goto 4, 3) := by decide +kernel
theorem dX8_step_132 : decode cX8_step 132 = .ok (.iconst 0, 1) := by decide +kernel
theorem dX8_step_133 : decode cX8_step 133 = .ok (.ireturn, 1) := by decide +kernel
theorem dX8_step_134 : decode cX8_step 134 = .ok (.bipush (-2), 2) := by decide +kernel
theorem dX8_step_136 : decode cX8_step 136 = .ok (.ireturn, 1) := by decide +kernel
theorem dX8_count_0 : decode cX8_count 0 = .ok (.iload_n 1, 1) := by decide +kernel
theorem dX8_count_1 : decode cX8_count 1 = .ok (.tableswitch 168 0 7 #[47, 53, 59, 65, 71, 77, 83, 88], 47) := by decide +kernel
theorem dX8_count_48 : decode cX8_count 48 = .ok (.aload_n 0, 1) := by decide +kernel
theorem dX8_count_49 : decode cX8_count 49 = .ok (.getfield 73, 3) := by decide +kernel
theorem dX8_count_52 : decode cX8_count 52 = .ok (.i2l, 1) := by decide +kernel
theorem dX8_count_53 : decode cX8_count 53 = .ok (.lreturn, 1) := by decide +kernel
theorem dX8_count_54 : decode cX8_count 54 = .ok (.aload_n 0, 1) := by decide +kernel
theorem dX8_count_55 : decode cX8_count 55 = .ok (.getfield 76, 3) := by decide +kernel
theorem dX8_count_58 : decode cX8_count 58 = .ok (.i2l, 1) := by decide +kernel
theorem dX8_count_59 : decode cX8_count 59 = .ok (.lreturn, 1) := by decide +kernel
theorem dX8_count_60 : decode cX8_count 60 = .ok (.aload_n 0, 1) := by decide +kernel
theorem dX8_count_61 : decode cX8_count 61 = .ok (.getfield 79, 3) := by decide +kernel
theorem dX8_count_64 : decode cX8_count 64 = .ok (.i2l, 1) := by decide +kernel
theorem dX8_count_65 : decode cX8_count 65 = .ok (.lreturn, 1) := by decide +kernel
theorem dX8_count_66 : decode cX8_count 66 = .ok (.aload_n 0, 1) := by decide +kernel
theorem dX8_count_67 : decode cX8_count 67 = .ok (.getfield 82, 3) := by decide +kernel
theorem dX8_count_70 : decode cX8_count 70 = .ok (.i2l, 1) := by decide +kernel
theorem dX8_count_71 : decode cX8_count 71 = .ok (.lreturn, 1) := by decide +kernel
theorem dX8_count_72 : decode cX8_count 72 = .ok (.aload_n 0, 1) := by decide +kernel
theorem dX8_count_73 : decode cX8_count 73 = .ok (.getfield 85, 3) := by decide +kernel
theorem dX8_count_76 : decode cX8_count 76 = .ok (.i2l, 1) := by decide +kernel
theorem dX8_count_77 : decode cX8_count 77 = .ok (.lreturn, 1) := by decide +kernel
theorem dX8_count_78 : decode cX8_count 78 = .ok (.aload_n 0, 1) := by decide +kernel
theorem dX8_count_79 : decode cX8_count 79 = .ok (.getfield 70, 3) := by decide +kernel
theorem dX8_count_82 : decode cX8_count 82 = .ok (.i2l, 1) := by decide +kernel
theorem dX8_count_83 : decode cX8_count 83 = .ok (.lreturn, 1) := by decide +kernel
theorem dX8_count_84 : decode cX8_count 84 = .ok (.aload_n 0, 1) := by decide +kernel
theorem dX8_count_85 : decode cX8_count 85 = .ok (.getfield 66, 3) := by decide +kernel
theorem dX8_count_88 : decode cX8_count 88 = .ok (.lreturn, 1) := by decide +kernel
theorem dX8_count_89 : decode cX8_count 89 = .ok (.iconst 0, 1) := by decide +kernel
theorem dX8_count_90 : decode cX8_count 90 = .ok (.istore_n 2, 1) := by decide +kernel
theorem dX8_count_91 : decode cX8_count 91 = .ok (.iconst 0, 1) := by decide +kernel
theorem dX8_count_92 : decode cX8_count 92 = .ok (.istore_n 3, 1) := by decide +kernel
theorem dX8_count_93 : decode cX8_count 93 = .ok (.iload_n 3, 1) := by decide +kernel
theorem dX8_count_94 : decode cX8_count 94 = .ok (.aload_n 0, 1) := by decide +kernel
theorem dX8_count_95 : decode cX8_count 95 = .ok (.getfield 70, 3) := by decide +kernel
theorem dX8_count_98 : decode cX8_count 98 = .ok (.if_icmp .ge 68, 3) := by decide +kernel
theorem dX8_count_101 : decode cX8_count 101 = .ok (.iconst 1, 1) := by decide +kernel
theorem dX8_count_102 : decode cX8_count 102 = .ok (.istore 4, 2) := by decide +kernel
theorem dX8_count_104 : decode cX8_count 104 = .ok (.iconst 0, 1) := by decide +kernel
theorem dX8_count_105 : decode cX8_count 105 = .ok (.istore 5, 2) := by decide +kernel
theorem dX8_count_107 : decode cX8_count 107 = .ok (.iload 5, 2) := by decide +kernel
theorem dX8_count_109 : decode cX8_count 109 = .ok (.iload_n 3, 1) := by decide +kernel
theorem dX8_count_110 : decode cX8_count 110 = .ok (.if_icmp .ge 37, 3) := by decide +kernel
theorem dX8_count_113 : decode cX8_count 113 = .ok (.iload 4, 2) := by decide +kernel
theorem dX8_count_115 : decode cX8_count 115 = .ok (.ifCond .eq 32, 3) := by decide +kernel
theorem dX8_count_118 : decode cX8_count 118 = .ok (.aload_n 0, 1) := by decide +kernel
theorem dX8_count_119 : decode cX8_count 119 = .ok (.getfield 23, 3) := by decide +kernel
theorem dX8_count_122 : decode cX8_count 122 = .ok (.iload 5, 2) := by decide +kernel
theorem dX8_count_124 : decode cX8_count 124 = .ok (.iaload, 1) := by decide +kernel
theorem dX8_count_125 : decode cX8_count 125 = .ok (.aload_n 0, 1) := by decide +kernel
theorem dX8_count_126 : decode cX8_count 126 = .ok (.getfield 23, 3) := by decide +kernel
theorem dX8_count_129 : decode cX8_count 129 = .ok (.iload_n 3, 1) := by decide +kernel
theorem dX8_count_130 : decode cX8_count 130 = .ok (.iaload, 1) := by decide +kernel
theorem dX8_count_131 : decode cX8_count 131 = .ok (.if_icmp .eq 7, 3) := by decide +kernel
theorem dX8_count_134 : decode cX8_count 134 = .ok (.iconst 1, 1) := by decide +kernel
theorem dX8_count_135 : decode cX8_count 135 = .ok (.goto 4, 3) := by decide +kernel
theorem dX8_count_138 : decode cX8_count 138 = .ok (.iconst 0, 1) := by decide +kernel
theorem dX8_count_139 : decode cX8_count 139 = .ok (.istore 4, 2) := by decide +kernel
theorem dX8_count_141 : decode cX8_count 141 = .ok (.iinc 5 1, 3) := by decide +kernel
theorem dX8_count_144 : decode cX8_count 144 = .ok (.goto (-37), 3) := by decide +kernel
theorem dX8_count_147 : decode cX8_count 147 = .ok (.iload_n 2, 1) := by decide +kernel
theorem dX8_count_148 : decode cX8_count 148 = .ok (.iload 4, 2) := by decide +kernel
theorem dX8_count_150 : decode cX8_count 150 = .ok (.ifCond .eq 7, 3) := by decide +kernel
theorem dX8_count_153 : decode cX8_count 153 = .ok (.iconst 1, 1) := by decide +kernel
theorem dX8_count_154 : decode cX8_count 154 = .ok (.goto 4, 3) := by decide +kernel
theorem dX8_count_157 : decode cX8_count 157 = .ok (.iconst 0, 1) := by decide +kernel
theorem dX8_count_158 : decode cX8_count 158 = .ok (.iadd, 1) := by decide +kernel
theorem dX8_count_159 : decode cX8_count 159 = .ok (.istore_n 2, 1) := by decide +kernel
theorem dX8_count_160 : decode cX8_count 160 = .ok (.iinc 3 1, 3) := by decide +kernel
theorem dX8_count_163 : decode cX8_count 163 = .ok (.goto (-70), 3) := by decide +kernel
theorem dX8_count_166 : decode cX8_count 166 = .ok (.iload_n 2, 1) := by decide +kernel
theorem dX8_count_167 : decode cX8_count 167 = .ok (.i2l, 1) := by decide +kernel
theorem dX8_count_168 : decode cX8_count 168 = .ok (.lreturn, 1) := by decide +kernel
theorem dX8_count_169 : decode cX8_count 169 = .ok (.ldc2_w 174, 3) := by decide +kernel
theorem dX8_count_172 : decode cX8_count 172 = .ok (.lreturn, 1) := by decide +kernel
theorem dX8_isByte_0 : decode cX8_isByte 0 = .ok (.iload_n 0, 1) := by decide +kernel
theorem dX8_isByte_1 : decode cX8_isByte 1 = .ok (.ifCond .lt 14, 3) := by decide +kernel
theorem dX8_isByte_4 : decode cX8_isByte 4 = .ok (.iload_n 0, 1) := by decide +kernel
theorem dX8_isByte_5 : decode cX8_isByte 5 = .ok (.sipush 255, 3) := by decide +kernel
theorem dX8_isByte_8 : decode cX8_isByte 8 = .ok (.if_icmp .gt 7, 3) := by decide +kernel
theorem dX8_isByte_11 : decode cX8_isByte 11 = .ok (.iconst 1, 1) := by decide +kernel
theorem dX8_isByte_12 : decode cX8_isByte 12 = .ok (.goto 4, 3) := by decide +kernel
theorem dX8_isByte_15 : decode cX8_isByte 15 = .ok (.iconst 0, 1) := by decide +kernel
theorem dX8_isByte_16 : decode cX8_isByte 16 = .ok (.ireturn, 1) := by decide +kernel
theorem dX8_isContext_0 : decode cX8_isContext 0 = .ok (.iload_n 0, 1) := by decide +kernel
theorem dX8_isContext_1 : decode cX8_isContext 1 = .ok (.ifCond .lt 35, 3) := by decide +kernel
theorem dX8_isContext_4 : decode cX8_isContext 4 = .ok (.iload_n 0, 1) := by decide +kernel
theorem dX8_isContext_5 : decode cX8_isContext 5 = .ok (.iconst 2, 1) := by decide +kernel
theorem dX8_isContext_6 : decode cX8_isContext 6 = .ok (.if_icmp .gt 30, 3) := by decide +kernel
theorem dX8_isContext_9 : decode cX8_isContext 9 = .ok (.iload_n 0, 1) := by decide +kernel
theorem dX8_isContext_10 : decode cX8_isContext 10 = .ok (.ifCond .eq 10, 3) := by decide +kernel
theorem dX8_isContext_13 : decode cX8_isContext 13 = .ok (.iload_n 1, 1) := by decide +kernel
theorem dX8_isContext_14 : decode cX8_isContext 14 = .ok (.invokestatic 176, 3) := by decide +kernel
theorem dX8_isContext_17 : decode cX8_isContext 17 = .ok (.ifCond .eq 19, 3) := by decide +kernel
theorem dX8_isContext_20 : decode cX8_isContext 20 = .ok (.iload_n 0, 1) := by decide +kernel
theorem dX8_isContext_21 : decode cX8_isContext 21 = .ok (.iconst 2, 1) := by decide +kernel
theorem dX8_isContext_22 : decode cX8_isContext 22 = .ok (.if_icmp .lt 10, 3) := by decide +kernel
theorem dX8_isContext_25 : decode cX8_isContext 25 = .ok (.iload_n 2, 1) := by decide +kernel
theorem dX8_isContext_26 : decode cX8_isContext 26 = .ok (.invokestatic 176, 3) := by decide +kernel
theorem dX8_isContext_29 : decode cX8_isContext 29 = .ok (.ifCond .eq 7, 3) := by decide +kernel
theorem dX8_isContext_32 : decode cX8_isContext 32 = .ok (.iconst 1, 1) := by decide +kernel
theorem dX8_isContext_33 : decode cX8_isContext 33 = .ok (.goto 4, 3) := by decide +kernel
theorem dX8_isContext_36 : decode cX8_isContext 36 = .ok (.iconst 0, 1) := by decide +kernel
theorem dX8_isContext_37 : decode cX8_isContext 37 = .ok (.ireturn, 1) := by decide +kernel
theorem dX8_learnt_0 : decode cX8_learnt 0 = .ok (.iload_n 1, 1) := by decide +kernel
theorem dX8_learnt_1 : decode cX8_learnt 1 = .ok (.iload_n 2, 1) := by decide +kernel
theorem dX8_learnt_2 : decode cX8_learnt 2 = .ok (.iload_n 3, 1) := by decide +kernel
theorem dX8_learnt_3 : decode cX8_learnt 3 = .ok (.invokestatic 179, 3) := by decide +kernel
theorem dX8_learnt_6 : decode cX8_learnt 6 = .ok (.ifCond .eq 11, 3) := by decide +kernel
theorem dX8_learnt_9 : decode cX8_learnt 9 = .ok (.iload 4, 2) := by decide +kernel
theorem dX8_learnt_11 : decode cX8_learnt 11 = .ok (.invokestatic 176, 3) := by decide +kernel
theorem dX8_learnt_14 : decode cX8_learnt 14 = .ok (.ifCond .ne 5, 3) := by decide +kernel
theorem dX8_learnt_17 : decode cX8_learnt 17 = .ok (.iconst 0, 1) := by decide +kernel
theorem dX8_learnt_18 : decode cX8_learnt 18 = .ok (.ireturn, 1) := by decide +kernel
theorem dX8_learnt_19 : decode cX8_learnt 19 = .ok (.aload_n 0, 1) := by decide +kernel
theorem dX8_learnt_20 : decode cX8_learnt 20 = .ok (.iload_n 1, 1) := by decide +kernel
theorem dX8_learnt_21 : decode cX8_learnt 21 = .ok (.iload_n 2, 1) := by decide +kernel
theorem dX8_learnt_22 : decode cX8_learnt 22 = .ok (.iload_n 3, 1) := by decide +kernel
theorem dX8_learnt_23 : decode cX8_learnt 23 = .ok (.invokestatic 99, 3) := by decide +kernel
theorem dX8_learnt_26 : decode cX8_learnt 26 = .ok (.iload 4, 2) := by decide +kernel
theorem dX8_learnt_28 : decode cX8_learnt 28 = .ok (.invokevirtual 107, 3) := by decide +kernel
theorem dX8_learnt_31 : decode cX8_learnt 31 = .ok (.istore 5, 2) := by decide +kernel
theorem dX8_learnt_33 : decode cX8_learnt 33 = .ok (.iload 5, 2) := by decide +kernel
theorem dX8_learnt_35 : decode cX8_learnt 35 = .ok (.iconst (-1), 1) := by decide +kernel
theorem dX8_learnt_36 : decode cX8_learnt 36 = .ok (.if_icmp .ne 7, 3) := by decide +kernel
theorem dX8_learnt_39 : decode cX8_learnt 39 = .ok (.iconst 0, 1) := by decide +kernel
theorem dX8_learnt_40 : decode cX8_learnt 40 = .ok (.goto 10, 3) := by decide +kernel
theorem dX8_learnt_43 : decode cX8_learnt 43 = .ok (.aload_n 0, 1) := by decide +kernel
theorem dX8_learnt_44 : decode cX8_learnt 44 = .ok (.getfield 31, 3) := by decide +kernel
theorem dX8_learnt_47 : decode cX8_learnt 47 = .ok (.iload 5, 2) := by decide +kernel
theorem dX8_learnt_49 : decode cX8_learnt 49 = .ok (.saload, 1) := by decide +kernel
theorem dX8_learnt_50 : decode cX8_learnt 50 = .ok (.ireturn, 1) := by decide +kernel
theorem dX8_node_0 : decode cX8_node 0 = .ok (.iload_n 1, 1) := by decide +kernel
theorem dX8_node_1 : decode cX8_node 1 = .ok (.iload_n 2, 1) := by decide +kernel
theorem dX8_node_2 : decode cX8_node 2 = .ok (.iload_n 3, 1) := by decide +kernel
theorem dX8_node_3 : decode cX8_node 3 = .ok (.invokestatic 179, 3) := by decide +kernel
theorem dX8_node_6 : decode cX8_node 6 = .ok (.ifCond .eq 8, 3) := by decide +kernel
theorem dX8_node_9 : decode cX8_node 9 = .ok (.iload 4, 2) := by decide +kernel
theorem dX8_node_11 : decode cX8_node 11 = .ok (.ifCond .ge 5, 3) := by decide +kernel
theorem dX8_node_14 : decode cX8_node 14 = .ok (.iconst (-1), 1) := by decide +kernel
theorem dX8_node_15 : decode cX8_node 15 = .ok (.ireturn, 1) := by decide +kernel
theorem dX8_node_16 : decode cX8_node 16 = .ok (.iload_n 1, 1) := by decide +kernel
theorem dX8_node_17 : decode cX8_node 17 = .ok (.iload_n 2, 1) := by decide +kernel
theorem dX8_node_18 : decode cX8_node 18 = .ok (.iload_n 3, 1) := by decide +kernel
theorem dX8_node_19 : decode cX8_node 19 = .ok (.invokestatic 99, 3) := by decide +kernel
theorem dX8_node_22 : decode cX8_node 22 = .ok (.istore 5, 2) := by decide +kernel
theorem dX8_node_24 : decode cX8_node 24 = .ok (.iconst 0, 1) := by decide +kernel
theorem dX8_node_25 : decode cX8_node 25 = .ok (.istore 6, 2) := by decide +kernel
theorem dX8_node_27 : decode cX8_node 27 = .ok (.iconst 0, 1) := by decide +kernel
theorem dX8_node_28 : decode cX8_node 28 = .ok (.istore 7, 2) := by decide +kernel
theorem dX8_node_30 : decode cX8_node 30 = .ok (.iload 7, 2) := by decide +kernel
theorem dX8_node_32 : decode cX8_node 32 = .ok (.aload_n 0, 1) := by decide +kernel
theorem dX8_node_33 : decode cX8_node 33 = .ok (.getfield 70, 3) := by decide +kernel
theorem dX8_node_36 : decode cX8_node 36 = .ok (.if_icmp .ge 39, 3) := by decide +kernel
theorem dX8_node_39 : decode cX8_node 39 = .ok (.aload_n 0, 1) := by decide +kernel
theorem dX8_node_40 : decode cX8_node 40 = .ok (.getfield 23, 3) := by decide +kernel
theorem dX8_node_43 : decode cX8_node 43 = .ok (.iload 7, 2) := by decide +kernel
theorem dX8_node_45 : decode cX8_node 45 = .ok (.iaload, 1) := by decide +kernel
theorem dX8_node_46 : decode cX8_node 46 = .ok (.iload 5, 2) := by decide +kernel
theorem dX8_node_48 : decode cX8_node 48 = .ok (.if_icmp .ne 21, 3) := by decide +kernel
theorem dX8_node_51 : decode cX8_node 51 = .ok (.iload 6, 2) := by decide +kernel
theorem dX8_node_53 : decode cX8_node 53 = .ok (.iload 4, 2) := by decide +kernel
theorem dX8_node_55 : decode cX8_node 55 = .ok (.if_icmp .ne 11, 3) := by decide +kernel
theorem dX8_node_58 : decode cX8_node 58 = .ok (.aload_n 0, 1) := by decide +kernel
theorem dX8_node_59 : decode cX8_node 59 = .ok (.getfield 27, 3) := by decide +kernel
theorem dX8_node_62 : decode cX8_node 62 = .ok (.iload 7, 2) := by decide +kernel
theorem dX8_node_64 : decode cX8_node 64 = .ok (.saload, 1) := by decide +kernel
theorem dX8_node_65 : decode cX8_node 65 = .ok (.ireturn, 1) := by decide +kernel
theorem dX8_node_66 : decode cX8_node 66 = .ok (.iinc 6 1, 3) := by decide +kernel
theorem dX8_node_69 : decode cX8_node 69 = .ok (.iinc 7 1, 3) := by decide +kernel
theorem dX8_node_72 : decode cX8_node 72 = .ok (.goto (-42), 3) := by decide +kernel
theorem dX8_node_75 : decode cX8_node 75 = .ok (.iconst (-1), 1) := by decide +kernel
theorem dX8_node_76 : decode cX8_node 76 = .ok (.ireturn, 1) := by decide +kernel
theorem dJ9_max_7cf53_0 : decode cJ9_max_7cf53 0 = .ok (.iload_n 0, 1) := by decide +kernel
theorem dJ9_max_7cf53_1 : decode cJ9_max_7cf53 1 = .ok (.iload_n 1, 1) := by decide +kernel
theorem dJ9_max_7cf53_2 : decode cJ9_max_7cf53 2 = .ok (.if_icmp .lt 7, 3) := by decide +kernel
theorem dJ9_max_7cf53_5 : decode cJ9_max_7cf53 5 = .ok (.iload_n 0, 1) := by decide +kernel
theorem dJ9_max_7cf53_6 : decode cJ9_max_7cf53 6 = .ok (.goto 4, 3) := by decide +kernel
theorem dJ9_max_7cf53_9 : decode cJ9_max_7cf53 9 = .ok (.iload_n 1, 1) := by decide +kernel
theorem dJ9_max_7cf53_10 : decode cJ9_max_7cf53 10 = .ok (.ireturn, 1) := by decide +kernel
theorem dJ9_min_7cf53_0 : decode cJ9_min_7cf53 0 = .ok (.iload_n 0, 1) := by decide +kernel
theorem dJ9_min_7cf53_1 : decode cJ9_min_7cf53 1 = .ok (.iload_n 1, 1) := by decide +kernel
theorem dJ9_min_7cf53_2 : decode cJ9_min_7cf53 2 = .ok (.if_icmp .gt 7, 3) := by decide +kernel
theorem dJ9_min_7cf53_5 : decode cJ9_min_7cf53 5 = .ok (.iload_n 0, 1) := by decide +kernel
theorem dJ9_min_7cf53_6 : decode cJ9_min_7cf53 6 = .ok (.goto 4, 3) := by decide +kernel
theorem dJ9_min_7cf53_9 : decode cJ9_min_7cf53 9 = .ok (.iload_n 1, 1) := by decide +kernel
theorem dJ9_min_7cf53_10 : decode cJ9_min_7cf53 10 = .ok (.ireturn, 1) := by decide +kernel
theorem dJ9_min_f86c9_0 : decode cJ9_min_f86c9 0 = .ok (.lload_n 0, 1) := by decide +kernel
theorem dJ9_min_f86c9_1 : decode cJ9_min_f86c9 1 = .ok (.lload_n 2, 1) := by decide +kernel
theorem dJ9_min_f86c9_2 : decode cJ9_min_f86c9 2 = .ok (.lcmp, 1) := by decide +kernel
theorem dJ9_min_f86c9_3 : decode cJ9_min_f86c9 3 = .ok (.ifCond .gt 7, 3) := by decide +kernel
theorem dJ9_min_f86c9_6 : decode cJ9_min_f86c9 6 = .ok (.lload_n 0, 1) := by decide +kernel
theorem dJ9_min_f86c9_7 : decode cJ9_min_f86c9 7 = .ok (.goto 4, 3) := by decide +kernel
theorem dJ9_min_f86c9_10 : decode cJ9_min_f86c9 10 = .ok (.lload_n 2, 1) := by decide +kernel
theorem dJ9_min_f86c9_11 : decode cJ9_min_f86c9 11 = .ok (.lreturn, 1) := by decide +kernel
theorem dJ7_fill_53178_0 : decode cJ7_fill_53178 0 = .ok (.iconst 0, 1) := by decide +kernel
theorem dJ7_fill_53178_1 : decode cJ7_fill_53178 1 = .ok (.istore_n 2, 1) := by decide +kernel
theorem dJ7_fill_53178_2 : decode cJ7_fill_53178 2 = .ok (.aload_n 0, 1) := by decide +kernel
theorem dJ7_fill_53178_3 : decode cJ7_fill_53178 3 = .ok (.arraylength, 1) := by decide +kernel
theorem dJ7_fill_53178_4 : decode cJ7_fill_53178 4 = .ok (.istore_n 3, 1) := by decide +kernel
theorem dJ7_fill_53178_5 : decode cJ7_fill_53178 5 = .ok (.iload_n 2, 1) := by decide +kernel
theorem dJ7_fill_53178_6 : decode cJ7_fill_53178 6 = .ok (.iload_n 3, 1) := by decide +kernel
theorem dJ7_fill_53178_7 : decode cJ7_fill_53178 7 = .ok (.if_icmp .ge 13, 3) := by decide +kernel
theorem dJ7_fill_53178_10 : decode cJ7_fill_53178 10 = .ok (.aload_n 0, 1) := by decide +kernel
theorem dJ7_fill_53178_11 : decode cJ7_fill_53178 11 = .ok (.iload_n 2, 1) := by decide +kernel
theorem dJ7_fill_53178_12 : decode cJ7_fill_53178 12 = .ok (.iload_n 1, 1) := by decide +kernel
theorem dJ7_fill_53178_13 : decode cJ7_fill_53178 13 = .ok (.iastore, 1) := by decide +kernel
theorem dJ7_fill_53178_14 : decode cJ7_fill_53178 14 = .ok (.iinc 2 1, 3) := by decide +kernel
theorem dJ7_fill_53178_17 : decode cJ7_fill_53178 17 = .ok (.goto (-12), 3) := by decide +kernel
theorem dJ7_fill_53178_20 : decode cJ7_fill_53178 20 = .ok (.return_, 1) := by decide +kernel
theorem dJ7_copyOf_59c91_0 : decode cJ7_copyOf_59c91 0 = .ok (.iload_n 1, 1) := by decide +kernel
theorem dJ7_copyOf_59c91_1 : decode cJ7_copyOf_59c91 1 = .ok (.aload_n 0, 1) := by decide +kernel
theorem dJ7_copyOf_59c91_2 : decode cJ7_copyOf_59c91 2 = .ok (.arraylength, 1) := by decide +kernel
theorem dJ7_copyOf_59c91_3 : decode cJ7_copyOf_59c91 3 = .ok (.if_icmp .ne 11, 3) := by decide +kernel
theorem dJ7_copyOf_59c91_6 : decode cJ7_copyOf_59c91 6 = .ok (.aload_n 0, 1) := by decide +kernel
theorem dJ7_copyOf_59c91_7 : decode cJ7_copyOf_59c91 7 = .ok (.invokevirtual 316, 3) := by decide +kernel
theorem dJ7_copyOf_59c91_10 : decode cJ7_copyOf_59c91 10 = .ok (.checkcast 317, 3) := by decide +kernel
theorem dJ7_copyOf_59c91_13 : decode cJ7_copyOf_59c91 13 = .ok (.areturn, 1) := by decide +kernel
theorem dJ7_copyOf_59c91_14 : decode cJ7_copyOf_59c91 14 = .ok (.iload_n 1, 1) := by decide +kernel
theorem dJ7_copyOf_59c91_15 : decode cJ7_copyOf_59c91 15 = .ok (.newarray .int, 2) := by decide +kernel
theorem dJ7_copyOf_59c91_17 : decode cJ7_copyOf_59c91 17 = .ok (.astore_n 2, 1) := by decide +kernel
theorem dJ7_copyOf_59c91_18 : decode cJ7_copyOf_59c91 18 = .ok (.aload_n 0, 1) := by decide +kernel
theorem dJ7_copyOf_59c91_19 : decode cJ7_copyOf_59c91 19 = .ok (.iconst 0, 1) := by decide +kernel
theorem dJ7_copyOf_59c91_20 : decode cJ7_copyOf_59c91 20 = .ok (.aload_n 2, 1) := by decide +kernel
theorem dJ7_copyOf_59c91_21 : decode cJ7_copyOf_59c91 21 = .ok (.iconst 0, 1) := by decide +kernel
theorem dJ7_copyOf_59c91_22 : decode cJ7_copyOf_59c91 22 = .ok (.aload_n 0, 1) := by decide +kernel
theorem dJ7_copyOf_59c91_23 : decode cJ7_copyOf_59c91 23 = .ok (.arraylength, 1) := by decide +kernel
theorem dJ7_copyOf_59c91_24 : decode cJ7_copyOf_59c91 24 = .ok (.iload_n 1, 1) := by decide +kernel
theorem dJ7_copyOf_59c91_25 : decode cJ7_copyOf_59c91 25 = .ok (.invokestatic 304, 3) := by decide +kernel
theorem dJ7_copyOf_59c91_28 : decode cJ7_copyOf_59c91 28 = .ok (.invokestatic 150, 3) := by decide +kernel
theorem dJ7_copyOf_59c91_31 : decode cJ7_copyOf_59c91 31 = .ok (.aload_n 2, 1) := by decide +kernel
theorem dJ7_copyOf_59c91_32 : decode cJ7_copyOf_59c91 32 = .ok (.areturn, 1) := by decide +kernel
theorem dJ7_copyOf_c38d5_0 : decode cJ7_copyOf_c38d5 0 = .ok (.iload_n 1, 1) := by decide +kernel
theorem dJ7_copyOf_c38d5_1 : decode cJ7_copyOf_c38d5 1 = .ok (.aload_n 0, 1) := by decide +kernel
theorem dJ7_copyOf_c38d5_2 : decode cJ7_copyOf_c38d5 2 = .ok (.arraylength, 1) := by decide +kernel
theorem dJ7_copyOf_c38d5_3 : decode cJ7_copyOf_c38d5 3 = .ok (.if_icmp .ne 11, 3) := by decide +kernel
theorem dJ7_copyOf_c38d5_6 : decode cJ7_copyOf_c38d5 6 = .ok (.aload_n 0, 1) := by decide +kernel
theorem dJ7_copyOf_c38d5_7 : decode cJ7_copyOf_c38d5 7 = .ok (.invokevirtual 319, 3) := by decide +kernel
theorem dJ7_copyOf_c38d5_10 : decode cJ7_copyOf_c38d5 10 = .ok (.checkcast 320, 3) := by decide +kernel
theorem dJ7_copyOf_c38d5_13 : decode cJ7_copyOf_c38d5 13 = .ok (.areturn, 1) := by decide +kernel
theorem dJ7_copyOf_c38d5_14 : decode cJ7_copyOf_c38d5 14 = .ok (.iload_n 1, 1) := by decide +kernel
theorem dJ7_copyOf_c38d5_15 : decode cJ7_copyOf_c38d5 15 = .ok (.newarray .long, 2) := by decide +kernel
theorem dJ7_copyOf_c38d5_17 : decode cJ7_copyOf_c38d5 17 = .ok (.astore_n 2, 1) := by decide +kernel
theorem dJ7_copyOf_c38d5_18 : decode cJ7_copyOf_c38d5 18 = .ok (.aload_n 0, 1) := by decide +kernel
theorem dJ7_copyOf_c38d5_19 : decode cJ7_copyOf_c38d5 19 = .ok (.iconst 0, 1) := by decide +kernel
theorem dJ7_copyOf_c38d5_20 : decode cJ7_copyOf_c38d5 20 = .ok (.aload_n 2, 1) := by decide +kernel
theorem dJ7_copyOf_c38d5_21 : decode cJ7_copyOf_c38d5 21 = .ok (.iconst 0, 1) := by decide +kernel
theorem dJ7_copyOf_c38d5_22 : decode cJ7_copyOf_c38d5 22 = .ok (.aload_n 0, 1) := by decide +kernel
theorem dJ7_copyOf_c38d5_23 : decode cJ7_copyOf_c38d5 23 = .ok (.arraylength, 1) := by decide +kernel
theorem dJ7_copyOf_c38d5_24 : decode cJ7_copyOf_c38d5 24 = .ok (.iload_n 1, 1) := by decide +kernel
theorem dJ7_copyOf_c38d5_25 : decode cJ7_copyOf_c38d5 25 = .ok (.invokestatic 304, 3) := by decide +kernel
theorem dJ7_copyOf_c38d5_28 : decode cJ7_copyOf_c38d5 28 = .ok (.invokestatic 150, 3) := by decide +kernel
theorem dJ7_copyOf_c38d5_31 : decode cJ7_copyOf_c38d5 31 = .ok (.aload_n 2, 1) := by decide +kernel
theorem dJ7_copyOf_c38d5_32 : decode cJ7_copyOf_c38d5 32 = .ok (.areturn, 1) := by decide +kernel
theorem dL_law_0 : decode cL_law 0 = .ok (.new 7, 3) := by decide +kernel
theorem dL_law_3 : decode cL_law 3 = .ok (.dup, 1) := by decide +kernel
theorem dL_law_4 : decode cL_law 4 = .ok (.invokespecial 9, 3) := by decide +kernel
theorem dL_law_7 : decode cL_law 7 = .ok (.astore_n 1, 1) := by decide +kernel
theorem dL_law_8 : decode cL_law 8 = .ok (.new 10, 3) := by decide +kernel
theorem dL_law_11 : decode cL_law 11 = .ok (.dup, 1) := by decide +kernel
theorem dL_law_12 : decode cL_law 12 = .ok (.invokespecial 12, 3) := by decide +kernel
theorem dL_law_15 : decode cL_law 15 = .ok (.astore_n 2, 1) := by decide +kernel
theorem dL_law_16 : decode cL_law 16 = .ok (.iconst 0, 1) := by decide +kernel
theorem dL_law_17 : decode cL_law 17 = .ok (.istore_n 3, 1) := by decide +kernel
theorem dL_law_18 : decode cL_law 18 = .ok (.iload_n 3, 1) := by decide +kernel
theorem dL_law_19 : decode cL_law 19 = .ok (.aload_n 0, 1) := by decide +kernel
theorem dL_law_20 : decode cL_law 20 = .ok (.arraylength, 1) := by decide +kernel
theorem dL_law_21 : decode cL_law 21 = .ok (.iconst 5, 1) := by decide +kernel
theorem dL_law_22 : decode cL_law 22 = .ok (.isub, 1) := by decide +kernel
theorem dL_law_23 : decode cL_law 23 = .ok (.if_icmp .gt 480, 3) := by decide +kernel
theorem dL_law_26 : decode cL_law 26 = .ok (.aload_n 0, 1) := by decide +kernel
theorem dL_law_27 : decode cL_law 27 = .ok (.iload_n 3, 1) := by decide +kernel
theorem dL_law_28 : decode cL_law 28 = .ok (.iaload, 1) := by decide +kernel
theorem dL_law_29 : decode cL_law 29 = .ok (.bipush 15, 2) := by decide +kernel
theorem dL_law_31 : decode cL_law 31 = .ok (.iand, 1) := by decide +kernel
theorem dL_law_32 : decode cL_law 32 = .ok (.tableswitch 465 0 13 #[72, 95, 118, 141, 154, 167, 190, 223, 246, 279, 302, 335, 359, 412], 72) := by decide +kernel
theorem dL_law_104 : decode cL_law 104 = .ok (.aload_n 1, 1) := by decide +kernel
theorem dL_law_105 : decode cL_law 105 = .ok (.aload_n 0, 1) := by decide +kernel
theorem dL_law_106 : decode cL_law 106 = .ok (.iload_n 3, 1) := by decide +kernel
theorem dL_law_107 : decode cL_law 107 = .ok (.iconst 1, 1) := by decide +kernel
theorem dL_law_108 : decode cL_law 108 = .ok (.iadd, 1) := by decide +kernel
theorem dL_law_109 : decode cL_law 109 = .ok (.iaload, 1) := by decide +kernel
theorem dL_law_110 : decode cL_law 110 = .ok (.invokevirtual 13, 3) := by decide +kernel
theorem dL_law_113 : decode cL_law 113 = .ok (.aload_n 2, 1) := by decide +kernel
theorem dL_law_114 : decode cL_law 114 = .ok (.aload_n 0, 1) := by decide +kernel
theorem dL_law_115 : decode cL_law 115 = .ok (.iload_n 3, 1) := by decide +kernel
theorem dL_law_116 : decode cL_law 116 = .ok (.iconst 1, 1) := by decide +kernel
theorem dL_law_117 : decode cL_law 117 = .ok (.iadd, 1) := by decide +kernel
theorem dL_law_118 : decode cL_law 118 = .ok (.iaload, 1) := by decide +kernel
theorem dL_law_119 : decode cL_law 119 = .ok (.invokevirtual 17, 3) := by decide +kernel
theorem dL_law_122 : decode cL_law 122 = .ok (.if_icmp .eq 375, 3) := by decide +kernel
theorem dL_law_125 : decode cL_law 125 = .ok (.iconst 0, 1) := by decide +kernel
theorem dL_law_126 : decode cL_law 126 = .ok (.ireturn, 1) := by decide +kernel
theorem dL_law_127 : decode cL_law 127 = .ok (.aload_n 1, 1) := by decide +kernel
theorem dL_law_128 : decode cL_law 128 = .ok (.aload_n 0, 1) := by decide +kernel
theorem dL_law_129 : decode cL_law 129 = .ok (.iload_n 3, 1) := by decide +kernel
theorem dL_law_130 : decode cL_law 130 = .ok (.iconst 1, 1) := by decide +kernel
theorem dL_law_131 : decode cL_law 131 = .ok (.iadd, 1) := by decide +kernel
theorem dL_law_132 : decode cL_law 132 = .ok (.iaload, 1) := by decide +kernel
theorem dL_law_133 : decode cL_law 133 = .ok (.invokevirtual 18, 3) := by decide +kernel
theorem dL_law_136 : decode cL_law 136 = .ok (.aload_n 2, 1) := by decide +kernel
theorem dL_law_137 : decode cL_law 137 = .ok (.aload_n 0, 1) := by decide +kernel
theorem dL_law_138 : decode cL_law 138 = .ok (.iload_n 3, 1) := by decide +kernel
theorem dL_law_139 : decode cL_law 139 = .ok (.iconst 1, 1) := by decide +kernel
theorem dL_law_140 : decode cL_law 140 = .ok (.iadd, 1) := by decide +kernel
theorem dL_law_141 : decode cL_law 141 = .ok (.iaload, 1) := by decide +kernel
theorem dL_law_142 : decode cL_law 142 = .ok (.invokevirtual 21, 3) := by decide +kernel
theorem dL_law_145 : decode cL_law 145 = .ok (.if_icmp .eq 352, 3) := by decide +kernel
theorem dL_law_148 : decode cL_law 148 = .ok (.iconst 0, 1) := by decide +kernel
theorem dL_law_149 : decode cL_law 149 = .ok (.ireturn, 1) := by decide +kernel
theorem dL_law_150 : decode cL_law 150 = .ok (.aload_n 1, 1) := by decide +kernel
theorem dL_law_151 : decode cL_law 151 = .ok (.aload_n 0, 1) := by decide +kernel
theorem dL_law_152 : decode cL_law 152 = .ok (.iload_n 3, 1) := by decide +kernel
theorem dL_law_153 : decode cL_law 153 = .ok (.iconst 1, 1) := by decide +kernel
theorem dL_law_154 : decode cL_law 154 = .ok (.iadd, 1) := by decide +kernel
theorem dL_law_155 : decode cL_law 155 = .ok (.iaload, 1) := by decide +kernel
theorem dL_law_156 : decode cL_law 156 = .ok (.invokevirtual 22, 3) := by decide +kernel
theorem dL_law_159 : decode cL_law 159 = .ok (.aload_n 2, 1) := by decide +kernel
theorem dL_law_160 : decode cL_law 160 = .ok (.aload_n 0, 1) := by decide +kernel
theorem dL_law_161 : decode cL_law 161 = .ok (.iload_n 3, 1) := by decide +kernel
theorem dL_law_162 : decode cL_law 162 = .ok (.iconst 1, 1) := by decide +kernel
theorem dL_law_163 : decode cL_law 163 = .ok (.iadd, 1) := by decide +kernel
theorem dL_law_164 : decode cL_law 164 = .ok (.iaload, 1) := by decide +kernel
theorem dL_law_165 : decode cL_law 165 = .ok (.invokevirtual 25, 3) := by decide +kernel
theorem dL_law_168 : decode cL_law 168 = .ok (.if_icmp .eq 329, 3) := by decide +kernel
theorem dL_law_171 : decode cL_law 171 = .ok (.iconst 0, 1) := by decide +kernel
theorem dL_law_172 : decode cL_law 172 = .ok (.ireturn, 1) := by decide +kernel
theorem dL_law_173 : decode cL_law 173 = .ok (.aload_n 1, 1) := by decide +kernel
theorem dL_law_174 : decode cL_law 174 = .ok (.invokevirtual 26, 3) := by decide +kernel
theorem dL_law_177 : decode cL_law 177 = .ok (.aload_n 2, 1) := by decide +kernel
theorem dL_law_178 : decode cL_law 178 = .ok (.invokevirtual 30, 3) := by decide +kernel
theorem dL_law_181 : decode cL_law 181 = .ok (.if_icmp .eq 316, 3) := by decide +kernel
theorem dL_law_184 : decode cL_law 184 = .ok (.iconst 0, 1) := by decide +kernel
theorem dL_law_185 : decode cL_law 185 = .ok (.ireturn, 1) := by decide +kernel
theorem dL_law_186 : decode cL_law 186 = .ok (.aload_n 1, 1) := by decide +kernel
theorem dL_law_187 : decode cL_law 187 = .ok (.invokevirtual 31, 3) := by decide +kernel
theorem dL_law_190 : decode cL_law 190 = .ok (.aload_n 2, 1) := by decide +kernel
theorem dL_law_191 : decode cL_law 191 = .ok (.invokevirtual 34, 3) := by decide +kernel
theorem dL_law_194 : decode cL_law 194 = .ok (.if_icmp .eq 303, 3) := by decide +kernel
theorem dL_law_197 : decode cL_law 197 = .ok (.iconst 0, 1) := by decide +kernel
theorem dL_law_198 : decode cL_law 198 = .ok (.ireturn, 1) := by decide +kernel
theorem dL_law_199 : decode cL_law 199 = .ok (.aload_n 1, 1) := by decide +kernel
theorem dL_law_200 : decode cL_law 200 = .ok (.aload_n 0, 1) := by decide +kernel
theorem dL_law_201 : decode cL_law 201 = .ok (.iload_n 3, 1) := by decide +kernel
theorem dL_law_202 : decode cL_law 202 = .ok (.iconst 1, 1) := by decide +kernel
theorem dL_law_203 : decode cL_law 203 = .ok (.iadd, 1) := by decide +kernel
theorem dL_law_204 : decode cL_law 204 = .ok (.iaload, 1) := by decide +kernel
theorem dL_law_205 : decode cL_law 205 = .ok (.invokevirtual 35, 3) := by decide +kernel
theorem dL_law_208 : decode cL_law 208 = .ok (.aload_n 2, 1) := by decide +kernel
theorem dL_law_209 : decode cL_law 209 = .ok (.aload_n 0, 1) := by decide +kernel
theorem dL_law_210 : decode cL_law 210 = .ok (.iload_n 3, 1) := by decide +kernel
theorem dL_law_211 : decode cL_law 211 = .ok (.iconst 1, 1) := by decide +kernel
theorem dL_law_212 : decode cL_law 212 = .ok (.iadd, 1) := by decide +kernel
theorem dL_law_213 : decode cL_law 213 = .ok (.iaload, 1) := by decide +kernel
theorem dL_law_214 : decode cL_law 214 = .ok (.invokevirtual 38, 3) := by decide +kernel
theorem dL_law_217 : decode cL_law 217 = .ok (.if_icmp .eq 280, 3) := by decide +kernel
theorem dL_law_220 : decode cL_law 220 = .ok (.iconst 0, 1) := by decide +kernel
theorem dL_law_221 : decode cL_law 221 = .ok (.ireturn, 1) := by decide +kernel
theorem dL_law_222 : decode cL_law 222 = .ok (.aload_n 1, 1) := by decide +kernel
theorem dL_law_223 : decode cL_law 223 = .ok (.aload_n 0, 1) := by decide +kernel
theorem dL_law_224 : decode cL_law 224 = .ok (.iload_n 3, 1) := by decide +kernel
theorem dL_law_225 : decode cL_law 225 = .ok (.iconst 1, 1) := by decide +kernel
theorem dL_law_226 : decode cL_law 226 = .ok (.iadd, 1) := by decide +kernel
theorem dL_law_227 : decode cL_law 227 = .ok (.iaload, 1) := by decide +kernel
theorem dL_law_228 : decode cL_law 228 = .ok (.aload_n 0, 1) := by decide +kernel
theorem dL_law_229 : decode cL_law 229 = .ok (.iload_n 3, 1) := by decide +kernel
theorem dL_law_230 : decode cL_law 230 = .ok (.iconst 2, 1) := by decide +kernel
theorem dL_law_231 : decode cL_law 231 = .ok (.iadd, 1) := by decide +kernel
theorem dL_law_232 : decode cL_law 232 = .ok (.iaload, 1) := by decide +kernel
theorem dL_law_233 : decode cL_law 233 = .ok (.invokevirtual 39, 3) := by decide +kernel
theorem dL_law_236 : decode cL_law 236 = .ok (.aload_n 2, 1) := by decide +kernel
theorem dL_law_237 : decode cL_law 237 = .ok (.aload_n 0, 1) := by decide +kernel
theorem dL_law_238 : decode cL_law 238 = .ok (.iload_n 3, 1) := by decide +kernel
theorem dL_law_239 : decode cL_law 239 = .ok (.iconst 1, 1) := by decide +kernel
theorem dL_law_240 : decode cL_law 240 = .ok (.iadd, 1) := by decide +kernel
theorem dL_law_241 : decode cL_law 241 = .ok (.iaload, 1) := by decide +kernel
theorem dL_law_242 : decode cL_law 242 = .ok (.aload_n 0, 1) := by decide +kernel
theorem dL_law_243 : decode cL_law 243 = .ok (.iload_n 3, 1) := by decide +kernel
theorem dL_law_244 : decode cL_law 244 = .ok (.iconst 2, 1) := by decide +kernel
theorem dL_law_245 : decode cL_law 245 = .ok (.iadd, 1) := by decide +kernel
theorem dL_law_246 : decode cL_law 246 = .ok (.iaload, 1) := by decide +kernel
theorem dL_law_247 : decode cL_law 247 = .ok (.invokevirtual 43, 3) := by decide +kernel
theorem dL_law_250 : decode cL_law 250 = .ok (.if_icmp .eq 247, 3) := by decide +kernel
theorem dL_law_253 : decode cL_law 253 = .ok (.iconst 0, 1) := by decide +kernel
theorem dL_law_254 : decode cL_law 254 = .ok (.ireturn, 1) := by decide +kernel
theorem dL_law_255 : decode cL_law 255 = .ok (.aload_n 1, 1) := by decide +kernel
theorem dL_law_256 : decode cL_law 256 = .ok (.aload_n 0, 1) := by decide +kernel
theorem dL_law_257 : decode cL_law 257 = .ok (.iload_n 3, 1) := by decide +kernel
theorem dL_law_258 : decode cL_law 258 = .ok (.iconst 1, 1) := by decide +kernel
theorem dL_law_259 : decode cL_law 259 = .ok (.iadd, 1) := by decide +kernel
theorem dL_law_260 : decode cL_law 260 = .ok (.iaload, 1) := by decide +kernel
theorem dL_law_261 : decode cL_law 261 = .ok (.invokevirtual 44, 3) := by decide +kernel
theorem dL_law_264 : decode cL_law 264 = .ok (.aload_n 2, 1) := by decide +kernel
theorem dL_law_265 : decode cL_law 265 = .ok (.aload_n 0, 1) := by decide +kernel
theorem dL_law_266 : decode cL_law 266 = .ok (.iload_n 3, 1) := by decide +kernel
theorem dL_law_267 : decode cL_law 267 = .ok (.iconst 1, 1) := by decide +kernel
theorem dL_law_268 : decode cL_law 268 = .ok (.iadd, 1) := by decide +kernel
theorem dL_law_269 : decode cL_law 269 = .ok (.iaload, 1) := by decide +kernel
theorem dL_law_270 : decode cL_law 270 = .ok (.invokevirtual 47, 3) := by decide +kernel
theorem dL_law_273 : decode cL_law 273 = .ok (.if_icmp .eq 224, 3) := by decide +kernel
theorem dL_law_276 : decode cL_law 276 = .ok (.iconst 0, 1) := by decide +kernel
theorem dL_law_277 : decode cL_law 277 = .ok (.ireturn, 1) := by decide +kernel
theorem dL_law_278 : decode cL_law 278 = .ok (.aload_n 1, 1) := by decide +kernel
theorem dL_law_279 : decode cL_law 279 = .ok (.aload_n 0, 1) := by decide +kernel
theorem dL_law_280 : decode cL_law 280 = .ok (.iload_n 3, 1) := by decide +kernel
theorem dL_law_281 : decode cL_law 281 = .ok (.iconst 1, 1) := by decide +kernel
theorem dL_law_282 : decode cL_law 282 = .ok (.iadd, 1) := by decide +kernel
theorem dL_law_283 : decode cL_law 283 = .ok (.iaload, 1) := by decide +kernel
theorem dL_law_284 : decode cL_law 284 = .ok (.aload_n 0, 1) := by decide +kernel
theorem dL_law_285 : decode cL_law 285 = .ok (.iload_n 3, 1) := by decide +kernel
theorem dL_law_286 : decode cL_law 286 = .ok (.iconst 2, 1) := by decide +kernel
theorem dL_law_287 : decode cL_law 287 = .ok (.iadd, 1) := by decide +kernel
theorem dL_law_288 : decode cL_law 288 = .ok (.iaload, 1) := by decide +kernel
theorem dL_law_289 : decode cL_law 289 = .ok (.invokevirtual 48, 3) := by decide +kernel
theorem dL_law_292 : decode cL_law 292 = .ok (.aload_n 2, 1) := by decide +kernel
theorem dL_law_293 : decode cL_law 293 = .ok (.aload_n 0, 1) := by decide +kernel
theorem dL_law_294 : decode cL_law 294 = .ok (.iload_n 3, 1) := by decide +kernel
theorem dL_law_295 : decode cL_law 295 = .ok (.iconst 1, 1) := by decide +kernel
theorem dL_law_296 : decode cL_law 296 = .ok (.iadd, 1) := by decide +kernel
theorem dL_law_297 : decode cL_law 297 = .ok (.iaload, 1) := by decide +kernel
theorem dL_law_298 : decode cL_law 298 = .ok (.aload_n 0, 1) := by decide +kernel
theorem dL_law_299 : decode cL_law 299 = .ok (.iload_n 3, 1) := by decide +kernel
theorem dL_law_300 : decode cL_law 300 = .ok (.iconst 2, 1) := by decide +kernel
theorem dL_law_301 : decode cL_law 301 = .ok (.iadd, 1) := by decide +kernel
theorem dL_law_302 : decode cL_law 302 = .ok (.iaload, 1) := by decide +kernel
theorem dL_law_303 : decode cL_law 303 = .ok (.invokevirtual 52, 3) := by decide +kernel
theorem dL_law_306 : decode cL_law 306 = .ok (.if_icmp .eq 191, 3) := by decide +kernel
theorem dL_law_309 : decode cL_law 309 = .ok (.iconst 0, 1) := by decide +kernel
theorem dL_law_310 : decode cL_law 310 = .ok (.ireturn, 1) := by decide +kernel
theorem dL_law_311 : decode cL_law 311 = .ok (.aload_n 1, 1) := by decide +kernel
theorem dL_law_312 : decode cL_law 312 = .ok (.aload_n 0, 1) := by decide +kernel
theorem dL_law_313 : decode cL_law 313 = .ok (.iload_n 3, 1) := by decide +kernel
theorem dL_law_314 : decode cL_law 314 = .ok (.iconst 1, 1) := by decide +kernel
theorem dL_law_315 : decode cL_law 315 = .ok (.iadd, 1) := by decide +kernel
theorem dL_law_316 : decode cL_law 316 = .ok (.iaload, 1) := by decide +kernel
theorem dL_law_317 : decode cL_law 317 = .ok (.invokevirtual 53, 3) := by decide +kernel
theorem dL_law_320 : decode cL_law 320 = .ok (.aload_n 2, 1) := by decide +kernel
theorem dL_law_321 : decode cL_law 321 = .ok (.aload_n 0, 1) := by decide +kernel
theorem dL_law_322 : decode cL_law 322 = .ok (.iload_n 3, 1) := by decide +kernel
theorem dL_law_323 : decode cL_law 323 = .ok (.iconst 1, 1) := by decide +kernel
theorem dL_law_324 : decode cL_law 324 = .ok (.iadd, 1) := by decide +kernel
theorem dL_law_325 : decode cL_law 325 = .ok (.iaload, 1) := by decide +kernel
theorem dL_law_326 : decode cL_law 326 = .ok (.invokevirtual 57, 3) := by decide +kernel
theorem dL_law_329 : decode cL_law 329 = .ok (.if_icmp .eq 168, 3) := by decide +kernel
theorem dL_law_332 : decode cL_law 332 = .ok (.iconst 0, 1) := by decide +kernel
theorem dL_law_333 : decode cL_law 333 = .ok (.ireturn, 1) := by decide +kernel
theorem dL_law_334 : decode cL_law 334 = .ok (.aload_n 1, 1) := by decide +kernel
theorem dL_law_335 : decode cL_law 335 = .ok (.aload_n 0, 1) := by decide +kernel
theorem dL_law_336 : decode cL_law 336 = .ok (.iload_n 3, 1) := by decide +kernel
theorem dL_law_337 : decode cL_law 337 = .ok (.iconst 1, 1) := by decide +kernel
theorem dL_law_338 : decode cL_law 338 = .ok (.iadd, 1) := by decide +kernel
theorem dL_law_339 : decode cL_law 339 = .ok (.iaload, 1) := by decide +kernel
theorem dL_law_340 : decode cL_law 340 = .ok (.aload_n 0, 1) := by decide +kernel
theorem dL_law_341 : decode cL_law 341 = .ok (.iload_n 3, 1) := by decide +kernel
theorem dL_law_342 : decode cL_law 342 = .ok (.iconst 2, 1) := by decide +kernel
theorem dL_law_343 : decode cL_law 343 = .ok (.iadd, 1) := by decide +kernel
theorem dL_law_344 : decode cL_law 344 = .ok (.iaload, 1) := by decide +kernel
theorem dL_law_345 : decode cL_law 345 = .ok (.invokevirtual 58, 3) := by decide +kernel
theorem dL_law_348 : decode cL_law 348 = .ok (.aload_n 2, 1) := by decide +kernel
theorem dL_law_349 : decode cL_law 349 = .ok (.aload_n 0, 1) := by decide +kernel
theorem dL_law_350 : decode cL_law 350 = .ok (.iload_n 3, 1) := by decide +kernel
theorem dL_law_351 : decode cL_law 351 = .ok (.iconst 1, 1) := by decide +kernel
theorem dL_law_352 : decode cL_law 352 = .ok (.iadd, 1) := by decide +kernel
theorem dL_law_353 : decode cL_law 353 = .ok (.iaload, 1) := by decide +kernel
theorem dL_law_354 : decode cL_law 354 = .ok (.aload_n 0, 1) := by decide +kernel
theorem dL_law_355 : decode cL_law 355 = .ok (.iload_n 3, 1) := by decide +kernel
theorem dL_law_356 : decode cL_law 356 = .ok (.iconst 2, 1) := by decide +kernel
theorem dL_law_357 : decode cL_law 357 = .ok (.iadd, 1) := by decide +kernel
theorem dL_law_358 : decode cL_law 358 = .ok (.iaload, 1) := by decide +kernel
theorem dL_law_359 : decode cL_law 359 = .ok (.invokevirtual 61, 3) := by decide +kernel
theorem dL_law_362 : decode cL_law 362 = .ok (.if_icmp .eq 135, 3) := by decide +kernel
theorem dL_law_365 : decode cL_law 365 = .ok (.iconst 0, 1) := by decide +kernel
theorem dL_law_366 : decode cL_law 366 = .ok (.ireturn, 1) := by decide +kernel
theorem dL_law_367 : decode cL_law 367 = .ok (.aload_n 1, 1) := by decide +kernel
theorem dL_law_368 : decode cL_law 368 = .ok (.aload_n 0, 1) := by decide +kernel
theorem dL_law_369 : decode cL_law 369 = .ok (.iload_n 3, 1) := by decide +kernel
theorem dL_law_370 : decode cL_law 370 = .ok (.iconst 1, 1) := by decide +kernel
theorem dL_law_371 : decode cL_law 371 = .ok (.iadd, 1) := by decide +kernel
theorem dL_law_372 : decode cL_law 372 = .ok (.iaload, 1) := by decide +kernel
theorem dL_law_373 : decode cL_law 373 = .ok (.invokevirtual 62, 3) := by decide +kernel
theorem dL_law_376 : decode cL_law 376 = .ok (.aload_n 2, 1) := by decide +kernel
theorem dL_law_377 : decode cL_law 377 = .ok (.aload_n 0, 1) := by decide +kernel
theorem dL_law_378 : decode cL_law 378 = .ok (.iload_n 3, 1) := by decide +kernel
theorem dL_law_379 : decode cL_law 379 = .ok (.iconst 1, 1) := by decide +kernel
theorem dL_law_380 : decode cL_law 380 = .ok (.iadd, 1) := by decide +kernel
theorem dL_law_381 : decode cL_law 381 = .ok (.iaload, 1) := by decide +kernel
theorem dL_law_382 : decode cL_law 382 = .ok (.invokevirtual 66, 3) := by decide +kernel
theorem dL_law_385 : decode cL_law 385 = .ok (.lcmp, 1) := by decide +kernel
theorem dL_law_386 : decode cL_law 386 = .ok (.ifCond .eq 111, 3) := by decide +kernel
theorem dL_law_389 : decode cL_law 389 = .ok (.iconst 0, 1) := by decide +kernel
theorem dL_law_390 : decode cL_law 390 = .ok (.ireturn, 1) := by decide +kernel
theorem dL_law_391 : decode cL_law 391 = .ok (.aload_n 1, 1) := by decide +kernel
theorem dL_law_392 : decode cL_law 392 = .ok (.aload_n 0, 1) := by decide +kernel
theorem dL_law_393 : decode cL_law 393 = .ok (.iload_n 3, 1) := by decide +kernel
theorem dL_law_394 : decode cL_law 394 = .ok (.iconst 1, 1) := by decide +kernel
theorem dL_law_395 : decode cL_law 395 = .ok (.iadd, 1) := by decide +kernel
theorem dL_law_396 : decode cL_law 396 = .ok (.iaload, 1) := by decide +kernel
theorem dL_law_397 : decode cL_law 397 = .ok (.aload_n 0, 1) := by decide +kernel
theorem dL_law_398 : decode cL_law 398 = .ok (.iload_n 3, 1) := by decide +kernel
theorem dL_law_399 : decode cL_law 399 = .ok (.iconst 2, 1) := by decide +kernel
theorem dL_law_400 : decode cL_law 400 = .ok (.iadd, 1) := by decide +kernel
theorem dL_law_401 : decode cL_law 401 = .ok (.iaload, 1) := by decide +kernel
theorem dL_law_402 : decode cL_law 402 = .ok (.aload_n 0, 1) := by decide +kernel
theorem dL_law_403 : decode cL_law 403 = .ok (.iload_n 3, 1) := by decide +kernel
theorem dL_law_404 : decode cL_law 404 = .ok (.iconst 3, 1) := by decide +kernel
theorem dL_law_405 : decode cL_law 405 = .ok (.iadd, 1) := by decide +kernel
theorem dL_law_406 : decode cL_law 406 = .ok (.iaload, 1) := by decide +kernel
theorem dL_law_407 : decode cL_law 407 = .ok (.aload_n 0, 1) := by decide +kernel
theorem dL_law_408 : decode cL_law 408 = .ok (.iload_n 3, 1) := by decide +kernel
theorem dL_law_409 : decode cL_law 409 = .ok (.iconst 4, 1) := by decide +kernel
theorem dL_law_410 : decode cL_law 410 = .ok (.iadd, 1) := by decide +kernel
theorem dL_law_411 : decode cL_law 411 = .ok (.iaload, 1) := by decide +kernel
theorem dL_law_412 : decode cL_law 412 = .ok (.invokevirtual 67, 3) := by decide +kernel
theorem dL_law_415 : decode cL_law 415 = .ok (.aload_n 2, 1) := by decide +kernel
theorem dL_law_416 : decode cL_law 416 = .ok (.aload_n 0, 1) := by decide +kernel
theorem dL_law_417 : decode cL_law 417 = .ok (.iload_n 3, 1) := by decide +kernel
theorem dL_law_418 : decode cL_law 418 = .ok (.iconst 1, 1) := by decide +kernel
theorem dL_law_419 : decode cL_law 419 = .ok (.iadd, 1) := by decide +kernel
theorem dL_law_420 : decode cL_law 420 = .ok (.iaload, 1) := by decide +kernel
theorem dL_law_421 : decode cL_law 421 = .ok (.aload_n 0, 1) := by decide +kernel
theorem dL_law_422 : decode cL_law 422 = .ok (.iload_n 3, 1) := by decide +kernel
theorem dL_law_423 : decode cL_law 423 = .ok (.iconst 2, 1) := by decide +kernel
theorem dL_law_424 : decode cL_law 424 = .ok (.iadd, 1) := by decide +kernel
theorem dL_law_425 : decode cL_law 425 = .ok (.iaload, 1) := by decide +kernel
theorem dL_law_426 : decode cL_law 426 = .ok (.aload_n 0, 1) := by decide +kernel
theorem dL_law_427 : decode cL_law 427 = .ok (.iload_n 3, 1) := by decide +kernel
theorem dL_law_428 : decode cL_law 428 = .ok (.iconst 3, 1) := by decide +kernel
theorem dL_law_429 : decode cL_law 429 = .ok (.iadd, 1) := by decide +kernel
theorem dL_law_430 : decode cL_law 430 = .ok (.iaload, 1) := by decide +kernel
theorem dL_law_431 : decode cL_law 431 = .ok (.aload_n 0, 1) := by decide +kernel
theorem dL_law_432 : decode cL_law 432 = .ok (.iload_n 3, 1) := by decide +kernel
theorem dL_law_433 : decode cL_law 433 = .ok (.iconst 4, 1) := by decide +kernel
theorem dL_law_434 : decode cL_law 434 = .ok (.iadd, 1) := by decide +kernel
theorem dL_law_435 : decode cL_law 435 = .ok (.iaload, 1) := by decide +kernel
theorem dL_law_436 : decode cL_law 436 = .ok (.invokevirtual 71, 3) := by decide +kernel
theorem dL_law_439 : decode cL_law 439 = .ok (.if_icmp .eq 58, 3) := by decide +kernel
theorem dL_law_442 : decode cL_law 442 = .ok (.iconst 0, 1) := by decide +kernel
theorem dL_law_443 : decode cL_law 443 = .ok (.ireturn, 1) := by decide +kernel
theorem dL_law_444 : decode cL_law 444 = .ok (.aload_n 1, 1) := by decide +kernel
theorem dL_law_445 : decode cL_law 445 = .ok (.aload_n 0, 1) := by decide +kernel
theorem dL_law_446 : decode cL_law 446 = .ok (.iload_n 3, 1) := by decide +kernel
theorem dL_law_447 : decode cL_law 447 = .ok (.iconst 1, 1) := by decide +kernel
theorem dL_law_448 : decode cL_law 448 = .ok (.iadd, 1) := by decide +kernel
theorem dL_law_449 : decode cL_law 449 = .ok (.iaload, 1) := by decide +kernel
theorem dL_law_450 : decode cL_law 450 = .ok (.aload_n 0, 1) := by decide +kernel
theorem dL_law_451 : decode cL_law 451 = .ok (.iload_n 3, 1) := by decide +kernel
theorem dL_law_452 : decode cL_law 452 = .ok (.iconst 2, 1) := by decide +kernel
theorem dL_law_453 : decode cL_law 453 = .ok (.iadd, 1) := by decide +kernel
theorem dL_law_454 : decode cL_law 454 = .ok (.iaload, 1) := by decide +kernel
theorem dL_law_455 : decode cL_law 455 = .ok (.aload_n 0, 1) := by decide +kernel
theorem dL_law_456 : decode cL_law 456 = .ok (.iload_n 3, 1) := by decide +kernel
theorem dL_law_457 : decode cL_law 457 = .ok (.iconst 3, 1) := by decide +kernel
theorem dL_law_458 : decode cL_law 458 = .ok (.iadd, 1) := by decide +kernel
theorem dL_law_459 : decode cL_law 459 = .ok (.iaload, 1) := by decide +kernel
theorem dL_law_460 : decode cL_law 460 = .ok (.aload_n 0, 1) := by decide +kernel
theorem dL_law_461 : decode cL_law 461 = .ok (.iload_n 3, 1) := by decide +kernel
theorem dL_law_462 : decode cL_law 462 = .ok (.iconst 4, 1) := by decide +kernel
theorem dL_law_463 : decode cL_law 463 = .ok (.iadd, 1) := by decide +kernel
theorem dL_law_464 : decode cL_law 464 = .ok (.iaload, 1) := by decide +kernel
theorem dL_law_465 : decode cL_law 465 = .ok (.invokevirtual 72, 3) := by decide +kernel
theorem dL_law_468 : decode cL_law 468 = .ok (.aload_n 2, 1) := by decide +kernel
theorem dL_law_469 : decode cL_law 469 = .ok (.aload_n 0, 1) := by decide +kernel
theorem dL_law_470 : decode cL_law 470 = .ok (.iload_n 3, 1) := by decide +kernel
theorem dL_law_471 : decode cL_law 471 = .ok (.iconst 1, 1) := by decide +kernel
theorem dL_law_472 : decode cL_law 472 = .ok (.iadd, 1) := by decide +kernel
theorem dL_law_473 : decode cL_law 473 = .ok (.iaload, 1) := by decide +kernel
theorem dL_law_474 : decode cL_law 474 = .ok (.aload_n 0, 1) := by decide +kernel
theorem dL_law_475 : decode cL_law 475 = .ok (.iload_n 3, 1) := by decide +kernel
theorem dL_law_476 : decode cL_law 476 = .ok (.iconst 2, 1) := by decide +kernel
theorem dL_law_477 : decode cL_law 477 = .ok (.iadd, 1) := by decide +kernel
theorem dL_law_478 : decode cL_law 478 = .ok (.iaload, 1) := by decide +kernel
theorem dL_law_479 : decode cL_law 479 = .ok (.aload_n 0, 1) := by decide +kernel
theorem dL_law_480 : decode cL_law 480 = .ok (.iload_n 3, 1) := by decide +kernel
theorem dL_law_481 : decode cL_law 481 = .ok (.iconst 3, 1) := by decide +kernel
theorem dL_law_482 : decode cL_law 482 = .ok (.iadd, 1) := by decide +kernel
theorem dL_law_483 : decode cL_law 483 = .ok (.iaload, 1) := by decide +kernel
theorem dL_law_484 : decode cL_law 484 = .ok (.aload_n 0, 1) := by decide +kernel
theorem dL_law_485 : decode cL_law 485 = .ok (.iload_n 3, 1) := by decide +kernel
theorem dL_law_486 : decode cL_law 486 = .ok (.iconst 4, 1) := by decide +kernel
theorem dL_law_487 : decode cL_law 487 = .ok (.iadd, 1) := by decide +kernel
theorem dL_law_488 : decode cL_law 488 = .ok (.iaload, 1) := by decide +kernel
theorem dL_law_489 : decode cL_law 489 = .ok (.invokevirtual 75, 3) := by decide +kernel
theorem dL_law_492 : decode cL_law 492 = .ok (.if_icmp .eq 5, 3) := by decide +kernel
theorem dL_law_495 : decode cL_law 495 = .ok (.iconst 0, 1) := by decide +kernel
theorem dL_law_496 : decode cL_law 496 = .ok (.ireturn, 1) := by decide +kernel
theorem dL_law_497 : decode cL_law 497 = .ok (.iinc 3 5, 3) := by decide +kernel
theorem dL_law_500 : decode cL_law 500 = .ok (.goto (-482), 3) := by decide +kernel
theorem dL_law_503 : decode cL_law 503 = .ok (.iconst 1, 1) := by decide +kernel
theorem dL_law_504 : decode cL_law 504 = .ok (.ireturn, 1) := by decide +kernel
end
section
set_option maxRecDepth 20000 in
theorem ggX0_add_X7_isByte : GoodIn wsX0_add wsX7_isByte := goodIn_r _ [6] (by decide +kernel) (by decide +kernel)
set_option maxRecDepth 20000 in
theorem gX0_add_X7_isByte_n22 : GoodIn wsX0_add (wsX7_isByte) := ggX0_add_X7_isByte
set_option maxRecDepth 20000 in
theorem ggX0_add_X7_grown : GoodIn wsX0_add wsX7_grown := goodIn_r _ [8, 9, 10, 11, 12] (by decide +kernel) (by decide +kernel)
set_option maxRecDepth 20000 in
theorem gX0_add_X7_grown_n26 : GoodIn wsX0_add (wsX7_grown) := ggX0_add_X7_grown
set_option maxRecDepth 20000 in
theorem ggX0_add_J7_copyOf_59c91 : GoodIn wsX0_add wsJ7_copyOf_59c91 := goodIn_r _ [16, 17, 18, 19, 20, 21, 22, 23, 24, 10, 11, 12, 25, 26, 27, 28] (by decide +kernel) (by decide +kernel)
set_option maxRecDepth 20000 in
theorem gX0_add_J7_copyOf_59c91 : GoodIn wsX0_add (va_wsS RX0 30 yJ7_copyOf_59c91 wsJ7_copyOf_59c91) := goodIn_app (goodIn_of _ (by decide +kernel)) ggX0_add_J7_copyOf_59c91
set_option maxRecDepth 20000 in
theorem ggX0_put_X7_isByte : GoodIn wsX0_put wsX7_isByte := goodIn_r _ [5] (by decide +kernel) (by decide +kernel)
set_option maxRecDepth 20000 in
theorem gX0_put_X7_isByte_n22 : GoodIn wsX0_put (wsX7_isByte) := ggX0_put_X7_isByte
set_option maxRecDepth 20000 in
theorem ggX1_init_X3_init : GoodIn wsX1_init wsX3_init := goodIn_r _ [4, 5, 6, 7] (by decide +kernel) (by decide +kernel)
set_option maxRecDepth 20000 in
theorem gX1_init_X3_init_n3 : GoodIn wsX1_init (wsX3_init) := ggX1_init_X3_init
set_option maxRecDepth 20000 in
theorem ggX1_restart_X3_widen : GoodIn wsX1_restart wsX3_widen := goodIn_r _ [8, 9, 10, 11, 30, 31, 32, 33, 34, 35, 36, 37, 38] (by decide +kernel) (by decide +kernel)
set_option maxRecDepth 20000 in
theorem gX1_restart_X3_widen_u15X1 : GoodIn wsX1_restart (va_wsU RX1 15 RX1 "EscapeCoder$Interval" ⟨"EscapeCoder$CodeReader", "widen", "()V"⟩ yX3_widen wsX3_widen) := goodIn_app (goodIn_of _ (by decide +kernel)) ggX1_restart_X3_widen
set_option maxRecDepth 20000 in
theorem ggX1_restart_X1_shiftOnce : GoodIn wsX1_restart wsX1_shiftOnce := goodIn_r _ [16, 1, 17, 2, 18, 19, 20, 21, 22, 23, 24, 25, 26, 27, 28, 29, 30, 31, 32, 33, 34, 39, 40, 41] (by decide +kernel) (by decide +kernel)
set_option maxRecDepth 20000 in
theorem gX1_restart_X1_shiftOnce : GoodIn wsX1_restart (wsV RX1 26 RX1 yX1_shiftOnce wsX1_shiftOnce) := goodIn_app (goodIn_of _ (by decide +kernel)) ggX1_restart_X1_shiftOnce
set_option maxRecDepth 20000 in
theorem ggX1_placeIn_X3_unitOf : GoodIn wsX1_placeIn wsX3_unitOf := goodIn_r _ [11, 12, 13, 14, 15, 16, 17, 18, 19, 20, 21] (by decide +kernel) (by decide +kernel)
set_option maxRecDepth 20000 in
theorem gX1_placeIn_X3_unitOf_u29X1 : GoodIn wsX1_placeIn (va_wsU RX1 29 RX1 "EscapeCoder$Interval" ⟨"EscapeCoder$CodeReader", "unitOf", "(I)J"⟩ yX3_unitOf wsX3_unitOf) := goodIn_app (goodIn_of _ (by decide +kernel)) ggX1_placeIn_X3_unitOf
set_option maxRecDepth 20000 in
theorem ggX1_shiftOnce_X0_length : GoodIn wsX1_shiftOnce wsX0_length := goodIn_r _ [9, 10, 21, 22, 23] (by decide +kernel) (by decide +kernel)
set_option maxRecDepth 20000 in
theorem gX1_shiftOnce_X0_length : GoodIn wsX1_shiftOnce (wsV RX1 41 RX0 yX0_length wsX0_length) := goodIn_app (goodIn_of _ (by decide +kernel)) ggX1_shiftOnce_X0_length
set_option maxRecDepth 20000 in
theorem ggX1_shiftOnce_X0_byteAt : GoodIn wsX1_shiftOnce wsX0_byteAt := goodIn_r _ [14, 10, 15, 21, 22, 23] (by decide +kernel) (by decide +kernel)
set_option maxRecDepth 20000 in
theorem gX1_shiftOnce_X0_byteAt : GoodIn wsX1_shiftOnce (wsV RX1 47 RX0 yX0_byteAt wsX0_byteAt) := goodIn_app (goodIn_of _ (by decide +kernel)) ggX1_shiftOnce_X0_byteAt
set_option maxRecDepth 20000 in
theorem ggX2_init_X3_init : GoodIn wsX2_init wsX3_init := goodIn_r _ [4, 5, 6, 7] (by decide +kernel) (by decide +kernel)
set_option maxRecDepth 20000 in
theorem gX2_init_X3_init_n3 : GoodIn wsX2_init (wsX3_init) := ggX2_init_X3_init
set_option maxRecDepth 20000 in
theorem ggX2_restart_X3_widen : GoodIn wsX2_restart wsX3_widen := goodIn_r _ [8, 9, 10, 11, 22, 23, 24, 25, 26, 18, 19, 20, 21] (by decide +kernel) (by decide +kernel)
set_option maxRecDepth 20000 in
theorem gX2_restart_X3_widen_u15X2 : GoodIn wsX2_restart (va_wsU RX2 15 RX2 "EscapeCoder$Interval" ⟨"EscapeCoder$CodeWriter", "widen", "()V"⟩ yX3_widen wsX3_widen) := goodIn_app (goodIn_of _ (by decide +kernel)) ggX2_restart_X3_widen
set_option maxRecDepth 20000 in
theorem ggX2_restart_X0_clear : GoodIn wsX2_restart wsX0_clear := goodIn_r _ [16, 17, 27, 28, 29] (by decide +kernel) (by decide +kernel)
set_option maxRecDepth 20000 in
theorem gX2_restart_X0_clear : GoodIn wsX2_restart (wsV RX2 18 RX0 yX0_clear wsX0_clear) := goodIn_app (goodIn_of _ (by decide +kernel)) ggX2_restart_X0_clear
set_option maxRecDepth 20000 in
theorem ggX2_raiseLow_X2_carry : GoodIn wsX2_raiseLow wsX2_carry := goodIn_r _ [7, 8, 9, 10, 11, 12, 13, 14, 15, 16, 17, 18, 19, 20, 21, 22, 23, 24, 25, 26, 27, 28, 29, 30, 31, 32, 33] (by decide +kernel) (by decide +kernel)
set_option maxRecDepth 20000 in
theorem gX2_raiseLow_X2_carry : GoodIn wsX2_raiseLow (wsV RX2 29 RX2 yX2_carry wsX2_carry) := goodIn_app (goodIn_of _ (by decide +kernel)) ggX2_raiseLow_X2_carry
set_option maxRecDepth 20000 in
theorem ggX2_shiftOnce_X0_add : GoodIn wsX2_shiftOnce wsX0_add := goodIn_r _ [8, 9, 10, 11, 12, 13, 14, 15, 16, 17, 18, 19, 20, 21, 22, 23, 24, 25, 26, 27, 28, 29, 30, 31, 32, 33, 34, 35, 36, 41, 42, 43] (by decide +kernel) (by decide +kernel)
set_option maxRecDepth 20000 in
theorem gX2_shiftOnce_X0_add : GoodIn wsX2_shiftOnce (wsV RX2 32 RX0 yX0_add wsX0_add) := goodIn_app (goodIn_of _ (by decide +kernel)) ggX2_shiftOnce_X0_add
set_option maxRecDepth 20000 in
theorem ggX2_finish_X3_shifts : GoodIn wsX2_finish wsX3_shifts := goodIn_r _ [9, 10, 52, 53, 54, 55, 56, 48, 49, 50, 51] (by decide +kernel) (by decide +kernel)
set_option maxRecDepth 20000 in
theorem gX2_finish_X3_shifts_u36X2 : GoodIn wsX2_finish (va_wsU RX2 36 RX2 "EscapeCoder$Interval" ⟨"EscapeCoder$CodeWriter", "shifts", "()I"⟩ yX3_shifts wsX3_shifts) := goodIn_app (goodIn_of _ (by decide +kernel)) ggX2_finish_X3_shifts
set_option maxRecDepth 20000 in
theorem ggX2_finish_X0_clear : GoodIn wsX2_finish wsX0_clear := goodIn_r _ [15, 16, 57, 58, 59] (by decide +kernel) (by decide +kernel)
set_option maxRecDepth 20000 in
theorem gX2_finish_X0_clear : GoodIn wsX2_finish (wsV RX2 18 RX0 yX0_clear wsX0_clear) := goodIn_app (goodIn_of _ (by decide +kernel)) ggX2_finish_X0_clear
set_option maxRecDepth 20000 in
theorem ggX2_finish_X0_add : GoodIn wsX2_finish wsX0_add := goodIn_r _ [20, 16, 21, 22, 23, 24, 25, 26, 27, 28, 29, 30, 31, 32, 33, 34, 35, 36, 37, 38, 39, 40, 41, 42, 43, 44, 45, 46, 47, 57, 58, 59] (by decide +kernel) (by decide +kernel)
set_option maxRecDepth 20000 in
theorem gX2_finish_X0_add : GoodIn wsX2_finish (wsV RX2 32 RX0 yX0_add wsX0_add) := goodIn_app (goodIn_of _ (by decide +kernel)) ggX2_finish_X0_add
set_option maxRecDepth 20000 in
theorem ggX2_carry_X0_length : GoodIn wsX2_carry wsX0_length := goodIn_r _ [6, 7, 24, 25, 26] (by decide +kernel) (by decide +kernel)
set_option maxRecDepth 20000 in
theorem gX2_carry_X0_length : GoodIn wsX2_carry (wsV RX2 42 RX0 yX0_length wsX0_length) := goodIn_app (goodIn_of _ (by decide +kernel)) ggX2_carry_X0_length
set_option maxRecDepth 20000 in
theorem ggX2_carry_X0_byteAt : GoodIn wsX2_carry wsX0_byteAt := goodIn_r _ [11, 7, 12, 24, 25, 26] (by decide +kernel) (by decide +kernel)
set_option maxRecDepth 20000 in
theorem gX2_carry_X0_byteAt : GoodIn wsX2_carry (wsV RX2 45 RX0 yX0_byteAt wsX0_byteAt) := goodIn_app (goodIn_of _ (by decide +kernel)) ggX2_carry_X0_byteAt
set_option maxRecDepth 20000 in
theorem ggX2_carry_X0_put : GoodIn wsX2_carry wsX0_put := goodIn_r _ [16, 7, 12, 17, 18, 19, 24, 25, 26] (by decide +kernel) (by decide +kernel)
set_option maxRecDepth 20000 in
theorem gX2_carry_X0_put : GoodIn wsX2_carry (wsV RX2 49 RX0 yX0_put wsX0_put) := goodIn_app (goodIn_of _ (by decide +kernel)) ggX2_carry_X0_put
set_option maxRecDepth 20000 in
theorem ggX3_narrow_X3_unitOf : GoodIn wsX3_narrow wsX3_unitOf := goodIn_r _ [10, 1, 88, 89, 90, 91, 92, 93, 94, 95, 96] (by decide +kernel) (by decide +kernel)
set_option maxRecDepth 20000 in
theorem gX3_narrow_X3_unitOf_u19X1 : GoodIn wsX3_narrow (va_wsU RX3 19 RX1 "EscapeCoder$Interval" ⟨"EscapeCoder$Interval", "unitOf", "(I)J"⟩ yX3_unitOf wsX3_unitOf) := goodIn_app (goodIn_of _ (by decide +kernel)) ggX3_narrow_X3_unitOf
set_option maxRecDepth 20000 in
theorem gX3_narrow_X3_unitOf_u19X2 : GoodIn wsX3_narrow (va_wsU RX3 19 RX2 "EscapeCoder$Interval" ⟨"EscapeCoder$Interval", "unitOf", "(I)J"⟩ yX3_unitOf wsX3_unitOf) := goodIn_app (goodIn_of _ (by decide +kernel)) ggX3_narrow_X3_unitOf
set_option maxRecDepth 20000 in
theorem ggX3_narrow_X1_raiseLow : GoodIn wsX3_narrow wsX1_raiseLow := goodIn_r _ [17, 18, 88, 89, 90, 91, 92] (by decide +kernel) (by decide +kernel)
set_option maxRecDepth 20000 in
theorem gX3_narrow_X1_raiseLow_u23X1 : GoodIn wsX3_narrow (va_wsU RX3 23 RX1 "EscapeCoder$Interval" ⟨"EscapeCoder$Interval", "raiseLow", "(J)V"⟩ yX1_raiseLow wsX1_raiseLow) := goodIn_app (goodIn_of _ (by decide +kernel)) ggX3_narrow_X1_raiseLow
set_option maxRecDepth 20000 in
theorem ggX3_narrow_X2_raiseLow : GoodIn wsX3_narrow wsX2_raiseLow := goodIn_r _ [22, 23, 24, 25, 26, 27, 21, 28, 29, 30, 31, 32, 33, 34, 35, 36, 37, 38, 39, 40, 41, 42, 43, 44, 45, 46, 47, 93, 94, 95, 96, 97, 98, 99] (by decide +kernel) (by decide +kernel)
set_option maxRecDepth 20000 in
theorem gX3_narrow_X2_raiseLow_u23X2 : GoodIn wsX3_narrow (va_wsU RX3 23 RX2 "EscapeCoder$Interval" ⟨"EscapeCoder$Interval", "raiseLow", "(J)V"⟩ yX2_raiseLow wsX2_raiseLow) := goodIn_app (goodIn_of _ (by decide +kernel)) ggX3_narrow_X2_raiseLow
set_option maxRecDepth 20000 in
theorem ggX3_narrow_X1_shiftOnce : GoodIn wsX3_narrow wsX1_shiftOnce := goodIn_r _ [52, 18, 53, 54, 55, 56, 31, 32, 33, 34, 35, 57, 37, 38, 39, 40, 88, 89, 90, 91, 92, 97, 98, 99] (by decide +kernel) (by decide +kernel)
set_option maxRecDepth 20000 in
theorem gX3_narrow_X1_shiftOnce_u29X1 : GoodIn wsX3_narrow (va_wsU RX3 29 RX1 "EscapeCoder$Interval" ⟨"EscapeCoder$Interval", "shiftOnce", "()V"⟩ yX1_shiftOnce wsX1_shiftOnce) := goodIn_app (goodIn_of _ (by decide +kernel)) ggX3_narrow_X1_shiftOnce
set_option maxRecDepth 20000 in
theorem ggX3_narrow_X2_shiftOnce : GoodIn wsX3_narrow wsX2_shiftOnce := goodIn_r _ [60, 29, 23, 24, 61, 62, 63, 33, 64, 35, 65, 40, 45, 46, 47, 66, 67, 68, 69, 70, 71, 72, 73, 74, 75, 76, 77, 78, 79, 80, 81, 82, 83, 84, 85, 86, 87, 93, 94, 95, 96, 97, 98, 99] (by decide +kernel) (by decide +kernel)
set_option maxRecDepth 20000 in
theorem gX3_narrow_X2_shiftOnce_u29X2 : GoodIn wsX3_narrow (va_wsU RX3 29 RX2 "EscapeCoder$Interval" ⟨"EscapeCoder$Interval", "shiftOnce", "()V"⟩ yX2_shiftOnce wsX2_shiftOnce) := goodIn_app (goodIn_of _ (by decide +kernel)) ggX3_narrow_X2_shiftOnce
set_option maxRecDepth 20000 in
theorem ggX4_init_J7_fill_53178 : GoodIn wsX4_init wsJ7_fill_53178 := goodIn_r _ [18] (by decide +kernel) (by decide +kernel)
set_option maxRecDepth 20000 in
theorem gX4_init_J7_fill_53178 : GoodIn wsX4_init (va_wsS RX4 43 yJ7_fill_53178 wsJ7_fill_53178) := goodIn_app (goodIn_of _ (by decide +kernel)) ggX4_init_J7_fill_53178
set_option maxRecDepth 20000 in
theorem ggX4_restart_X4_dropAll : GoodIn wsX4_restart wsX4_dropAll := goodIn_r _ [8, 9, 10, 11, 12, 13, 14, 7, 15, 16, 17, 18, 19, 20, 21, 22, 23, 24, 25, 26, 27, 28, 29, 30, 31, 32] (by decide +kernel) (by decide +kernel)
set_option maxRecDepth 20000 in
theorem gX4_restart_X4_dropAll : GoodIn wsX4_restart (wsV RX4 49 RX4 yX4_dropAll wsX4_dropAll) := goodIn_app (goodIn_of _ (by decide +kernel)) ggX4_restart_X4_dropAll
set_option maxRecDepth 20000 in
theorem ggX4_keyHere_X7_keyOf : GoodIn wsX4_keyHere wsX7_keyOf := goodIn_r _ [5, 6, 7, 4, 8] (by decide +kernel) (by decide +kernel)
set_option maxRecDepth 20000 in
theorem gX4_keyHere_X7_keyOf_n73 : GoodIn wsX4_keyHere (wsX7_keyOf) := ggX4_keyHere_X7_keyOf
set_option maxRecDepth 20000 in
theorem ggX4_find_X4_bucketOf : GoodIn wsX4_find wsX4_bucketOf := goodIn_r _ [8] (by decide +kernel) (by decide +kernel)
set_option maxRecDepth 20000 in
theorem gX4_find_X4_bucketOf : GoodIn wsX4_find (va_wsS RX4 77 yX4_bucketOf wsX4_bucketOf) := goodIn_app (goodIn_of _ (by decide +kernel)) ggX4_find_X4_bucketOf
set_option maxRecDepth 20000 in
theorem ggX4_find_X4_isContext : GoodIn wsX4_find wsX4_isContext := goodIn_r _ [12, 2, 13, 14, 15, 16, 17, 18, 19, 20, 21, 22, 23, 24, 25, 26, 27, 28, 29] (by decide +kernel) (by decide +kernel)
set_option maxRecDepth 20000 in
theorem gX4_find_X4_isContext : GoodIn wsX4_find (wsV RX4 81 RX4 yX4_isContext wsX4_isContext) := goodIn_app (goodIn_of _ (by decide +kernel)) ggX4_find_X4_isContext
set_option maxRecDepth 20000 in
theorem ggX4_nodesIn_X4_isContext : GoodIn wsX4_nodesIn wsX4_isContext := goodIn_r _ [6, 7, 8, 9, 10, 11, 12, 13, 14, 15, 16, 17, 18, 19, 20, 21, 22, 23, 24] (by decide +kernel) (by decide +kernel)
set_option maxRecDepth 20000 in
theorem gX4_nodesIn_X4_isContext : GoodIn wsX4_nodesIn (wsV RX4 81 RX4 yX4_isContext wsX4_isContext) := goodIn_app (goodIn_of _ (by decide +kernel)) ggX4_nodesIn_X4_isContext
set_option maxRecDepth 20000 in
theorem ggX4_firstNode_X4_isContext : GoodIn wsX4_firstNode wsX4_isContext := goodIn_r _ [6, 7, 8, 9, 10, 11, 12, 13, 14, 15, 16, 17, 18, 19, 20, 21, 22, 23, 24] (by decide +kernel) (by decide +kernel)
set_option maxRecDepth 20000 in
theorem gX4_firstNode_X4_isContext : GoodIn wsX4_firstNode (wsV RX4 81 RX4 yX4_isContext wsX4_isContext) := goodIn_app (goodIn_of _ (by decide +kernel)) ggX4_firstNode_X4_isContext
set_option maxRecDepth 20000 in
theorem ggX4_nextNode_X4_isNode : GoodIn wsX4_nextNode wsX4_isNode := goodIn_r _ [6, 7, 8, 9, 10, 11, 12, 13, 14, 15, 16, 17, 18, 19, 20, 21, 22, 23, 24] (by decide +kernel) (by decide +kernel)
set_option maxRecDepth 20000 in
theorem gX4_nextNode_X4_isNode : GoodIn wsX4_nextNode (wsV RX4 85 RX4 yX4_isNode wsX4_isNode) := goodIn_app (goodIn_of _ (by decide +kernel)) ggX4_nextNode_X4_isNode
set_option maxRecDepth 20000 in
theorem ggX4_byteOf_X4_isNode : GoodIn wsX4_byteOf wsX4_isNode := goodIn_r _ [6, 7, 8, 9, 10, 11, 12, 13, 14, 15, 16, 17, 18, 19, 20, 21, 22, 23, 24] (by decide +kernel) (by decide +kernel)
set_option maxRecDepth 20000 in
theorem gX4_byteOf_X4_isNode : GoodIn wsX4_byteOf (wsV RX4 85 RX4 yX4_isNode wsX4_isNode) := goodIn_app (goodIn_of _ (by decide +kernel)) ggX4_byteOf_X4_isNode
set_option maxRecDepth 20000 in
theorem ggX4_countOf_X4_isNode : GoodIn wsX4_countOf wsX4_isNode := goodIn_r _ [6, 7, 8, 9, 10, 11, 12, 13, 14, 15, 16, 17, 18, 19, 20, 21, 22, 23, 24] (by decide +kernel) (by decide +kernel)
set_option maxRecDepth 20000 in
theorem gX4_countOf_X4_isNode : GoodIn wsX4_countOf (wsV RX4 85 RX4 yX4_isNode wsX4_isNode) := goodIn_app (goodIn_of _ (by decide +kernel)) ggX4_countOf_X4_isNode
set_option maxRecDepth 20000 in
theorem ggX4_nodeOfByte_X4_firstNode : GoodIn wsX4_nodeOfByte wsX4_firstNode := goodIn_r _ [5, 6, 7, 8, 9, 4, 10, 11, 32, 33, 34, 35, 36, 37, 38, 39, 40, 41, 42, 43, 44, 45, 46, 47, 48] (by decide +kernel) (by decide +kernel)
set_option maxRecDepth 20000 in
theorem gX4_nodeOfByte_X4_firstNode : GoodIn wsX4_nodeOfByte (wsV RX4 88 RX4 yX4_firstNode wsX4_firstNode) := goodIn_app (goodIn_of _ (by decide +kernel)) ggX4_nodeOfByte_X4_firstNode
set_option maxRecDepth 20000 in
theorem ggX4_nodeOfByte_X4_nodesIn : GoodIn wsX4_nodeOfByte wsX4_nodesIn := goodIn_r _ [15, 16, 7, 8, 9, 4, 10, 11, 32, 33, 34, 35, 36, 37, 38, 39, 40, 41, 42, 43, 44, 45, 46, 47, 48] (by decide +kernel) (by decide +kernel)
set_option maxRecDepth 20000 in
theorem gX4_nodeOfByte_X4_nodesIn : GoodIn wsX4_nodeOfByte (wsV RX4 91 RX4 yX4_nodesIn wsX4_nodesIn) := goodIn_app (goodIn_of _ (by decide +kernel)) ggX4_nodeOfByte_X4_nodesIn
set_option maxRecDepth 20000 in
theorem ggX4_nodeOfByte_X4_byteOf : GoodIn wsX4_nodeOfByte wsX4_byteOf := goodIn_r _ [20, 21, 22, 23, 24, 4, 25, 26, 32, 33, 34, 35, 36, 37, 38, 39, 40, 41, 42, 43, 44, 45, 46, 47, 48] (by decide +kernel) (by decide +kernel)
set_option maxRecDepth 20000 in
theorem gX4_nodeOfByte_X4_byteOf : GoodIn wsX4_nodeOfByte (wsV RX4 94 RX4 yX4_byteOf wsX4_byteOf) := goodIn_app (goodIn_of _ (by decide +kernel)) ggX4_nodeOfByte_X4_byteOf
set_option maxRecDepth 20000 in
theorem ggX4_nodeOfByte_X4_nextNode : GoodIn wsX4_nodeOfByte wsX4_nextNode := goodIn_r _ [30, 31, 22, 23, 24, 4, 25, 26, 32, 33, 34, 35, 36, 37, 38, 39, 40, 41, 42, 43, 44, 45, 46, 47, 48] (by decide +kernel) (by decide +kernel)
set_option maxRecDepth 20000 in
theorem gX4_nodeOfByte_X4_nextNode : GoodIn wsX4_nodeOfByte (wsV RX4 97 RX4 yX4_nextNode wsX4_nextNode) := goodIn_app (goodIn_of _ (by decide +kernel)) ggX4_nodeOfByte_X4_nextNode
set_option maxRecDepth 20000 in
theorem ggX4_nodeAt_X4_nodesIn : GoodIn wsX4_nodeAt wsX4_nodesIn := goodIn_r _ [5, 6, 7, 8, 9, 4, 10, 11, 27, 28, 29, 30, 31, 32, 33, 34, 35, 36, 37, 38, 39, 40, 41, 42, 43] (by decide +kernel) (by decide +kernel)
set_option maxRecDepth 20000 in
theorem gX4_nodeAt_X4_nodesIn : GoodIn wsX4_nodeAt (wsV RX4 91 RX4 yX4_nodesIn wsX4_nodesIn) := goodIn_app (goodIn_of _ (by decide +kernel)) ggX4_nodeAt_X4_nodesIn
set_option maxRecDepth 20000 in
theorem ggX4_nodeAt_X4_firstNode : GoodIn wsX4_nodeAt wsX4_firstNode := goodIn_r _ [15, 16, 7, 8, 9, 4, 10, 11, 27, 28, 29, 30, 31, 32, 33, 34, 35, 36, 37, 38, 39, 40, 41, 42, 43] (by decide +kernel) (by decide +kernel)
set_option maxRecDepth 20000 in
theorem gX4_nodeAt_X4_firstNode : GoodIn wsX4_nodeAt (wsV RX4 88 RX4 yX4_firstNode wsX4_firstNode) := goodIn_app (goodIn_of _ (by decide +kernel)) ggX4_nodeAt_X4_firstNode
set_option maxRecDepth 20000 in
theorem ggX4_nodeAt_X4_nextNode : GoodIn wsX4_nodeAt wsX4_nextNode := goodIn_r _ [20, 21, 22, 23, 24, 4, 25, 26, 27, 28, 29, 30, 31, 32, 33, 34, 35, 36, 37, 38, 39, 40, 41, 42, 43] (by decide +kernel) (by decide +kernel)
set_option maxRecDepth 20000 in
theorem gX4_nodeAt_X4_nextNode : GoodIn wsX4_nodeAt (wsV RX4 97 RX4 yX4_nextNode wsX4_nextNode) := goodIn_app (goodIn_of _ (by decide +kernel)) ggX4_nodeAt_X4_nextNode
set_option maxRecDepth 20000 in
theorem ggX4_learn_X4_keyHere : GoodIn wsX4_learn wsX4_keyHere := goodIn_r _ [15, 6, 7, 16, 17, 18, 19, 20, 21, 118, 119, 120, 121, 122, 123, 124, 125, 126, 127, 128, 129, 130, 131, 132, 133, 134] (by decide +kernel) (by decide +kernel)
set_option maxRecDepth 20000 in
theorem gX4_learn_X4_keyHere : GoodIn wsX4_learn (wsV RX4 106 RX4 yX4_keyHere wsX4_keyHere) := goodIn_app (goodIn_of _ (by decide +kernel)) ggX4_learn_X4_keyHere
set_option maxRecDepth 20000 in
theorem ggX4_learn_X4_learnIn : GoodIn wsX4_learn wsX4_learnIn := goodIn_r _ [25, 26, 27, 28, 29, 30, 31, 32, 14, 33, 34, 35, 36, 37, 38, 39, 40, 41, 42, 43, 44, 45, 46, 47, 48, 49, 50, 51, 52, 53, 54, 55, 56, 57, 58, 59, 60, 61, 62, 63, 64, 65, 66, 67, 68, 69, 70, 71, 72, 73, 74, 75, 76, 77, 78, 79, 80, 81, 82, 83, 84, 85, 86, 87, 88, 89, 90, 91, 17, 92, 93, 9, 3, 10, 94, 95, 96, 97, 98, 99, 100, 101, 102, 103, 104, 105, 106, 107, 108, 109, 110, 111, 112, 113, 114, 115, 116, 117, 118, 119, 120, 121, 122, 123, 124, 125, 126, 127, 128, 129, 130, 131, 132, 133, 134] (by decide +kernel) (by decide +kernel)
set_option maxRecDepth 20000 in
theorem gX4_learn_X4_learnIn : GoodIn wsX4_learn (wsV RX4 109 RX4 yX4_learnIn wsX4_learnIn) := goodIn_app (goodIn_of _ (by decide +kernel)) ggX4_learn_X4_learnIn
set_option maxRecDepth 20000 in
theorem ggX4_learnIn_X4_find : GoodIn wsX4_learnIn wsX4_find := goodIn_r _ [9, 10, 11, 12, 13, 14, 15, 8, 16, 17, 18, 19, 20, 98, 99, 100, 101, 102, 103, 104, 105, 106, 107, 108, 109, 110, 111, 112, 113, 114] (by decide +kernel) (by decide +kernel)
set_option maxRecDepth 20000 in
theorem gX4_learnIn_X4_find : GoodIn wsX4_learnIn (wsV RX4 116 RX4 yX4_find wsX4_find) := goodIn_app (goodIn_of _ (by decide +kernel)) ggX4_learnIn_X4_find
set_option maxRecDepth 20000 in
theorem ggX4_learnIn_X4_nodeOfByte : GoodIn wsX4_learnIn wsX4_nodeOfByte := goodIn_r _ [24, 25, 26, 27, 8, 28, 29, 17, 18, 19, 20, 11, 30, 31, 32, 33, 34, 35, 36, 37, 38, 39, 40, 41, 42, 43, 2, 44, 45, 46, 47, 48, 98, 99, 100, 101, 102, 103, 104, 105, 106, 107, 108, 109, 110, 111, 112, 113, 114] (by decide +kernel) (by decide +kernel)
set_option maxRecDepth 20000 in
theorem gX4_learnIn_X4_nodeOfByte : GoodIn wsX4_learnIn (wsV RX4 119 RX4 yX4_nodeOfByte wsX4_nodeOfByte) := goodIn_app (goodIn_of _ (by decide +kernel)) ggX4_learnIn_X4_nodeOfByte
set_option maxRecDepth 20000 in
theorem ggX4_learnIn_X4_isNode : GoodIn wsX4_learnIn wsX4_isNode := goodIn_r _ [43, 2, 98, 99, 100, 101, 102, 103, 104, 105, 106, 107, 108, 109, 110, 111, 112, 113, 114] (by decide +kernel) (by decide +kernel)
set_option maxRecDepth 20000 in
theorem gX4_learnIn_X4_isNode : GoodIn wsX4_learnIn (wsV RX4 85 RX4 yX4_isNode wsX4_isNode) := goodIn_app (goodIn_of _ (by decide +kernel)) ggX4_learnIn_X4_isNode
set_option maxRecDepth 20000 in
theorem ggX4_learnIn_X4_rescale : GoodIn wsX4_learnIn wsX4_rescale := goodIn_r _ [52, 1, 48, 53, 25, 26, 27, 8, 28, 29, 17, 18, 19, 20, 11, 30, 31, 32, 33, 34, 40, 41, 42, 43, 2, 98, 99, 100, 101, 102, 103, 104, 105, 106, 107, 108, 109, 110, 111, 112, 113, 114] (by decide +kernel) (by decide +kernel)
set_option maxRecDepth 20000 in
theorem gX4_learnIn_X4_rescale : GoodIn wsX4_learnIn (wsV RX4 122 RX4 yX4_rescale wsX4_rescale) := goodIn_app (goodIn_of _ (by decide +kernel)) ggX4_learnIn_X4_rescale
set_option maxRecDepth 20000 in
theorem ggX4_learnIn_X4_dropAll : GoodIn wsX4_learnIn wsX4_dropAll := goodIn_r _ [57, 11, 10, 12, 2, 14, 15, 8, 16, 98, 99, 100, 101, 102, 103, 104, 105, 106, 107, 108, 109, 110, 111, 112, 113, 114] (by decide +kernel) (by decide +kernel)
set_option maxRecDepth 20000 in
theorem gX4_learnIn_X4_dropAll : GoodIn wsX4_learnIn (wsV RX4 49 RX4 yX4_dropAll wsX4_dropAll) := goodIn_app (goodIn_of _ (by decide +kernel)) ggX4_learnIn_X4_dropAll
set_option maxRecDepth 20000 in
theorem ggX4_learnIn_X4_isContext : GoodIn wsX4_learnIn wsX4_isContext := goodIn_r _ [20, 11, 98, 99, 100, 101, 102, 103, 104, 105, 106, 107, 108, 109, 110, 111, 112, 113, 114] (by decide +kernel) (by decide +kernel)
set_option maxRecDepth 20000 in
theorem gX4_learnIn_X4_isContext : GoodIn wsX4_learnIn (wsV RX4 81 RX4 yX4_isContext wsX4_isContext) := goodIn_app (goodIn_of _ (by decide +kernel)) ggX4_learnIn_X4_isContext
set_option maxRecDepth 20000 in
theorem ggX4_learnIn_X4_addContext : GoodIn wsX4_learnIn wsX4_addContext := goodIn_r _ [61, 11, 12, 29, 62, 34, 13, 10, 63, 64, 65, 8, 66, 67, 68, 69, 70, 71, 72, 73, 74, 75, 76, 77, 78, 79, 80, 81, 82, 83, 84, 85, 86, 87, 88, 89, 14, 15, 16, 98, 99, 100, 101, 102, 103, 104, 105, 106, 107, 108, 109, 110, 111, 112, 113, 114] (by decide +kernel) (by decide +kernel)
set_option maxRecDepth 20000 in
theorem gX4_learnIn_X4_addContext : GoodIn wsX4_learnIn (wsV RX4 126 RX4 yX4_addContext wsX4_addContext) := goodIn_app (goodIn_of _ (by decide +kernel)) ggX4_learnIn_X4_addContext
set_option maxRecDepth 20000 in
theorem ggX4_learnIn_X4_addNode : GoodIn wsX4_learnIn wsX4_addNode := goodIn_r _ [93, 2, 39, 1, 48, 62, 29, 34, 17, 18, 19, 8, 20, 11, 94, 95, 96, 97, 67, 68, 69, 70, 71, 72, 73, 74, 75, 76, 77, 78, 79, 80, 81, 82, 83, 84, 85, 86, 87, 88, 89, 40, 41, 42, 43, 98, 99, 100, 101, 102, 103, 104, 105, 106, 107, 108, 109, 110, 111, 112, 113, 114] (by decide +kernel) (by decide +kernel)
set_option maxRecDepth 20000 in
theorem gX4_learnIn_X4_addNode : GoodIn wsX4_learnIn (wsV RX4 129 RX4 yX4_addNode wsX4_addNode) := goodIn_app (goodIn_of _ (by decide +kernel)) ggX4_learnIn_X4_addNode
set_option maxRecDepth 20000 in
theorem ggX4_rescale_X4_firstNode : GoodIn wsX4_rescale wsX4_firstNode := goodIn_r _ [8, 9, 10, 11, 12, 7, 13, 14, 25, 26, 27, 28, 29, 30, 31, 32, 33, 34, 35, 36, 37, 38, 39, 40, 41] (by decide +kernel) (by decide +kernel)
set_option maxRecDepth 20000 in
theorem gX4_rescale_X4_firstNode : GoodIn wsX4_rescale (wsV RX4 88 RX4 yX4_firstNode wsX4_firstNode) := goodIn_app (goodIn_of _ (by decide +kernel)) ggX4_rescale_X4_firstNode
set_option maxRecDepth 20000 in
theorem ggX4_rescale_X4_nodesIn : GoodIn wsX4_rescale wsX4_nodesIn := goodIn_r _ [18, 19, 10, 11, 12, 7, 13, 14, 25, 26, 27, 28, 29, 30, 31, 32, 33, 34, 35, 36, 37, 38, 39, 40, 41] (by decide +kernel) (by decide +kernel)
set_option maxRecDepth 20000 in
theorem gX4_rescale_X4_nodesIn : GoodIn wsX4_rescale (wsV RX4 91 RX4 yX4_nodesIn wsX4_nodesIn) := goodIn_app (goodIn_of _ (by decide +kernel)) ggX4_rescale_X4_nodesIn
set_option maxRecDepth 20000 in
theorem ggX4_rescale_X4_isNode : GoodIn wsX4_rescale wsX4_isNode := goodIn_r _ [23, 24, 25, 26, 27, 28, 29, 30, 31, 32, 33, 34, 35, 36, 37, 38, 39, 40, 41] (by decide +kernel) (by decide +kernel)
set_option maxRecDepth 20000 in
theorem gX4_rescale_X4_isNode : GoodIn wsX4_rescale (wsV RX4 85 RX4 yX4_isNode wsX4_isNode) := goodIn_app (goodIn_of _ (by decide +kernel)) ggX4_rescale_X4_isNode
set_option maxRecDepth 20000 in
theorem ggX4_addNode_X4_isContext : GoodIn wsX4_addNode wsX4_isContext := goodIn_r _ [12, 13, 45, 46, 47, 48, 49, 50, 51, 52, 53, 54, 55, 56, 57, 58, 59, 60, 61] (by decide +kernel) (by decide +kernel)
set_option maxRecDepth 20000 in
theorem gX4_addNode_X4_isContext : GoodIn wsX4_addNode (wsV RX4 81 RX4 yX4_isContext wsX4_isContext) := goodIn_app (goodIn_of _ (by decide +kernel)) ggX4_addNode_X4_isContext
set_option maxRecDepth 20000 in
theorem ggX4_addNode_X4_growNodes : GoodIn wsX4_addNode wsX4_growNodes := goodIn_r _ [17, 1, 2, 3, 4, 18, 19, 20, 21, 22, 23, 24, 25, 26, 27, 28, 29, 30, 31, 32, 33, 34, 35, 36, 37, 38, 39, 40, 45, 46, 47, 48, 49, 50, 51, 52, 53, 54, 55, 56, 57, 58, 59, 60, 61] (by decide +kernel) (by decide +kernel)
set_option maxRecDepth 20000 in
theorem gX4_addNode_X4_growNodes : GoodIn wsX4_addNode (wsV RX4 133 RX4 yX4_growNodes wsX4_growNodes) := goodIn_app (goodIn_of _ (by decide +kernel)) ggX4_addNode_X4_growNodes
set_option maxRecDepth 20000 in
theorem ggX4_addNode_X4_isNode : GoodIn wsX4_addNode wsX4_isNode := goodIn_r _ [44, 1, 45, 46, 47, 48, 49, 50, 51, 52, 53, 54, 55, 56, 57, 58, 59, 60, 61] (by decide +kernel) (by decide +kernel)
set_option maxRecDepth 20000 in
theorem gX4_addNode_X4_isNode : GoodIn wsX4_addNode (wsV RX4 85 RX4 yX4_isNode wsX4_isNode) := goodIn_app (goodIn_of _ (by decide +kernel)) ggX4_addNode_X4_isNode
set_option maxRecDepth 20000 in
theorem ggX4_addContext_X4_growContexts : GoodIn wsX4_addContext wsX4_growContexts := goodIn_r _ [12, 1, 2, 3, 4, 5, 6, 13, 14, 15, 16, 17, 18, 19, 20, 21, 22, 23, 24, 25, 26, 27, 28, 29, 30, 31, 32, 33, 34, 35, 39, 40, 41, 42, 43, 44, 45, 46, 47, 48, 49, 50, 51, 52, 53, 54, 55] (by decide +kernel) (by decide +kernel)
set_option maxRecDepth 20000 in
theorem gX4_addContext_X4_growContexts : GoodIn wsX4_addContext (wsV RX4 136 RX4 yX4_growContexts wsX4_growContexts) := goodIn_app (goodIn_of _ (by decide +kernel)) ggX4_addContext_X4_growContexts
set_option maxRecDepth 20000 in
theorem ggX4_addContext_X4_bucketOf : GoodIn wsX4_addContext wsX4_bucketOf := goodIn_r _ [38] (by decide +kernel) (by decide +kernel)
set_option maxRecDepth 20000 in
theorem gX4_addContext_X4_bucketOf : GoodIn wsX4_addContext (va_wsS RX4 77 yX4_bucketOf wsX4_bucketOf) := goodIn_app (goodIn_of _ (by decide +kernel)) ggX4_addContext_X4_bucketOf
set_option maxRecDepth 20000 in
theorem ggX4_growNodes_X7_grown : GoodIn wsX4_growNodes wsX7_grown := goodIn_r _ [7, 8, 9, 10, 11] (by decide +kernel) (by decide +kernel)
set_option maxRecDepth 20000 in
theorem gX4_growNodes_X7_grown_n139 : GoodIn wsX4_growNodes (wsX7_grown) := ggX4_growNodes_X7_grown
set_option maxRecDepth 20000 in
theorem ggX4_growNodes_J7_copyOf_59c91 : GoodIn wsX4_growNodes wsJ7_copyOf_59c91 := goodIn_r _ [15, 16, 17, 18, 19, 20, 21, 22, 23, 9, 10, 11, 24, 25, 26, 27] (by decide +kernel) (by decide +kernel)
set_option maxRecDepth 20000 in
theorem gX4_growNodes_J7_copyOf_59c91 : GoodIn wsX4_growNodes (va_wsS RX4 142 yJ7_copyOf_59c91 wsJ7_copyOf_59c91) := goodIn_app (goodIn_of _ (by decide +kernel)) ggX4_growNodes_J7_copyOf_59c91
set_option maxRecDepth 20000 in
theorem ggX4_growContexts_X7_grown : GoodIn wsX4_growContexts wsX7_grown := goodIn_r _ [9, 10, 11, 12, 13] (by decide +kernel) (by decide +kernel)
set_option maxRecDepth 20000 in
theorem gX4_growContexts_X7_grown_n139 : GoodIn wsX4_growContexts (wsX7_grown) := ggX4_growContexts_X7_grown
set_option maxRecDepth 20000 in
theorem ggX4_growContexts_J7_copyOf_59c91 : GoodIn wsX4_growContexts wsJ7_copyOf_59c91 := goodIn_r _ [17, 18, 19, 20, 21, 22, 23, 24, 25, 11, 12, 13, 26, 27, 28, 29] (by decide +kernel) (by decide +kernel)
set_option maxRecDepth 20000 in
theorem gX4_growContexts_J7_copyOf_59c91 : GoodIn wsX4_growContexts (va_wsS RX4 142 yJ7_copyOf_59c91 wsJ7_copyOf_59c91) := goodIn_app (goodIn_of _ (by decide +kernel)) ggX4_growContexts_J7_copyOf_59c91
set_option maxRecDepth 20000 in
theorem ggX4_dropAll_X4_bucketOf : GoodIn wsX4_dropAll wsX4_bucketOf := goodIn_r _ [8] (by decide +kernel) (by decide +kernel)
set_option maxRecDepth 20000 in
theorem gX4_dropAll_X4_bucketOf : GoodIn wsX4_dropAll (va_wsS RX4 77 yX4_bucketOf wsX4_bucketOf) := goodIn_app (goodIn_of _ (by decide +kernel)) ggX4_dropAll_X4_bucketOf
set_option maxRecDepth 20000 in
theorem ggX5_add_X7_grown : GoodIn wsX5_add wsX7_grown := goodIn_r _ [6, 7, 8, 9, 10] (by decide +kernel) (by decide +kernel)
set_option maxRecDepth 20000 in
theorem gX5_add_X7_grown_n22 : GoodIn wsX5_add (wsX7_grown) := ggX5_add_X7_grown
set_option maxRecDepth 20000 in
theorem ggX5_add_J7_copyOf_c38d5 : GoodIn wsX5_add wsJ7_copyOf_c38d5 := goodIn_r _ [14, 15, 16, 17, 18, 19, 20, 21, 22, 8, 9, 10, 23, 24, 25, 26] (by decide +kernel) (by decide +kernel)
set_option maxRecDepth 20000 in
theorem gX5_add_J7_copyOf_c38d5 : GoodIn wsX5_add (va_wsS RX5 26 yJ7_copyOf_c38d5 wsJ7_copyOf_c38d5) := goodIn_app (goodIn_of _ (by decide +kernel)) ggX5_add_J7_copyOf_c38d5
set_option maxRecDepth 20000 in
theorem ggX6_tell_X4_topOrder : GoodIn wsX6_tell wsX4_topOrder := goodIn_r _ [10, 11, 235, 236, 237, 238, 239, 240, 241, 242, 243, 244, 245, 246, 247, 248, 249, 250, 251] (by decide +kernel) (by decide +kernel)
set_option maxRecDepth 20000 in
theorem gX6_tell_X4_topOrder : GoodIn wsX6_tell (wsV RX6 36 RX4 yX4_topOrder wsX4_topOrder) := goodIn_app (goodIn_of _ (by decide +kernel)) ggX6_tell_X4_topOrder
set_option maxRecDepth 20000 in
theorem ggX6_tell_X4_keyHere : GoodIn wsX6_tell wsX4_keyHere := goodIn_r _ [15, 16, 17, 18, 19, 20, 21, 22, 23, 235, 236, 237, 238, 239, 240, 241, 242, 243, 244, 245, 246, 247, 248, 249, 250, 251] (by decide +kernel) (by decide +kernel)
set_option maxRecDepth 20000 in
theorem gX6_tell_X4_keyHere : GoodIn wsX6_tell (wsV RX6 42 RX4 yX4_keyHere wsX4_keyHere) := goodIn_app (goodIn_of _ (by decide +kernel)) ggX6_tell_X4_keyHere
set_option maxRecDepth 20000 in
theorem ggX6_tell_X4_find : GoodIn wsX6_tell wsX4_find := goodIn_r _ [27, 28, 29, 30, 31, 32, 33, 9, 34, 35, 36, 37, 38, 235, 236, 237, 238, 239, 240, 241, 242, 243, 244, 245, 246, 247, 248, 249, 250, 251] (by decide +kernel) (by decide +kernel)
set_option maxRecDepth 20000 in
theorem gX6_tell_X4_find : GoodIn wsX6_tell (wsV RX6 46 RX4 yX4_find wsX4_find) := goodIn_app (goodIn_of _ (by decide +kernel)) ggX6_tell_X4_find
set_option maxRecDepth 20000 in
theorem ggX6_tell_X6_gather : GoodIn wsX6_tell wsX6_gather := goodIn_r _ [43, 4, 44, 3, 45, 46, 47, 48, 9, 49, 50, 35, 36, 37, 38, 29, 51, 52, 53, 54, 55, 56, 57, 58, 59, 60, 61, 62, 63, 64, 65, 66, 67, 68, 42, 69, 70, 1, 22, 19, 23, 71, 72, 73, 74, 75, 76, 77, 78, 79, 80, 226, 227, 228, 229, 230, 231, 232, 233, 234, 235, 236, 237, 238, 239, 240, 241, 242, 243, 244, 245, 246, 247, 248, 249, 250, 251] (by decide +kernel) (by decide +kernel)
set_option maxRecDepth 20000 in
theorem gX6_tell_X6_gather : GoodIn wsX6_tell (wsV RX6 49 RX6 yX6_gather wsX6_gather) := goodIn_app (goodIn_of _ (by decide +kernel)) ggX6_tell_X6_gather
set_option maxRecDepth 20000 in
theorem ggX6_tell_X6_tellAmongLive : GoodIn wsX6_tell wsX6_tellAmongLive := goodIn_r _ [84, 44, 4, 3, 45, 85, 86, 87, 88, 42, 89, 56, 57, 58, 9, 59, 60, 61, 62, 63, 64, 65, 71, 72, 73, 74, 75, 90, 91, 92, 93, 94, 95, 96, 97, 98, 99, 100, 101, 102, 103, 104, 105, 106, 107, 108, 109, 110, 111, 112, 113, 114, 115, 116, 117, 118, 119, 120, 121, 122, 123, 124, 125, 126, 127, 128, 129, 130, 131, 132, 133, 134, 135, 136, 137, 138, 139, 140, 141, 142, 143, 144, 145, 146, 147, 148, 149, 150, 151, 152, 153, 22, 19, 23, 154, 155, 156, 157, 158, 159, 160, 161, 162, 163, 164, 165, 166, 167, 168, 169, 170, 171, 172, 173, 174, 175, 176, 177, 178, 179, 180, 181, 182, 183, 184, 185, 186, 187, 188, 189, 190, 191, 192, 193, 194, 195, 196, 197, 198, 199, 200, 201, 202, 203, 204, 205, 206, 207, 208, 209, 210, 211, 212, 213, 70, 1, 2, 226, 227, 228, 229, 230, 231, 232, 233, 234, 235, 236, 237, 238, 239, 240, 241, 242, 243, 244, 245, 246, 247, 248, 249, 250, 251, 252, 253, 254, 255, 256, 257, 258, 259, 260, 261, 262, 263, 264, 265, 266] (by decide +kernel) (by decide +kernel)
set_option maxRecDepth 20000 in
theorem gX6_tell_X6_tellAmongLive : GoodIn wsX6_tell (wsV RX6 56 RX6 yX6_tellAmongLive wsX6_tellAmongLive) := goodIn_app (goodIn_of _ (by decide +kernel)) ggX6_tell_X6_tellAmongLive
set_option maxRecDepth 20000 in
theorem ggX6_tell_X6_tellPlainly : GoodIn wsX6_tell wsX6_tellPlainly := goodIn_r _ [217, 2, 85, 218, 219, 220, 42, 221, 66, 67, 68, 69, 70, 1, 22, 19, 23, 90, 91, 92, 93, 94, 95, 96, 97, 98, 99, 100, 101, 102, 103, 104, 105, 106, 107, 108, 109, 110, 111, 112, 113, 114, 115, 116, 117, 118, 119, 120, 121, 122, 123, 124, 125, 126, 127, 128, 129, 130, 131, 132, 133, 134, 135, 136, 137, 138, 139, 140, 141, 142, 143, 144, 145, 146, 147, 148, 149, 150, 151, 152, 153, 154, 155, 156, 157, 158, 159, 160, 161, 162, 163, 164, 165, 166, 167, 168, 169, 170, 171, 172, 173, 174, 175, 176, 177, 178, 179, 180, 181, 182, 183, 184, 185, 186, 187, 188, 189, 190, 191, 192, 193, 194, 195, 196, 197, 198, 199, 200, 201, 202, 203, 204, 205, 206, 207, 208, 209, 222, 223, 224, 225, 226, 227, 228, 229, 230, 231, 232, 233, 234, 252, 253, 254, 255, 256, 257, 258, 259, 260, 261, 262, 263, 264, 265, 266] (by decide +kernel) (by decide +kernel)
set_option maxRecDepth 20000 in
theorem gX6_tell_X6_tellPlainly : GoodIn wsX6_tell (wsV RX6 60 RX6 yX6_tellPlainly wsX6_tellPlainly) := goodIn_app (goodIn_of _ (by decide +kernel)) ggX6_tell_X6_tellPlainly
set_option maxRecDepth 20000 in
theorem ggX6_gather_X4_firstNode : GoodIn wsX6_gather wsX4_firstNode := goodIn_r _ [9, 10, 11, 12, 13, 8, 14, 15, 60, 61, 62, 63, 64, 65, 66, 67, 68, 69, 70, 71, 72, 73, 74, 75, 76] (by decide +kernel) (by decide +kernel)
set_option maxRecDepth 20000 in
theorem gX6_gather_X4_firstNode : GoodIn wsX6_gather (wsV RX6 67 RX4 yX4_firstNode wsX4_firstNode) := goodIn_app (goodIn_of _ (by decide +kernel)) ggX6_gather_X4_firstNode
set_option maxRecDepth 20000 in
theorem ggX6_gather_X4_nodesIn : GoodIn wsX6_gather wsX4_nodesIn := goodIn_r _ [19, 20, 11, 12, 13, 8, 14, 15, 60, 61, 62, 63, 64, 65, 66, 67, 68, 69, 70, 71, 72, 73, 74, 75, 76] (by decide +kernel) (by decide +kernel)
set_option maxRecDepth 20000 in
theorem gX6_gather_X4_nodesIn : GoodIn wsX6_gather (wsV RX6 70 RX4 yX4_nodesIn wsX4_nodesIn) := goodIn_app (goodIn_of _ (by decide +kernel)) ggX6_gather_X4_nodesIn
set_option maxRecDepth 20000 in
theorem ggX6_gather_X4_byteOf : GoodIn wsX6_gather wsX4_byteOf := goodIn_r _ [24, 25, 26, 27, 28, 8, 29, 30, 60, 61, 62, 63, 64, 65, 66, 67, 68, 69, 70, 71, 72, 73, 74, 75, 76] (by decide +kernel) (by decide +kernel)
set_option maxRecDepth 20000 in
theorem gX6_gather_X4_byteOf : GoodIn wsX6_gather (wsV RX6 73 RX4 yX4_byteOf wsX4_byteOf) := goodIn_app (goodIn_of _ (by decide +kernel)) ggX6_gather_X4_byteOf
set_option maxRecDepth 20000 in
theorem ggX6_gather_X6_isOut : GoodIn wsX6_gather wsX6_isOut := goodIn_r _ [35, 36, 37, 38, 39, 40, 51, 52, 53, 54, 55, 56, 57, 58, 59] (by decide +kernel) (by decide +kernel)
set_option maxRecDepth 20000 in
theorem gX6_gather_X6_isOut : GoodIn wsX6_gather (wsV RX6 76 RX6 yX6_isOut wsX6_isOut) := goodIn_app (goodIn_of _ (by decide +kernel)) ggX6_gather_X6_isOut
set_option maxRecDepth 20000 in
theorem ggX6_gather_X4_countOf : GoodIn wsX6_gather wsX4_countOf := goodIn_r _ [44, 45, 26, 27, 28, 8, 29, 30, 60, 61, 62, 63, 64, 65, 66, 67, 68, 69, 70, 71, 72, 73, 74, 75, 76] (by decide +kernel) (by decide +kernel)
set_option maxRecDepth 20000 in
theorem gX6_gather_X4_countOf : GoodIn wsX6_gather (wsV RX6 80 RX4 yX4_countOf wsX4_countOf) := goodIn_app (goodIn_of _ (by decide +kernel)) ggX6_gather_X4_countOf
set_option maxRecDepth 20000 in
theorem ggX6_gather_X4_nextNode : GoodIn wsX6_gather wsX4_nextNode := goodIn_r _ [49, 50, 26, 27, 28, 8, 29, 30, 60, 61, 62, 63, 64, 65, 66, 67, 68, 69, 70, 71, 72, 73, 74, 75, 76] (by decide +kernel) (by decide +kernel)
set_option maxRecDepth 20000 in
theorem gX6_gather_X4_nextNode : GoodIn wsX6_gather (wsV RX6 83 RX4 yX4_nextNode wsX4_nextNode) := goodIn_app (goodIn_of _ (by decide +kernel)) ggX6_gather_X4_nextNode
set_option maxRecDepth 20000 in
theorem ggX6_tellAmongLive_X6_liveBeginOf : GoodIn wsX6_tellAmongLive wsX6_liveBeginOf := goodIn_r _ [10, 2, 3, 4, 11, 12, 13, 14, 15, 16, 17, 18, 19, 20, 21, 22, 23, 24, 25, 26, 157, 158, 159, 160, 161, 162, 163, 164, 165, 166, 167, 168, 169, 170, 171, 172, 173, 174, 175, 176, 177, 178, 179, 180, 181, 182] (by decide +kernel) (by decide +kernel)
set_option maxRecDepth 20000 in
theorem gX6_tellAmongLive_X6_liveBeginOf : GoodIn wsX6_tellAmongLive (wsV RX6 86 RX6 yX6_liveBeginOf wsX6_liveBeginOf) := goodIn_app (goodIn_of _ (by decide +kernel)) ggX6_tellAmongLive_X6_liveBeginOf
set_option maxRecDepth 20000 in
theorem ggX6_tellAmongLive_X1_placeIn : GoodIn wsX6_tellAmongLive wsX1_placeIn := goodIn_r _ [32, 33, 34, 35, 36, 37, 38, 39, 40, 41, 42, 43, 44, 183, 184, 185, 186, 187, 188, 189, 190, 191] (by decide +kernel) (by decide +kernel)
set_option maxRecDepth 20000 in
theorem gX6_tellAmongLive_X1_placeIn_u89X1 : GoodIn wsX6_tellAmongLive (va_wsU RX6 89 RX1 "EscapeCoder$Interval" ⟨"EscapeCoder$Interval", "placeIn", "(II)I"⟩ yX1_placeIn wsX1_placeIn) := goodIn_app (goodIn_of _ (by decide +kernel)) ggX6_tellAmongLive_X1_placeIn
set_option maxRecDepth 20000 in
theorem ggX6_tellAmongLive_X2_placeIn : GoodIn wsX6_tellAmongLive wsX2_placeIn := goodIn_r _ [48] (by decide +kernel) (by decide +kernel)
set_option maxRecDepth 20000 in
theorem gX6_tellAmongLive_X2_placeIn_u89X2 : GoodIn wsX6_tellAmongLive (va_wsU RX6 89 RX2 "EscapeCoder$Interval" ⟨"EscapeCoder$Interval", "placeIn", "(II)I"⟩ yX2_placeIn wsX2_placeIn) := goodIn_app (goodIn_of _ (by decide +kernel)) ggX6_tellAmongLive_X2_placeIn
set_option maxRecDepth 20000 in
theorem ggX6_tellAmongLive_X4_countOf : GoodIn wsX6_tellAmongLive wsX4_countOf := goodIn_r _ [25, 26, 17, 18, 19, 14, 20, 21, 166, 167, 168, 169, 170, 171, 172, 173, 174, 175, 176, 177, 178, 179, 180, 181, 182] (by decide +kernel) (by decide +kernel)
set_option maxRecDepth 20000 in
theorem gX6_tellAmongLive_X4_countOf : GoodIn wsX6_tellAmongLive (wsV RX6 80 RX4 yX4_countOf wsX4_countOf) := goodIn_app (goodIn_of _ (by decide +kernel)) ggX6_tellAmongLive_X4_countOf
set_option maxRecDepth 20000 in
theorem ggX6_tellAmongLive_X3_narrow : GoodIn wsX6_tellAmongLive wsX3_narrow := goodIn_r _ [53, 44, 54, 55, 56, 57, 58, 59, 41, 42, 43, 60, 61, 62, 63, 64, 31, 65, 33, 66, 67, 47, 68, 69, 70, 71, 72, 73, 74, 75, 76, 77, 78, 79, 80, 81, 82, 83, 84, 85, 86, 87, 88, 89, 90, 91, 92, 93, 94, 95, 96, 97, 98, 99, 100, 101, 102, 103, 104, 105, 106, 107, 108, 109, 110, 111, 112, 113, 114, 115, 36, 116, 117, 118, 119, 120, 121, 122, 123, 124, 125, 126, 127, 128, 129, 130, 131, 132, 183, 184, 185, 186, 187, 188, 189, 190, 191, 192, 193, 194] (by decide +kernel) (by decide +kernel)
set_option maxRecDepth 20000 in
theorem gX6_tellAmongLive_X3_narrow_u95X1 : GoodIn wsX6_tellAmongLive (va_wsU RX6 95 RX1 "EscapeCoder$Interval" ⟨"EscapeCoder$Interval", "narrow", "(III)V"⟩ yX3_narrow wsX3_narrow) := goodIn_app (goodIn_of _ (by decide +kernel)) ggX6_tellAmongLive_X3_narrow
set_option maxRecDepth 20000 in
theorem gX6_tellAmongLive_X3_narrow_u95X2 : GoodIn wsX6_tellAmongLive (va_wsU RX6 95 RX2 "EscapeCoder$Interval" ⟨"EscapeCoder$Interval", "narrow", "(III)V"⟩ yX3_narrow wsX3_narrow) := goodIn_app (goodIn_of _ (by decide +kernel)) ggX6_tellAmongLive_X3_narrow
set_option maxRecDepth 20000 in
theorem ggX6_tellAmongLive_X5_add : GoodIn wsX6_tellAmongLive wsX5_add := goodIn_r _ [138, 139, 140, 141, 112, 92, 113, 114, 115, 36, 116, 142, 143, 119, 144, 145, 146, 123, 124, 147, 148, 149, 128, 129, 130, 131, 132, 195, 196, 197] (by decide +kernel) (by decide +kernel)
set_option maxRecDepth 20000 in
theorem gX6_tellAmongLive_X5_add : GoodIn wsX6_tellAmongLive (wsV RX6 99 RX5 yX5_add wsX5_add) := goodIn_app (goodIn_of _ (by decide +kernel)) ggX6_tellAmongLive_X5_add
set_option maxRecDepth 20000 in
theorem ggX6_tellAmongLive_X4_byteOf : GoodIn wsX6_tellAmongLive wsX4_byteOf := goodIn_r _ [15, 16, 17, 18, 19, 14, 20, 21, 166, 167, 168, 169, 170, 171, 172, 173, 174, 175, 176, 177, 178, 179, 180, 181, 182] (by decide +kernel) (by decide +kernel)
set_option maxRecDepth 20000 in
theorem gX6_tellAmongLive_X4_byteOf : GoodIn wsX6_tellAmongLive (wsV RX6 73 RX4 yX4_byteOf wsX4_byteOf) := goodIn_app (goodIn_of _ (by decide +kernel)) ggX6_tellAmongLive_X4_byteOf
set_option maxRecDepth 20000 in
theorem ggX6_tellAmongLive_X6_putLiveOut : GoodIn wsX6_tellAmongLive wsX6_putLiveOut := goodIn_r _ [153, 2, 3, 4, 154, 155, 156, 11, 12, 13, 14, 15, 16, 17, 18, 19, 20, 21, 91, 92, 93, 157, 158, 159, 160, 161, 162, 163, 164, 165, 166, 167, 168, 169, 170, 171, 172, 173, 174, 175, 176, 177, 178, 179, 180, 181, 182] (by decide +kernel) (by decide +kernel)
set_option maxRecDepth 20000 in
theorem gX6_tellAmongLive_X6_putLiveOut : GoodIn wsX6_tellAmongLive (wsV RX6 105 RX6 yX6_putLiveOut wsX6_putLiveOut) := goodIn_app (goodIn_of _ (by decide +kernel)) ggX6_tellAmongLive_X6_putLiveOut
set_option maxRecDepth 20000 in
theorem ggX6_liveBeginOf_X4_byteOf : GoodIn wsX6_liveBeginOf wsX4_byteOf := goodIn_r _ [8, 9, 10, 11, 12, 7, 13, 14, 29, 30, 31, 32, 33, 34, 35, 36, 37, 38, 39, 40, 41, 42, 43, 44, 45] (by decide +kernel) (by decide +kernel)
set_option maxRecDepth 20000 in
theorem gX6_liveBeginOf_X4_byteOf : GoodIn wsX6_liveBeginOf (wsV RX6 73 RX4 yX4_byteOf wsX4_byteOf) := goodIn_app (goodIn_of _ (by decide +kernel)) ggX6_liveBeginOf_X4_byteOf
set_option maxRecDepth 20000 in
theorem ggX6_liveBeginOf_X4_countOf : GoodIn wsX6_liveBeginOf wsX4_countOf := goodIn_r _ [18, 19, 10, 11, 12, 7, 13, 14, 29, 30, 31, 32, 33, 34, 35, 36, 37, 38, 39, 40, 41, 42, 43, 44, 45] (by decide +kernel) (by decide +kernel)
set_option maxRecDepth 20000 in
theorem gX6_liveBeginOf_X4_countOf : GoodIn wsX6_liveBeginOf (wsV RX6 80 RX4 yX4_countOf wsX4_countOf) := goodIn_app (goodIn_of _ (by decide +kernel)) ggX6_liveBeginOf_X4_countOf
set_option maxRecDepth 20000 in
theorem ggX6_putLiveOut_X4_byteOf : GoodIn wsX6_putLiveOut wsX4_byteOf := goodIn_r _ [11, 12, 13, 14, 15, 10, 16, 17, 30, 31, 32, 33, 34, 35, 36, 37, 38, 39, 40, 41, 42, 43, 44, 45, 46] (by decide +kernel) (by decide +kernel)
set_option maxRecDepth 20000 in
theorem gX6_putLiveOut_X4_byteOf : GoodIn wsX6_putLiveOut (wsV RX6 73 RX4 yX4_byteOf wsX4_byteOf) := goodIn_app (goodIn_of _ (by decide +kernel)) ggX6_putLiveOut_X4_byteOf
set_option maxRecDepth 20000 in
theorem ggX6_putLiveOut_X7_isByte : GoodIn wsX6_putLiveOut wsX7_isByte := goodIn_r _ [20] (by decide +kernel) (by decide +kernel)
set_option maxRecDepth 20000 in
theorem gX6_putLiveOut_X7_isByte_n108 : GoodIn wsX6_putLiveOut (wsX7_isByte) := ggX6_putLiveOut_X7_isByte
set_option maxRecDepth 20000 in
theorem ggX6_isOut_X7_isByte : GoodIn wsX6_isOut wsX7_isByte := goodIn_r _ [5] (by decide +kernel) (by decide +kernel)
set_option maxRecDepth 20000 in
theorem gX6_isOut_X7_isByte_n108 : GoodIn wsX6_isOut (wsX7_isByte) := ggX6_isOut_X7_isByte
set_option maxRecDepth 20000 in
theorem ggX6_tellPlainly_X6_plainBeginOf : GoodIn wsX6_tellPlainly wsX6_plainBeginOf := goodIn_r _ [7, 8, 9, 10, 6, 11, 12, 13, 14, 15, 16, 141, 142, 143, 144, 145, 146, 147, 148, 149] (by decide +kernel) (by decide +kernel)
set_option maxRecDepth 20000 in
theorem gX6_tellPlainly_X6_plainBeginOf : GoodIn wsX6_tellPlainly (wsV RX6 111 RX6 yX6_plainBeginOf wsX6_plainBeginOf) := goodIn_app (goodIn_of _ (by decide +kernel)) ggX6_tellPlainly_X6_plainBeginOf
set_option maxRecDepth 20000 in
theorem ggX6_tellPlainly_X1_placeIn : GoodIn wsX6_tellPlainly wsX1_placeIn := goodIn_r _ [22, 23, 24, 25, 26, 27, 28, 29, 30, 31, 32, 33, 34, 150, 151, 152, 153, 154, 155, 156, 157, 158] (by decide +kernel) (by decide +kernel)
set_option maxRecDepth 20000 in
theorem gX6_tellPlainly_X1_placeIn_u89X1 : GoodIn wsX6_tellPlainly (va_wsU RX6 89 RX1 "EscapeCoder$Interval" ⟨"EscapeCoder$Interval", "placeIn", "(II)I"⟩ yX1_placeIn wsX1_placeIn) := goodIn_app (goodIn_of _ (by decide +kernel)) ggX6_tellPlainly_X1_placeIn
set_option maxRecDepth 20000 in
theorem ggX6_tellPlainly_X2_placeIn : GoodIn wsX6_tellPlainly wsX2_placeIn := goodIn_r _ [38] (by decide +kernel) (by decide +kernel)
set_option maxRecDepth 20000 in
theorem gX6_tellPlainly_X2_placeIn_u89X2 : GoodIn wsX6_tellPlainly (va_wsU RX6 89 RX2 "EscapeCoder$Interval" ⟨"EscapeCoder$Interval", "placeIn", "(II)I"⟩ yX2_placeIn wsX2_placeIn) := goodIn_app (goodIn_of _ (by decide +kernel)) ggX6_tellPlainly_X2_placeIn
set_option maxRecDepth 20000 in
theorem ggX6_tellPlainly_X3_narrow : GoodIn wsX6_tellPlainly wsX3_narrow := goodIn_r _ [43, 34, 44, 45, 46, 47, 48, 49, 31, 32, 33, 50, 51, 52, 53, 54, 21, 55, 23, 56, 57, 37, 58, 59, 60, 61, 62, 63, 64, 65, 66, 67, 68, 69, 70, 71, 72, 73, 74, 75, 76, 77, 78, 79, 80, 14, 15, 16, 81, 82, 83, 84, 85, 86, 87, 88, 89, 90, 91, 92, 93, 94, 95, 96, 97, 98, 99, 100, 101, 102, 26, 103, 104, 105, 106, 107, 108, 109, 110, 111, 112, 113, 114, 115, 116, 117, 118, 119, 150, 151, 152, 153, 154, 155, 156, 157, 158, 159, 160, 161] (by decide +kernel) (by decide +kernel)
set_option maxRecDepth 20000 in
theorem gX6_tellPlainly_X3_narrow_u95X1 : GoodIn wsX6_tellPlainly (va_wsU RX6 95 RX1 "EscapeCoder$Interval" ⟨"EscapeCoder$Interval", "narrow", "(III)V"⟩ yX3_narrow wsX3_narrow) := goodIn_app (goodIn_of _ (by decide +kernel)) ggX6_tellPlainly_X3_narrow
end
section
set_option maxRecDepth 20000 in
theorem gX6_tellPlainly_X3_narrow_u95X2 : GoodIn wsX6_tellPlainly (va_wsU RX6 95 RX2 "EscapeCoder$Interval" ⟨"EscapeCoder$Interval", "narrow", "(III)V"⟩ yX3_narrow wsX3_narrow) := goodIn_app (goodIn_of _ (by decide +kernel)) ggX6_tellPlainly_X3_narrow
set_option maxRecDepth 20000 in
theorem ggX6_tellPlainly_X5_add : GoodIn wsX6_tellPlainly wsX5_add := goodIn_r _ [125, 126, 127, 128, 99, 15, 100, 101, 102, 26, 103, 129, 130, 106, 131, 132, 133, 110, 111, 134, 135, 136, 115, 116, 117, 118, 119, 162, 163, 164] (by decide +kernel) (by decide +kernel)
set_option maxRecDepth 20000 in
theorem gX6_tellPlainly_X5_add : GoodIn wsX6_tellPlainly (wsV RX6 99 RX5 yX5_add wsX5_add) := goodIn_app (goodIn_of _ (by decide +kernel)) ggX6_tellPlainly_X5_add
set_option maxRecDepth 20000 in
theorem ggX6_tellPlainly_X6_plainSymbolAt : GoodIn wsX6_tellPlainly wsX6_plainSymbolAt := goodIn_r _ [140, 8, 9, 10, 6, 11, 12, 13, 14, 15, 16, 141, 142, 143, 144, 145, 146, 147, 148, 149] (by decide +kernel) (by decide +kernel)
set_option maxRecDepth 20000 in
theorem gX6_tellPlainly_X6_plainSymbolAt : GoodIn wsX6_tellPlainly (wsV RX6 114 RX6 yX6_plainSymbolAt wsX6_plainSymbolAt) := goodIn_app (goodIn_of _ (by decide +kernel)) ggX6_tellPlainly_X6_plainSymbolAt
set_option maxRecDepth 20000 in
theorem ggX6_plainBeginOf_X6_isOut : GoodIn wsX6_plainBeginOf wsX6_isOut := goodIn_r _ [5, 6, 7, 8, 9, 10, 11, 12, 13, 14, 15, 16, 17, 18, 19] (by decide +kernel) (by decide +kernel)
set_option maxRecDepth 20000 in
theorem gX6_plainBeginOf_X6_isOut : GoodIn wsX6_plainBeginOf (wsV RX6 76 RX6 yX6_isOut wsX6_isOut) := goodIn_app (goodIn_of _ (by decide +kernel)) ggX6_plainBeginOf_X6_isOut
set_option maxRecDepth 20000 in
theorem ggX6_plainSymbolAt_X6_isOut : GoodIn wsX6_plainSymbolAt wsX6_isOut := goodIn_r _ [5, 6, 7, 8, 9, 10, 11, 12, 13, 14, 15, 16, 17, 18, 19] (by decide +kernel) (by decide +kernel)
set_option maxRecDepth 20000 in
theorem gX6_plainSymbolAt_X6_isOut : GoodIn wsX6_plainSymbolAt (wsV RX6 76 RX6 yX6_isOut wsX6_isOut) := goodIn_app (goodIn_of _ (by decide +kernel)) ggX6_plainSymbolAt_X6_isOut
set_option maxRecDepth 20000 in
theorem ggX7_init_X0_init : GoodIn wsX7_init wsX0_init := goodIn_r _ [32, 33, 2, 3, 34, 35, 36, 81, 82, 83] (by decide +kernel) (by decide +kernel)
set_option maxRecDepth 20000 in
theorem gX7_init_X0_init : GoodIn wsX7_init (wsX0_init) := ggX7_init_X0_init
set_option maxRecDepth 20000 in
theorem ggX7_init_X5_init : GoodIn wsX7_init wsX5_init := goodIn_r _ [39, 40, 2, 3, 41, 42, 94, 95, 96] (by decide +kernel) (by decide +kernel)
set_option maxRecDepth 20000 in
theorem gX7_init_X5_init : GoodIn wsX7_init (wsX5_init) := ggX7_init_X5_init
set_option maxRecDepth 20000 in
theorem ggX7_init_X4_init : GoodIn wsX7_init wsX4_init := goodIn_r _ [45, 46, 2, 3, 47, 35, 48, 49, 50, 51, 52, 53, 54, 55, 56, 57, 58, 59, 60, 97, 98, 99, 100, 101, 102, 103, 104, 105, 106, 107, 108, 109, 110, 111, 112, 113] (by decide +kernel) (by decide +kernel)
set_option maxRecDepth 20000 in
theorem gX7_init_X4_init : GoodIn wsX7_init (wsX4_init) := ggX7_init_X4_init
set_option maxRecDepth 20000 in
theorem ggX7_init_X6_init : GoodIn wsX7_init wsX6_init := goodIn_r _ [63, 64, 2, 3, 65, 66, 35, 67, 68, 114, 115, 116, 117, 118, 119, 120, 121, 122] (by decide +kernel) (by decide +kernel)
set_option maxRecDepth 20000 in
theorem gX7_init_X6_init : GoodIn wsX7_init (wsX6_init) := ggX7_init_X6_init
set_option maxRecDepth 20000 in
theorem ggX7_init_X2_init : GoodIn wsX7_init wsX2_init := goodIn_r _ [71, 72, 73, 74, 75, 76, 2, 3, 123, 124, 125, 126] (by decide +kernel) (by decide +kernel)
set_option maxRecDepth 20000 in
theorem gX7_init_X2_init : GoodIn wsX7_init (wsX2_init) := ggX7_init_X2_init
set_option maxRecDepth 20000 in
theorem ggX7_init_X1_init : GoodIn wsX7_init wsX1_init := goodIn_r _ [79, 80, 73, 74, 75, 76, 2, 3, 127, 128, 129, 130, 131] (by decide +kernel) (by decide +kernel)
set_option maxRecDepth 20000 in
theorem gX7_init_X1_init : GoodIn wsX7_init (wsX1_init) := ggX7_init_X1_init
set_option maxRecDepth 20000 in
theorem ggX7_begin_X0_clear : GoodIn wsX7_begin wsX0_clear := goodIn_r _ [12, 13, 55, 56, 57] (by decide +kernel) (by decide +kernel)
set_option maxRecDepth 20000 in
theorem gX7_begin_X0_clear : GoodIn wsX7_begin (wsV RX7 63 RX0 yX0_clear wsX0_clear) := goodIn_app (goodIn_of _ (by decide +kernel)) ggX7_begin_X0_clear
set_option maxRecDepth 20000 in
theorem ggX7_begin_X5_clear : GoodIn wsX7_begin wsX5_clear := goodIn_r _ [18, 19, 20, 58, 59, 60] (by decide +kernel) (by decide +kernel)
set_option maxRecDepth 20000 in
theorem gX7_begin_X5_clear : GoodIn wsX7_begin (wsV RX7 66 RX5 yX5_clear wsX5_clear) := goodIn_app (goodIn_of _ (by decide +kernel)) ggX7_begin_X5_clear
set_option maxRecDepth 20000 in
theorem ggX7_begin_X4_restart : GoodIn wsX7_begin wsX4_restart := goodIn_r _ [25, 26, 27, 28, 29, 30, 31, 24, 32, 33, 34, 35, 36, 37, 38, 39, 61, 62, 63, 64, 65, 66, 67, 68, 69, 70, 71, 72, 73, 74, 75, 76, 77] (by decide +kernel) (by decide +kernel)
set_option maxRecDepth 20000 in
theorem gX7_begin_X4_restart : GoodIn wsX7_begin (wsV RX7 67 RX4 yX4_restart wsX4_restart) := goodIn_app (goodIn_of _ (by decide +kernel)) ggX7_begin_X4_restart
set_option maxRecDepth 20000 in
theorem ggX7_begin_X4_limitTo : GoodIn wsX7_begin wsX4_limitTo := goodIn_r _ [43, 44, 61, 62, 63, 64, 65, 66, 67, 68, 69, 70, 71, 72, 73, 74, 75, 76, 77] (by decide +kernel) (by decide +kernel)
set_option maxRecDepth 20000 in
theorem gX7_begin_X4_limitTo : GoodIn wsX7_begin (wsV RX7 70 RX4 yX4_limitTo wsX4_limitTo) := goodIn_app (goodIn_of _ (by decide +kernel)) ggX7_begin_X4_limitTo
set_option maxRecDepth 20000 in
theorem ggX7_feed_X0_add : GoodIn wsX7_feed wsX0_add := goodIn_r _ [6, 7, 8, 9, 10, 11, 12, 13, 14, 15, 16, 17, 18, 19, 20, 21, 22, 23, 24, 25, 26, 27, 28, 29, 30, 31, 32, 33, 34, 45, 46, 47] (by decide +kernel) (by decide +kernel)
set_option maxRecDepth 20000 in
theorem gX7_feed_X0_add : GoodIn wsX7_feed (wsV RX7 80 RX0 yX0_add wsX0_add) := goodIn_app (goodIn_of _ (by decide +kernel)) ggX7_feed_X0_add
set_option maxRecDepth 20000 in
theorem ggX7_cut_X0_shorten : GoodIn wsX7_cut wsX0_shorten := goodIn_r _ [6, 7, 18, 19, 20] (by decide +kernel) (by decide +kernel)
set_option maxRecDepth 20000 in
theorem gX7_cut_X0_shorten : GoodIn wsX7_cut (wsV RX7 84 RX0 yX0_shorten wsX0_shorten) := goodIn_app (goodIn_of _ (by decide +kernel)) ggX7_cut_X0_shorten
set_option maxRecDepth 20000 in
theorem ggX7_encode_X5_clear : GoodIn wsX7_encode wsX5_clear := goodIn_r _ [11, 12, 13, 351, 352, 353] (by decide +kernel) (by decide +kernel)
set_option maxRecDepth 20000 in
theorem gX7_encode_X5_clear : GoodIn wsX7_encode (wsV RX7 66 RX5 yX5_clear wsX5_clear) := goodIn_app (goodIn_of _ (by decide +kernel)) ggX7_encode_X5_clear
set_option maxRecDepth 20000 in
theorem ggX7_encode_X4_restart : GoodIn wsX7_encode wsX4_restart := goodIn_r _ [18, 19, 20, 21, 22, 23, 24, 17, 25, 26, 27, 28, 29, 30, 31, 32, 354, 355, 356, 357, 358, 359, 360, 361, 362, 363, 364, 365, 366, 367, 368, 369, 370] (by decide +kernel) (by decide +kernel)
set_option maxRecDepth 20000 in
theorem gX7_encode_X4_restart : GoodIn wsX7_encode (wsV RX7 67 RX4 yX4_restart wsX4_restart) := goodIn_app (goodIn_of _ (by decide +kernel)) ggX7_encode_X4_restart
set_option maxRecDepth 20000 in
theorem ggX7_encode_X2_restart : GoodIn wsX7_encode wsX2_restart := goodIn_r _ [37, 38, 39, 40, 41, 42, 43, 44, 45, 46, 47, 48, 49, 50, 51, 52, 53, 54, 371, 372, 373, 374, 375, 376, 377, 378, 379, 380, 381, 382] (by decide +kernel) (by decide +kernel)
set_option maxRecDepth 20000 in
theorem gX7_encode_X2_restart : GoodIn wsX7_encode (wsV RX7 87 RX2 yX2_restart wsX2_restart) := goodIn_app (goodIn_of _ (by decide +kernel)) ggX7_encode_X2_restart
set_option maxRecDepth 20000 in
theorem ggX7_encode_X0_length : GoodIn wsX7_encode wsX0_length := goodIn_r _ [58, 54, 380, 381, 382] (by decide +kernel) (by decide +kernel)
set_option maxRecDepth 20000 in
theorem gX7_encode_X0_length : GoodIn wsX7_encode (wsV RX7 88 RX0 yX0_length wsX0_length) := goodIn_app (goodIn_of _ (by decide +kernel)) ggX7_encode_X0_length
set_option maxRecDepth 20000 in
theorem ggX7_encode_X0_byteAt : GoodIn wsX7_encode wsX0_byteAt := goodIn_r _ [62, 54, 63, 380, 381, 382] (by decide +kernel) (by decide +kernel)
set_option maxRecDepth 20000 in
theorem gX7_encode_X0_byteAt : GoodIn wsX7_encode (wsV RX7 92 RX0 yX0_byteAt wsX0_byteAt) := goodIn_app (goodIn_of _ (by decide +kernel)) ggX7_encode_X0_byteAt
set_option maxRecDepth 20000 in
theorem ggX7_encode_X6_tell : GoodIn wsX7_encode wsX6_tell := goodIn_r _ [68, 69, 70, 71, 72, 73, 74, 75, 76, 17, 77, 19, 78, 79, 80, 81, 82, 83, 84, 85, 86, 87, 88, 89, 90, 91, 92, 93, 27, 26, 28, 94, 30, 31, 32, 95, 96, 97, 98, 99, 100, 101, 67, 102, 103, 104, 105, 106, 107, 108, 109, 110, 111, 112, 113, 114, 115, 116, 117, 118, 119, 120, 121, 122, 123, 29, 124, 125, 126, 127, 128, 129, 130, 131, 132, 133, 134, 135, 136, 137, 138, 139, 140, 141, 142, 143, 144, 145, 146, 147, 148, 149, 150, 151, 152, 153, 154, 155, 156, 157, 158, 159, 160, 161, 162, 44, 163, 47, 164, 165, 36, 166, 167, 168, 169, 170, 171, 172, 173, 48, 174, 175, 176, 177, 178, 179, 180, 181, 182, 183, 184, 185, 39, 186, 187, 188, 189, 190, 38, 191, 56, 57, 52, 58, 54, 192, 60, 61, 62, 63, 193, 194, 195, 196, 197, 198, 199, 200, 201, 202, 203, 204, 205, 206, 207, 208, 209, 210, 211, 212, 213, 214, 215, 216, 217, 218, 219, 220, 221, 222, 223, 224, 225, 226, 227, 228, 229, 230, 231, 232, 233, 234, 235, 236, 237, 238, 239, 10, 240, 12, 241, 13, 242, 243, 244, 245, 246, 247, 248, 249, 250, 251, 252, 253, 254, 255, 256, 257, 258, 259, 260, 261, 262, 263, 264, 265, 383, 384, 385, 386, 387, 388, 389, 390, 391, 354, 355, 356, 357, 358, 359, 360, 361, 362, 363, 364, 365, 366, 367, 368, 369, 370, 375, 376, 377, 378, 379, 371, 372, 373, 374, 380, 381, 382, 351, 352, 353] (by decide +kernel) (by decide +kernel)
set_option maxRecDepth 20000 in
theorem gX7_encode_X6_tell : GoodIn wsX7_encode (wsV RX7 96 RX6 yX6_tell wsX6_tell) := goodIn_app (goodIn_of _ (by decide +kernel)) ggX7_encode_X6_tell
set_option maxRecDepth 20000 in
theorem ggX7_encode_X6_toldOrder : GoodIn wsX7_encode wsX6_toldOrder := goodIn_r _ [269, 73, 383, 384, 385, 386, 387, 388, 389, 390, 391] (by decide +kernel) (by decide +kernel)
set_option maxRecDepth 20000 in
theorem gX7_encode_X6_toldOrder : GoodIn wsX7_encode (wsV RX7 100 RX6 yX6_toldOrder wsX6_toldOrder) := goodIn_app (goodIn_of _ (by decide +kernel)) ggX7_encode_X6_toldOrder
set_option maxRecDepth 20000 in
theorem ggX7_encode_X4_learn : GoodIn wsX7_encode wsX4_learn := goodIn_r _ [273, 274, 275, 157, 276, 19, 82, 83, 277, 218, 219, 278, 79, 80, 17, 81, 84, 85, 86, 87, 88, 89, 279, 280, 281, 282, 133, 29, 283, 21, 284, 91, 92, 93, 27, 26, 28, 94, 30, 31, 32, 95, 96, 97, 98, 285, 286, 287, 288, 289, 106, 107, 108, 109, 290, 111, 112, 113, 114, 291, 116, 117, 118, 119, 120, 121, 122, 123, 292, 135, 136, 137, 138, 293, 294, 295, 296, 20, 22, 23, 24, 25, 297, 298, 299, 300, 301, 302, 303, 304, 305, 215, 216, 217, 306, 221, 222, 223, 224, 225, 226, 227, 228, 229, 230, 231, 232, 233, 234, 235, 307, 308, 309, 310, 311, 312, 313, 314, 354, 355, 356, 357, 358, 359, 360, 361, 362, 363, 364, 365, 366, 367, 368, 369, 370] (by decide +kernel) (by decide +kernel)
set_option maxRecDepth 20000 in
theorem gX7_encode_X4_learn : GoodIn wsX7_encode (wsV RX7 103 RX4 yX4_learn wsX4_learn) := goodIn_app (goodIn_of _ (by decide +kernel)) ggX7_encode_X4_learn
set_option maxRecDepth 20000 in
theorem ggX7_encode_X7_noteEnd : GoodIn wsX7_encode wsX7_noteEnd := goodIn_r _ [318, 319, 320, 321, 322, 323, 324, 44, 325, 48, 326, 327, 328, 329, 330, 331, 47, 332, 341, 342, 343, 344, 345, 346, 347, 348, 349, 350, 375, 376, 377, 378, 379, 371, 372, 373, 374] (by decide +kernel) (by decide +kernel)
set_option maxRecDepth 20000 in
theorem gX7_encode_X7_noteEnd : GoodIn wsX7_encode (wsV RX7 107 RX7 yX7_noteEnd wsX7_noteEnd) := goodIn_app (goodIn_of _ (by decide +kernel)) ggX7_encode_X7_noteEnd
set_option maxRecDepth 20000 in
theorem ggX7_encode_X2_finish : GoodIn wsX7_encode wsX2_finish := goodIn_r _ [336, 38, 39, 337, 338, 339, 340, 324, 44, 325, 48, 49, 50, 51, 52, 53, 54, 210, 211, 212, 213, 214, 63, 88, 85, 89, 215, 216, 217, 218, 157, 219, 220, 221, 222, 223, 224, 225, 226, 227, 228, 229, 230, 231, 232, 233, 234, 235, 371, 372, 373, 374, 375, 376, 377, 378, 379, 380, 381, 382] (by decide +kernel) (by decide +kernel)
set_option maxRecDepth 20000 in
theorem gX7_encode_X2_finish : GoodIn wsX7_encode (wsV RX7 111 RX2 yX2_finish wsX2_finish) := goodIn_app (goodIn_of _ (by decide +kernel)) ggX7_encode_X2_finish
set_option maxRecDepth 20000 in
theorem ggX7_decode_X5_clear : GoodIn wsX7_decode wsX5_clear := goodIn_r _ [10, 11, 12, 352, 353, 354] (by decide +kernel) (by decide +kernel)
set_option maxRecDepth 20000 in
theorem gX7_decode_X5_clear : GoodIn wsX7_decode (wsV RX7 66 RX5 yX5_clear wsX5_clear) := goodIn_app (goodIn_of _ (by decide +kernel)) ggX7_decode_X5_clear
set_option maxRecDepth 20000 in
theorem ggX7_decode_X4_restart : GoodIn wsX7_decode wsX4_restart := goodIn_r _ [17, 18, 19, 20, 21, 22, 23, 16, 24, 25, 26, 27, 28, 29, 30, 31, 355, 356, 357, 358, 359, 360, 361, 362, 363, 364, 365, 366, 367, 368, 369, 370, 371] (by decide +kernel) (by decide +kernel)
set_option maxRecDepth 20000 in
theorem gX7_decode_X4_restart : GoodIn wsX7_decode (wsV RX7 67 RX4 yX4_restart wsX4_restart) := goodIn_app (goodIn_of _ (by decide +kernel)) ggX7_decode_X4_restart
set_option maxRecDepth 20000 in
theorem ggX7_decode_X1_restart : GoodIn wsX7_decode wsX1_restart := goodIn_r _ [36, 37, 38, 39, 40, 41, 42, 43, 44, 45, 46, 47, 48, 49, 50, 35, 51, 52, 53, 54, 55, 56, 57, 58, 59, 60, 61, 62, 63, 64, 372, 373, 374, 375, 376, 377, 378, 379, 380, 381, 382, 383] (by decide +kernel) (by decide +kernel)
set_option maxRecDepth 20000 in
theorem gX7_decode_X1_restart : GoodIn wsX7_decode (wsV RX7 115 RX1 yX1_restart wsX1_restart) := goodIn_app (goodIn_of _ (by decide +kernel)) ggX7_decode_X1_restart
set_option maxRecDepth 20000 in
theorem ggX7_decode_X0_clear : GoodIn wsX7_decode wsX0_clear := goodIn_r _ [68, 59, 381, 382, 383] (by decide +kernel) (by decide +kernel)
set_option maxRecDepth 20000 in
theorem gX7_decode_X0_clear : GoodIn wsX7_decode (wsV RX7 63 RX0 yX0_clear wsX0_clear) := goodIn_app (goodIn_of _ (by decide +kernel)) ggX7_decode_X0_clear
set_option maxRecDepth 20000 in
theorem ggX7_decode_X7_readUpToEnd : GoodIn wsX7_decode wsX7_readUpToEnd := goodIn_r _ [73, 74, 3, 4, 2, 75, 76, 77, 78, 79, 80, 81, 82, 83, 84, 85, 86, 87, 16, 88, 18, 89, 90, 91, 92, 93, 94, 95, 72, 96, 97, 98, 99, 100, 101, 102, 103, 26, 25, 27, 104, 29, 30, 31, 105, 106, 107, 108, 109, 110, 111, 112, 113, 114, 115, 116, 117, 118, 119, 120, 121, 122, 123, 124, 125, 126, 127, 128, 129, 130, 131, 132, 133, 28, 134, 135, 136, 137, 138, 139, 140, 141, 142, 143, 144, 145, 146, 147, 148, 149, 150, 151, 152, 153, 154, 155, 156, 157, 158, 159, 160, 161, 35, 162, 37, 163, 164, 165, 166, 167, 168, 169, 170, 43, 171, 46, 172, 173, 174, 175, 176, 177, 178, 179, 180, 181, 182, 47, 183, 184, 185, 186, 187, 188, 189, 190, 191, 192, 193, 194, 195, 196, 197, 198, 199, 200, 201, 202, 55, 56, 57, 58, 59, 203, 61, 62, 63, 64, 204, 205, 206, 207, 208, 209, 210, 49, 51, 52, 38, 53, 54, 60, 211, 212, 213, 214, 215, 216, 217, 218, 219, 220, 221, 222, 223, 224, 225, 226, 227, 228, 229, 230, 231, 232, 233, 234, 235, 236, 237, 238, 239, 240, 241, 242, 243, 9, 244, 11, 245, 12, 246, 247, 248, 249, 250, 251, 252, 253, 254, 255, 256, 257, 258, 259, 260, 261, 262, 263, 264, 265, 266, 267, 268, 269, 270, 271, 272, 273, 274, 275, 276, 277, 278, 279, 280, 281, 282, 283, 284, 285, 286, 287, 288, 20, 289, 290, 291, 292, 293, 294, 295, 296, 297, 298, 299, 300, 301, 19, 21, 22, 23, 24, 302, 303, 304, 305, 306, 307, 308, 309, 310, 311, 312, 313, 314, 315, 316, 317, 318, 319, 342, 343, 344, 345, 346, 347, 348, 349, 350, 351, 384, 385, 386, 387, 388, 389, 390, 391, 392, 355, 356, 357, 358, 359, 360, 361, 362, 363, 364, 365, 366, 367, 368, 369, 370, 371, 372, 373, 374, 375, 376, 377, 378, 379, 380, 381, 382, 383, 352, 353, 354] (by decide +kernel) (by decide +kernel)
set_option maxRecDepth 20000 in
theorem gX7_decode_X7_readUpToEnd : GoodIn wsX7_decode (wsV RX7 116 RX7 yX7_readUpToEnd wsX7_readUpToEnd) := goodIn_app (goodIn_of _ (by decide +kernel)) ggX7_decode_X7_readUpToEnd
set_option maxRecDepth 20000 in
theorem ggX7_decode_X7_noteEnd : GoodIn wsX7_decode wsX7_noteEnd := goodIn_r _ [323, 324, 325, 326, 327, 328, 329, 43, 330, 47, 331, 332, 333, 334, 335, 336, 46, 337, 342, 343, 344, 345, 346, 347, 348, 349, 350, 351, 372, 373, 374, 375, 376, 377, 378, 379, 380] (by decide +kernel) (by decide +kernel)
set_option maxRecDepth 20000 in
theorem gX7_decode_X7_noteEnd : GoodIn wsX7_decode (wsV RX7 107 RX7 yX7_noteEnd wsX7_noteEnd) := goodIn_app (goodIn_of _ (by decide +kernel)) ggX7_decode_X7_noteEnd
set_option maxRecDepth 20000 in
theorem ggX7_decode_X0_length : GoodIn wsX7_decode wsX0_length := goodIn_r _ [58, 59, 381, 382, 383] (by decide +kernel) (by decide +kernel)
set_option maxRecDepth 20000 in
theorem gX7_decode_X0_length : GoodIn wsX7_decode (wsV RX7 88 RX0 yX0_length wsX0_length) := goodIn_app (goodIn_of _ (by decide +kernel)) ggX7_decode_X0_length
set_option maxRecDepth 20000 in
theorem ggX7_decode_X3_shifts : GoodIn wsX7_decode wsX3_shifts := goodIn_r _ [330, 47, 372, 373, 374, 375, 376, 377, 378, 379, 380] (by decide +kernel) (by decide +kernel)
set_option maxRecDepth 20000 in
theorem gX7_decode_X3_shifts_u119X1 : GoodIn wsX7_decode (va_wsU RX7 119 RX1 "EscapeCoder$Interval" ⟨"EscapeCoder$CodeReader", "shifts", "()I"⟩ yX3_shifts wsX3_shifts) := goodIn_app (goodIn_of _ (by decide +kernel)) ggX7_decode_X3_shifts
set_option maxRecDepth 20000 in
theorem ggX7_push_X0_add : GoodIn wsX7_push wsX0_add := goodIn_r _ [6, 7, 8, 9, 10, 11, 12, 13, 14, 15, 16, 17, 18, 19, 20, 21, 22, 23, 24, 25, 26, 27, 28, 29, 30, 31, 32, 33, 34, 45, 46, 47] (by decide +kernel) (by decide +kernel)
set_option maxRecDepth 20000 in
theorem gX7_push_X0_add : GoodIn wsX7_push (wsV RX7 80 RX0 yX0_add wsX0_add) := goodIn_app (goodIn_of _ (by decide +kernel)) ggX7_push_X0_add
set_option maxRecDepth 20000 in
theorem ggX7_change_X0_put : GoodIn wsX7_change wsX0_put := goodIn_r _ [6, 7, 8, 9, 10, 11, 22, 23, 24] (by decide +kernel) (by decide +kernel)
set_option maxRecDepth 20000 in
theorem gX7_change_X0_put : GoodIn wsX7_change (wsV RX7 122 RX0 yX0_put wsX0_put) := goodIn_app (goodIn_of _ (by decide +kernel)) ggX7_change_X0_put
set_option maxRecDepth 20000 in
theorem ggX7_keep_X0_shorten : GoodIn wsX7_keep wsX0_shorten := goodIn_r _ [6, 7, 18, 19, 20] (by decide +kernel) (by decide +kernel)
set_option maxRecDepth 20000 in
theorem gX7_keep_X0_shorten : GoodIn wsX7_keep (wsV RX7 84 RX0 yX0_shorten wsX0_shorten) := goodIn_app (goodIn_of _ (by decide +kernel)) ggX7_keep_X0_shorten
set_option maxRecDepth 20000 in
theorem ggX7_at_X7_rowOf : GoodIn wsX7_at wsX7_rowOf := goodIn_r _ [5, 6, 7, 8, 16, 17, 18, 19, 20, 21, 22, 23, 24, 25] (by decide +kernel) (by decide +kernel)
set_option maxRecDepth 20000 in
theorem gX7_at_X7_rowOf : GoodIn wsX7_at (wsV RX7 126 RX7 yX7_rowOf wsX7_rowOf) := goodIn_app (goodIn_of _ (by decide +kernel)) ggX7_at_X7_rowOf
set_option maxRecDepth 20000 in
theorem ggX7_at_X0_byteAt : GoodIn wsX7_at wsX0_byteAt := goodIn_r _ [13, 14, 15, 26, 27, 28] (by decide +kernel) (by decide +kernel)
set_option maxRecDepth 20000 in
theorem gX7_at_X0_byteAt : GoodIn wsX7_at (wsV RX7 92 RX0 yX0_byteAt wsX0_byteAt) := goodIn_app (goodIn_of _ (by decide +kernel)) ggX7_at_X0_byteAt
set_option maxRecDepth 20000 in
theorem ggX7_size_X7_rowOf : GoodIn wsX7_size wsX7_rowOf := goodIn_r _ [5, 6, 7, 8, 15, 16, 17, 18, 19, 20, 21, 22, 23, 24] (by decide +kernel) (by decide +kernel)
set_option maxRecDepth 20000 in
theorem gX7_size_X7_rowOf : GoodIn wsX7_size (wsV RX7 126 RX7 yX7_rowOf wsX7_rowOf) := goodIn_app (goodIn_of _ (by decide +kernel)) ggX7_size_X7_rowOf
set_option maxRecDepth 20000 in
theorem ggX7_size_X0_length : GoodIn wsX7_size wsX0_length := goodIn_r _ [13, 14, 25, 26, 27] (by decide +kernel) (by decide +kernel)
set_option maxRecDepth 20000 in
theorem gX7_size_X0_length : GoodIn wsX7_size (wsV RX7 88 RX0 yX0_length wsX0_length) := goodIn_app (goodIn_of _ (by decide +kernel)) ggX7_size_X0_length
set_option maxRecDepth 20000 in
theorem ggX7_step_X5_answer : GoodIn wsX7_step wsX5_answer := goodIn_r _ [6, 7, 8, 9, 10, 21, 22, 23] (by decide +kernel) (by decide +kernel)
set_option maxRecDepth 20000 in
theorem gX7_step_X5_answer : GoodIn wsX7_step (wsV RX7 130 RX5 yX5_answer wsX5_answer) := goodIn_app (goodIn_of _ (by decide +kernel)) ggX7_step_X5_answer
set_option maxRecDepth 20000 in
theorem ggX7_count_X5_made : GoodIn wsX7_count wsX5_made := goodIn_r _ [10, 11, 48, 49, 50] (by decide +kernel) (by decide +kernel)
set_option maxRecDepth 20000 in
theorem gX7_count_X5_made : GoodIn wsX7_count (wsV RX7 134 RX5 yX5_made wsX5_made) := goodIn_app (goodIn_of _ (by decide +kernel)) ggX7_count_X5_made
set_option maxRecDepth 20000 in
theorem ggX7_count_X5_escapes : GoodIn wsX7_count wsX5_escapes := goodIn_r _ [15, 16, 48, 49, 50] (by decide +kernel) (by decide +kernel)
set_option maxRecDepth 20000 in
theorem gX7_count_X5_escapes : GoodIn wsX7_count (wsV RX7 137 RX5 yX5_escapes wsX5_escapes) := goodIn_app (goodIn_of _ (by decide +kernel)) ggX7_count_X5_escapes
set_option maxRecDepth 20000 in
theorem ggX7_count_X4_rescalings : GoodIn wsX7_count wsX4_rescalings := goodIn_r _ [21, 22, 51, 52, 53, 54, 55, 56, 57, 58, 59, 60, 61, 62, 63, 64, 65, 66, 67] (by decide +kernel) (by decide +kernel)
set_option maxRecDepth 20000 in
theorem gX7_count_X4_rescalings : GoodIn wsX7_count (wsV RX7 140 RX4 yX4_rescalings wsX4_rescalings) := goodIn_app (goodIn_of _ (by decide +kernel)) ggX7_count_X4_rescalings
set_option maxRecDepth 20000 in
theorem ggX7_count_X4_resets : GoodIn wsX7_count wsX4_resets := goodIn_r _ [26, 27, 51, 52, 53, 54, 55, 56, 57, 58, 59, 60, 61, 62, 63, 64, 65, 66, 67] (by decide +kernel) (by decide +kernel)
set_option maxRecDepth 20000 in
theorem gX7_count_X4_resets : GoodIn wsX7_count (wsV RX7 143 RX4 yX4_resets wsX4_resets) := goodIn_app (goodIn_of _ (by decide +kernel)) ggX7_count_X4_resets
set_option maxRecDepth 20000 in
theorem ggX7_count_X4_nodes : GoodIn wsX7_count wsX4_nodes := goodIn_r _ [31, 32, 51, 52, 53, 54, 55, 56, 57, 58, 59, 60, 61, 62, 63, 64, 65, 66, 67] (by decide +kernel) (by decide +kernel)
set_option maxRecDepth 20000 in
theorem gX7_count_X4_nodes : GoodIn wsX7_count (wsV RX7 146 RX4 yX4_nodes wsX4_nodes) := goodIn_app (goodIn_of _ (by decide +kernel)) ggX7_count_X4_nodes
set_option maxRecDepth 20000 in
theorem ggX7_count_X4_contexts : GoodIn wsX7_count wsX4_contexts := goodIn_r _ [36, 37, 51, 52, 53, 54, 55, 56, 57, 58, 59, 60, 61, 62, 63, 64, 65, 66, 67] (by decide +kernel) (by decide +kernel)
set_option maxRecDepth 20000 in
theorem gX7_count_X4_contexts : GoodIn wsX7_count (wsV RX7 149 RX4 yX4_contexts wsX4_contexts) := goodIn_app (goodIn_of _ (by decide +kernel)) ggX7_count_X4_contexts
set_option maxRecDepth 20000 in
theorem ggX7_learnt_X7_keyOf : GoodIn wsX7_learnt wsX7_keyOf := goodIn_r _ [5, 6, 7, 4, 8] (by decide +kernel) (by decide +kernel)
set_option maxRecDepth 20000 in
theorem gX7_learnt_X7_keyOf : GoodIn wsX7_learnt (va_wsS RX7 154 yX7_keyOf wsX7_keyOf) := goodIn_app (goodIn_of _ (by decide +kernel)) ggX7_learnt_X7_keyOf
set_option maxRecDepth 20000 in
theorem ggX7_learnt_X4_find : GoodIn wsX7_learnt wsX4_find := goodIn_r _ [13, 14, 15, 16, 17, 18, 19, 12, 20, 21, 22, 23, 24, 69, 70, 71, 72, 73, 74, 75, 76, 77, 78, 79, 80, 81, 82, 83, 84, 85] (by decide +kernel) (by decide +kernel)
set_option maxRecDepth 20000 in
theorem gX7_learnt_X4_find : GoodIn wsX7_learnt (wsV RX7 158 RX4 yX4_find wsX4_find) := goodIn_app (goodIn_of _ (by decide +kernel)) ggX7_learnt_X4_find
set_option maxRecDepth 20000 in
theorem ggX7_learnt_X4_nodeOfByte : GoodIn wsX7_learnt wsX4_nodeOfByte := goodIn_r _ [28, 29, 30, 31, 12, 32, 33, 21, 22, 23, 24, 15, 34, 35, 36, 37, 38, 39, 40, 41, 42, 43, 44, 45, 46, 47, 48, 49, 50, 51, 52, 53, 69, 70, 71, 72, 73, 74, 75, 76, 77, 78, 79, 80, 81, 82, 83, 84, 85] (by decide +kernel) (by decide +kernel)
set_option maxRecDepth 20000 in
theorem gX7_learnt_X4_nodeOfByte : GoodIn wsX7_learnt (wsV RX7 161 RX4 yX4_nodeOfByte wsX4_nodeOfByte) := goodIn_app (goodIn_of _ (by decide +kernel)) ggX7_learnt_X4_nodeOfByte
set_option maxRecDepth 20000 in
theorem ggX7_learnt_X4_countOf : GoodIn wsX7_learnt wsX4_countOf := goodIn_r _ [57, 58, 44, 45, 46, 12, 47, 48, 69, 70, 71, 72, 73, 74, 75, 76, 77, 78, 79, 80, 81, 82, 83, 84, 85] (by decide +kernel) (by decide +kernel)
set_option maxRecDepth 20000 in
theorem gX7_learnt_X4_countOf : GoodIn wsX7_learnt (wsV RX7 164 RX4 yX4_countOf wsX4_countOf) := goodIn_app (goodIn_of _ (by decide +kernel)) ggX7_learnt_X4_countOf
set_option maxRecDepth 20000 in
theorem ggX7_node_X7_keyOf : GoodIn wsX7_node wsX7_keyOf := goodIn_r _ [5, 6, 7, 4, 8] (by decide +kernel) (by decide +kernel)
set_option maxRecDepth 20000 in
theorem gX7_node_X7_keyOf : GoodIn wsX7_node (va_wsS RX7 154 yX7_keyOf wsX7_keyOf) := goodIn_app (goodIn_of _ (by decide +kernel)) ggX7_node_X7_keyOf
set_option maxRecDepth 20000 in
theorem ggX7_node_X4_find : GoodIn wsX7_node wsX4_find := goodIn_r _ [13, 14, 15, 16, 17, 18, 19, 12, 20, 21, 22, 23, 24, 64, 65, 66, 67, 68, 69, 70, 71, 72, 73, 74, 75, 76, 77, 78, 79, 80] (by decide +kernel) (by decide +kernel)
set_option maxRecDepth 20000 in
theorem gX7_node_X4_find : GoodIn wsX7_node (wsV RX7 158 RX4 yX4_find wsX4_find) := goodIn_app (goodIn_of _ (by decide +kernel)) ggX7_node_X4_find
set_option maxRecDepth 20000 in
theorem ggX7_node_X4_nodeAt : GoodIn wsX7_node wsX4_nodeAt := goodIn_r _ [28, 29, 30, 31, 12, 32, 33, 21, 22, 23, 24, 15, 34, 35, 36, 37, 38, 39, 40, 41, 42, 43, 44, 45, 46, 47, 48, 64, 65, 66, 67, 68, 69, 70, 71, 72, 73, 74, 75, 76, 77, 78, 79, 80] (by decide +kernel) (by decide +kernel)
set_option maxRecDepth 20000 in
theorem gX7_node_X4_nodeAt : GoodIn wsX7_node (wsV RX7 167 RX4 yX4_nodeAt wsX4_nodeAt) := goodIn_app (goodIn_of _ (by decide +kernel)) ggX7_node_X4_nodeAt
set_option maxRecDepth 20000 in
theorem ggX7_node_X4_byteOf : GoodIn wsX7_node wsX4_byteOf := goodIn_r _ [52, 53, 44, 45, 46, 12, 47, 48, 64, 65, 66, 67, 68, 69, 70, 71, 72, 73, 74, 75, 76, 77, 78, 79, 80] (by decide +kernel) (by decide +kernel)
set_option maxRecDepth 20000 in
theorem gX7_node_X4_byteOf : GoodIn wsX7_node (wsV RX7 170 RX4 yX4_byteOf wsX4_byteOf) := goodIn_app (goodIn_of _ (by decide +kernel)) ggX7_node_X4_byteOf
set_option maxRecDepth 20000 in
theorem ggX7_readUpToEnd_X6_tell : GoodIn wsX7_readUpToEnd wsX6_tell := goodIn_r _ [9, 10, 11, 12, 13, 14, 15, 16, 17, 18, 19, 20, 21, 22, 23, 24, 25, 26, 27, 28, 29, 30, 31, 32, 33, 34, 35, 36, 37, 38, 39, 40, 41, 42, 43, 44, 45, 46, 47, 48, 49, 50, 8, 51, 52, 53, 54, 55, 56, 57, 58, 59, 60, 61, 62, 63, 64, 65, 66, 67, 68, 69, 70, 71, 72, 73, 74, 75, 76, 77, 78, 79, 80, 81, 82, 83, 84, 85, 86, 87, 88, 89, 90, 91, 92, 93, 94, 95, 96, 97, 98, 99, 100, 101, 102, 103, 104, 105, 106, 107, 108, 109, 110, 111, 112, 113, 114, 115, 116, 117, 118, 119, 120, 121, 122, 123, 124, 125, 126, 127, 128, 129, 130, 131, 132, 133, 134, 135, 136, 137, 138, 139, 140, 141, 142, 143, 144, 145, 146, 147, 148, 149, 150, 151, 152, 153, 154, 155, 156, 157, 158, 159, 160, 161, 162, 163, 164, 165, 166, 167, 168, 169, 170, 171, 172, 173, 174, 175, 176, 177, 178, 179, 180, 181, 182, 183, 184, 185, 186, 187, 188, 189, 190, 191, 192, 193, 194, 195, 196, 197, 198, 199, 200, 201, 202, 203, 204, 205, 206, 207, 208, 209, 210, 211, 212, 213, 214, 215, 216, 217, 218, 219, 220, 221, 222, 223, 224, 225, 226, 227, 228, 229, 230, 231, 232, 233, 300, 301, 302, 303, 304, 305, 306, 307, 308, 309, 310, 311, 312, 313, 314, 315, 316, 317, 318, 319, 320, 321, 322, 323, 324, 325, 326, 327, 328, 329, 330, 331, 332, 333, 334, 335, 336, 337, 338, 339, 340] (by decide +kernel) (by decide +kernel)
set_option maxRecDepth 20000 in
theorem gX7_readUpToEnd_X6_tell : GoodIn wsX7_readUpToEnd (wsV RX7 96 RX6 yX6_tell wsX6_tell) := goodIn_app (goodIn_of _ (by decide +kernel)) ggX7_readUpToEnd_X6_tell
set_option maxRecDepth 20000 in
theorem ggX7_readUpToEnd_X0_add : GoodIn wsX7_readUpToEnd wsX0_add := goodIn_r _ [178, 152, 179, 157, 31, 28, 32, 180, 181, 182, 183, 107, 184, 185, 186, 187, 188, 189, 190, 191, 192, 193, 194, 195, 196, 197, 198, 199, 200, 335, 336, 337] (by decide +kernel) (by decide +kernel)
set_option maxRecDepth 20000 in
theorem gX7_readUpToEnd_X0_add : GoodIn wsX7_readUpToEnd (wsV RX7 80 RX0 yX0_add wsX0_add) := goodIn_app (goodIn_of _ (by decide +kernel)) ggX7_readUpToEnd_X0_add
set_option maxRecDepth 20000 in
theorem ggX7_readUpToEnd_X6_toldOrder : GoodIn wsX7_readUpToEnd wsX6_toldOrder := goodIn_r _ [238, 14, 300, 301, 302, 303, 304, 305, 306, 307, 308] (by decide +kernel) (by decide +kernel)
set_option maxRecDepth 20000 in
theorem gX7_readUpToEnd_X6_toldOrder : GoodIn wsX7_readUpToEnd (wsV RX7 100 RX6 yX6_toldOrder wsX6_toldOrder) := goodIn_app (goodIn_of _ (by decide +kernel)) ggX7_readUpToEnd_X6_toldOrder
set_option maxRecDepth 20000 in
theorem ggX7_readUpToEnd_X4_learn : GoodIn wsX7_readUpToEnd wsX4_learn := goodIn_r _ [242, 243, 244, 107, 245, 20, 25, 26, 246, 183, 184, 247, 22, 23, 18, 24, 27, 28, 29, 30, 31, 32, 248, 249, 250, 251, 83, 73, 252, 253, 254, 34, 35, 36, 37, 38, 39, 40, 41, 42, 43, 44, 45, 46, 47, 255, 256, 257, 258, 259, 55, 56, 57, 58, 260, 60, 61, 62, 63, 261, 65, 66, 67, 68, 69, 70, 71, 72, 262, 85, 86, 87, 88, 263, 264, 265, 266, 267, 268, 269, 270, 271, 272, 273, 274, 275, 276, 277, 278, 279, 280, 180, 181, 182, 281, 186, 187, 188, 189, 190, 191, 192, 193, 194, 195, 196, 197, 198, 199, 200, 282, 283, 284, 285, 286, 287, 288, 289, 309, 310, 311, 312, 313, 314, 315, 316, 317, 318, 319, 320, 321, 322, 323, 324, 325] (by decide +kernel) (by decide +kernel)
set_option maxRecDepth 20000 in
theorem gX7_readUpToEnd_X4_learn : GoodIn wsX7_readUpToEnd (wsV RX7 103 RX4 yX4_learn wsX4_learn) := goodIn_app (goodIn_of _ (by decide +kernel)) ggX7_readUpToEnd_X4_learn
set_option maxRecDepth 20000 in
theorem ggX7_noteEnd_X3_shifts : GoodIn wsX7_noteEnd wsX3_shifts := goodIn_r _ [8, 9, 28, 29, 30, 31, 32, 33, 34, 35, 36] (by decide +kernel) (by decide +kernel)
set_option maxRecDepth 20000 in
theorem gX7_noteEnd_X3_shifts_u173X1 : GoodIn wsX7_noteEnd (va_wsU RX7 173 RX1 "EscapeCoder$Interval" ⟨"EscapeCoder$Interval", "shifts", "()I"⟩ yX3_shifts wsX3_shifts) := goodIn_app (goodIn_of _ (by decide +kernel)) ggX7_noteEnd_X3_shifts
set_option maxRecDepth 20000 in
theorem gX7_noteEnd_X3_shifts_u173X2 : GoodIn wsX7_noteEnd (va_wsU RX7 173 RX2 "EscapeCoder$Interval" ⟨"EscapeCoder$Interval", "shifts", "()I"⟩ yX3_shifts wsX3_shifts) := goodIn_app (goodIn_of _ (by decide +kernel)) ggX7_noteEnd_X3_shifts
set_option maxRecDepth 20000 in
theorem ggX7_noteEnd_X3_range : GoodIn wsX7_noteEnd wsX3_range := goodIn_r _ [15, 16, 28, 29, 30, 31, 32, 33, 34, 35, 36] (by decide +kernel) (by decide +kernel)
set_option maxRecDepth 20000 in
theorem gX7_noteEnd_X3_range_u176X1 : GoodIn wsX7_noteEnd (va_wsU RX7 176 RX1 "EscapeCoder$Interval" ⟨"EscapeCoder$Interval", "range", "()J"⟩ yX3_range wsX3_range) := goodIn_app (goodIn_of _ (by decide +kernel)) ggX7_noteEnd_X3_range
set_option maxRecDepth 20000 in
theorem gX7_noteEnd_X3_range_u176X2 : GoodIn wsX7_noteEnd (va_wsU RX7 176 RX2 "EscapeCoder$Interval" ⟨"EscapeCoder$Interval", "range", "()J"⟩ yX3_range wsX3_range) := goodIn_app (goodIn_of _ (by decide +kernel)) ggX7_noteEnd_X3_range
set_option maxRecDepth 20000 in
theorem ggX7_keyOf_X7_isByte : GoodIn wsX7_keyOf wsX7_isByte := goodIn_r _ [4] (by decide +kernel) (by decide +kernel)
set_option maxRecDepth 20000 in
theorem gX7_keyOf_X7_isByte : GoodIn wsX7_keyOf (va_wsS RX7 180 yX7_isByte wsX7_isByte) := goodIn_app (goodIn_of _ (by decide +kernel)) ggX7_keyOf_X7_isByte
set_option maxRecDepth 20000 in
theorem ggX8_init_X8_begin : GoodIn wsX8_init wsX8_begin := goodIn_r _ [24, 8, 25, 26, 27, 28, 29, 30, 31, 23, 32, 33, 34, 35, 36, 37, 38, 39, 40, 41, 42, 43, 44, 45, 46, 47, 48, 49, 50, 51, 52, 53, 54, 55, 56, 57, 58, 59, 60, 61, 62, 63, 64, 65, 66, 67, 68, 69, 70, 71, 72] (by decide +kernel) (by decide +kernel)
set_option maxRecDepth 20000 in
theorem gX8_init_X8_begin : GoodIn wsX8_init (wsV RX8 50 RX8 yX8_begin wsX8_begin) := goodIn_app (goodIn_of _ (by decide +kernel)) ggX8_init_X8_begin
set_option maxRecDepth 20000 in
theorem ggX8_begin_X8_startModel : GoodIn wsX8_begin wsX8_startModel := goodIn_r _ [10, 11, 12, 13, 14, 15, 16, 17, 18, 19, 20, 5, 21, 22, 23, 24, 25, 26, 27, 28, 29, 30, 31, 32, 33, 34, 35, 36, 37, 38, 39, 40, 41, 42, 43, 44, 45, 46, 47, 48, 49, 50] (by decide +kernel) (by decide +kernel)
set_option maxRecDepth 20000 in
theorem gX8_begin_X8_startModel : GoodIn wsX8_begin (wsV RX8 63 RX8 yX8_startModel wsX8_startModel) := goodIn_app (goodIn_of _ (by decide +kernel)) ggX8_begin_X8_startModel
set_option maxRecDepth 20000 in
theorem ggX8_here_X8_contextOf : GoodIn wsX8_here wsX8_contextOf := goodIn_r _ [6] (by decide +kernel) (by decide +kernel)
set_option maxRecDepth 20000 in
theorem gX8_here_X8_contextOf : GoodIn wsX8_here (va_wsS RX8 99 yX8_contextOf wsX8_contextOf) := goodIn_app (goodIn_of _ (by decide +kernel)) ggX8_here_X8_contextOf
set_option maxRecDepth 20000 in
theorem ggX8_learn_X8_here : GoodIn wsX8_learn wsX8_here := goodIn_r _ [12, 13, 14, 15, 16, 11, 17, 27, 28, 29, 30, 31, 32, 33, 34, 35, 36, 37, 38, 39, 40, 41, 42, 43, 44, 45, 46, 47, 48, 49, 50, 51, 52, 53, 54, 55, 56] (by decide +kernel) (by decide +kernel)
set_option maxRecDepth 20000 in
theorem gX8_learn_X8_here : GoodIn wsX8_learn (wsV RX8 103 RX8 yX8_here wsX8_here) := goodIn_app (goodIn_of _ (by decide +kernel)) ggX8_learn_X8_here
set_option maxRecDepth 20000 in
theorem ggX8_learn_X8_find : GoodIn wsX8_learn wsX8_find := goodIn_r _ [21, 2, 5, 6, 27, 28, 29, 30, 31, 32, 33, 34, 35, 36, 37, 38, 39, 40, 41, 42, 43, 44, 45, 46, 47, 48, 49, 50, 51, 52, 53, 54, 55, 56] (by decide +kernel) (by decide +kernel)
set_option maxRecDepth 20000 in
theorem gX8_learn_X8_find : GoodIn wsX8_learn (wsV RX8 107 RX8 yX8_find wsX8_find) := goodIn_app (goodIn_of _ (by decide +kernel)) ggX8_learn_X8_find
set_option maxRecDepth 20000 in
theorem ggX8_learn_X8_halve : GoodIn wsX8_learn wsX8_halve := goodIn_r _ [25, 2, 5, 7, 26, 27, 28, 29, 30, 31, 32, 33, 34, 35, 36, 37, 38, 39, 40, 41, 42, 43, 44, 45, 46, 47, 48, 49, 50, 51, 52, 53, 54, 55, 56] (by decide +kernel) (by decide +kernel)
set_option maxRecDepth 20000 in
theorem gX8_learn_X8_halve : GoodIn wsX8_learn (wsV RX8 111 RX8 yX8_halve wsX8_halve) := goodIn_app (goodIn_of _ (by decide +kernel)) ggX8_learn_X8_halve
set_option maxRecDepth 20000 in
theorem ggX8_narrow_X8_addLow : GoodIn wsX8_narrow wsX8_addLow := goodIn_r _ [15, 8, 10, 9, 21, 22, 23, 24, 25, 26, 27, 28, 29, 30, 31, 32, 33, 34, 35, 36, 37, 38, 39, 40, 41, 42, 43, 44, 45, 46, 47, 48, 49, 50] (by decide +kernel) (by decide +kernel)
set_option maxRecDepth 20000 in
theorem gX8_narrow_X8_addLow : GoodIn wsX8_narrow (wsV RX8 122 RX8 yX8_addLow wsX8_addLow) := goodIn_app (goodIn_of _ (by decide +kernel)) ggX8_narrow_X8_addLow
set_option maxRecDepth 20000 in
theorem ggX8_narrow_X8_nextByte : GoodIn wsX8_narrow wsX8_nextByte := goodIn_r _ [19, 20, 8, 9, 21, 22, 23, 24, 25, 26, 27, 28, 29, 30, 31, 32, 33, 34, 35, 36, 37, 38, 39, 40, 41, 42, 43, 44, 45, 46, 47, 48, 49, 50] (by decide +kernel) (by decide +kernel)
set_option maxRecDepth 20000 in
theorem gX8_narrow_X8_nextByte : GoodIn wsX8_narrow (wsV RX8 130 RX8 yX8_nextByte wsX8_nextByte) := goodIn_app (goodIn_of _ (by decide +kernel)) ggX8_narrow_X8_nextByte
set_option maxRecDepth 20000 in
theorem ggX8_tell_X8_here : GoodIn wsX8_tell wsX8_here := goodIn_r _ [13, 14, 15, 16, 17, 12, 18, 59, 60, 61, 62, 63, 64, 65, 66, 67, 68, 69, 70, 71, 72, 73, 74, 75, 76, 77, 78, 79, 80, 81, 82, 83, 84, 85, 86, 87, 88] (by decide +kernel) (by decide +kernel)
set_option maxRecDepth 20000 in
theorem gX8_tell_X8_here : GoodIn wsX8_tell (wsV RX8 103 RX8 yX8_here wsX8_here) := goodIn_app (goodIn_of _ (by decide +kernel)) ggX8_tell_X8_here
set_option maxRecDepth 20000 in
theorem ggX8_tell_X8_tellIn : GoodIn wsX8_tell wsX8_tellIn := goodIn_r _ [22, 8, 3, 4, 1, 5, 6, 23, 24, 25, 26, 27, 28, 12, 29, 30, 31, 32, 33, 34, 35, 36, 37, 38, 39, 40, 41, 42, 43, 44, 45, 46, 47, 48, 49, 50, 51, 52, 53, 54, 55, 56, 57, 58, 59, 60, 61, 62, 63, 64, 65, 66, 67, 68, 69, 70, 71, 72, 73, 74, 75, 76, 77, 78, 79, 80, 81, 82, 83, 84, 85, 86, 87, 88] (by decide +kernel) (by decide +kernel)
set_option maxRecDepth 20000 in
theorem gX8_tell_X8_tellIn : GoodIn wsX8_tell (wsV RX8 142 RX8 yX8_tellIn wsX8_tellIn) := goodIn_app (goodIn_of _ (by decide +kernel)) ggX8_tell_X8_tellIn
set_option maxRecDepth 20000 in
theorem ggX8_tell_X8_placeOf : GoodIn wsX8_tell wsX8_placeOf := goodIn_r _ [29, 30, 31, 59, 60, 61, 62, 63, 64, 65, 66, 67, 68, 69, 70, 71, 72, 73, 74, 75, 76, 77, 78, 79, 80, 81, 82, 83, 84, 85, 86, 87, 88] (by decide +kernel) (by decide +kernel)
set_option maxRecDepth 20000 in
theorem gX8_tell_X8_placeOf : GoodIn wsX8_tell (wsV RX8 149 RX8 yX8_placeOf wsX8_placeOf) := goodIn_app (goodIn_of _ (by decide +kernel)) ggX8_tell_X8_placeOf
set_option maxRecDepth 20000 in
theorem ggX8_tell_X8_note : GoodIn wsX8_tell wsX8_note := goodIn_r _ [35, 23, 36, 37, 38, 24, 59, 60, 61, 62, 63, 64, 65, 66, 67, 68, 69, 70, 71, 72, 73, 74, 75, 76, 77, 78, 79, 80, 81, 82, 83, 84, 85, 86, 87, 88] (by decide +kernel) (by decide +kernel)
set_option maxRecDepth 20000 in
theorem gX8_tell_X8_note : GoodIn wsX8_tell (wsV RX8 152 RX8 yX8_note wsX8_note) := goodIn_app (goodIn_of _ (by decide +kernel)) ggX8_tell_X8_note
set_option maxRecDepth 20000 in
theorem ggX8_tell_X8_narrow : GoodIn wsX8_tell wsX8_narrow := goodIn_r _ [42, 31, 8, 30, 43, 44, 45, 46, 47, 48, 49, 50, 51, 52, 12, 53, 54, 55, 56, 57, 58, 59, 60, 61, 62, 63, 64, 65, 66, 67, 68, 69, 70, 71, 72, 73, 74, 75, 76, 77, 78, 79, 80, 81, 82, 83, 84, 85, 86, 87, 88] (by decide +kernel) (by decide +kernel)
set_option maxRecDepth 20000 in
theorem gX8_tell_X8_narrow : GoodIn wsX8_tell (wsV RX8 156 RX8 yX8_narrow wsX8_narrow) := goodIn_app (goodIn_of _ (by decide +kernel)) ggX8_tell_X8_narrow
set_option maxRecDepth 20000 in
theorem ggX8_tellIn_X8_placeOf : GoodIn wsX8_tellIn wsX8_placeOf := goodIn_r _ [14, 15, 16, 44, 45, 46, 47, 48, 49, 50, 51, 52, 53, 54, 55, 56, 57, 58, 59, 60, 61, 62, 63, 64, 65, 66, 67, 68, 69, 70, 71, 72, 73] (by decide +kernel) (by decide +kernel)
set_option maxRecDepth 20000 in
theorem gX8_tellIn_X8_placeOf : GoodIn wsX8_tellIn (wsV RX8 149 RX8 yX8_placeOf wsX8_placeOf) := goodIn_app (goodIn_of _ (by decide +kernel)) ggX8_tellIn_X8_placeOf
set_option maxRecDepth 20000 in
theorem ggX8_tellIn_X8_note : GoodIn wsX8_tellIn wsX8_note := goodIn_r _ [20, 7, 21, 22, 23, 8, 44, 45, 46, 47, 48, 49, 50, 51, 52, 53, 54, 55, 56, 57, 58, 59, 60, 61, 62, 63, 64, 65, 66, 67, 68, 69, 70, 71, 72, 73] (by decide +kernel) (by decide +kernel)
set_option maxRecDepth 20000 in
theorem gX8_tellIn_X8_note : GoodIn wsX8_tellIn (wsV RX8 152 RX8 yX8_note wsX8_note) := goodIn_app (goodIn_of _ (by decide +kernel)) ggX8_tellIn_X8_note
set_option maxRecDepth 20000 in
theorem ggX8_tellIn_X8_narrow : GoodIn wsX8_tellIn wsX8_narrow := goodIn_r _ [27, 16, 1, 15, 28, 29, 30, 31, 32, 33, 34, 35, 36, 37, 13, 38, 39, 40, 41, 42, 43, 44, 45, 46, 47, 48, 49, 50, 51, 52, 53, 54, 55, 56, 57, 58, 59, 60, 61, 62, 63, 64, 65, 66, 67, 68, 69, 70, 71, 72, 73] (by decide +kernel) (by decide +kernel)
set_option maxRecDepth 20000 in
theorem gX8_tellIn_X8_narrow : GoodIn wsX8_tellIn (wsV RX8 156 RX8 yX8_narrow wsX8_narrow) := goodIn_app (goodIn_of _ (by decide +kernel)) ggX8_tellIn_X8_narrow
set_option maxRecDepth 20000 in
theorem ggX8_encode_X8_startModel : GoodIn wsX8_encode wsX8_startModel := goodIn_r _ [12, 13, 14, 15, 16, 17, 18, 19, 20, 21, 22, 23, 89, 90, 91, 92, 93, 94, 95, 96, 97, 98, 99, 100, 101, 102, 103, 104, 105, 106, 107, 108, 109, 110, 111, 112, 113, 114, 115, 116, 117, 118] (by decide +kernel) (by decide +kernel)
set_option maxRecDepth 20000 in
theorem gX8_encode_X8_startModel : GoodIn wsX8_encode (wsV RX8 63 RX8 yX8_startModel wsX8_startModel) := goodIn_app (goodIn_of _ (by decide +kernel)) ggX8_encode_X8_startModel
set_option maxRecDepth 20000 in
theorem ggX8_encode_X8_tell : GoodIn wsX8_encode wsX8_tell := goodIn_r _ [27, 28, 19, 13, 29, 30, 31, 7, 1, 32, 33, 34, 11, 35, 20, 21, 36, 37, 38, 39, 40, 41, 42, 14, 43, 15, 44, 45, 46, 47, 48, 23, 49, 50, 51, 52, 53, 54, 55, 56, 57, 58, 59, 60, 61, 16, 62, 3, 4, 2, 63, 64, 65, 66, 67, 68, 69, 70, 71, 89, 90, 91, 92, 93, 94, 95, 96, 97, 98, 99, 100, 101, 102, 103, 104, 105, 106, 107, 108, 109, 110, 111, 112, 113, 114, 115, 116, 117, 118] (by decide +kernel) (by decide +kernel)
set_option maxRecDepth 20000 in
theorem gX8_encode_X8_tell : GoodIn wsX8_encode (wsV RX8 160 RX8 yX8_tell wsX8_tell) := goodIn_app (goodIn_of _ (by decide +kernel)) ggX8_encode_X8_tell
set_option maxRecDepth 20000 in
theorem ggX8_encode_X8_learn : GoodIn wsX8_encode wsX8_learn := goodIn_r _ [75, 19, 13, 76, 18, 29, 30, 31, 32, 33, 34, 11, 35, 20, 21, 36, 37, 38, 77, 78, 79, 80, 81, 82, 83, 84, 17, 89, 90, 91, 92, 93, 94, 95, 96, 97, 98, 99, 100, 101, 102, 103, 104, 105, 106, 107, 108, 109, 110, 111, 112, 113, 114, 115, 116, 117, 118] (by decide +kernel) (by decide +kernel)
set_option maxRecDepth 20000 in
theorem gX8_encode_X8_learn : GoodIn wsX8_encode (wsV RX8 163 RX8 yX8_learn wsX8_learn) := goodIn_app (goodIn_of _ (by decide +kernel)) ggX8_encode_X8_learn
set_option maxRecDepth 20000 in
theorem ggX8_encode_X8_goBy : GoodIn wsX8_encode wsX8_goBy := goodIn_r _ [88, 20, 21, 19, 89, 90, 91, 92, 93, 94, 95, 96, 97, 98, 99, 100, 101, 102, 103, 104, 105, 106, 107, 108, 109, 110, 111, 112, 113, 114, 115, 116, 117, 118] (by decide +kernel) (by decide +kernel)
set_option maxRecDepth 20000 in
theorem gX8_encode_X8_goBy : GoodIn wsX8_encode (wsV RX8 167 RX8 yX8_goBy wsX8_goBy) := goodIn_app (goodIn_of _ (by decide +kernel)) ggX8_encode_X8_goBy
set_option maxRecDepth 20000 in
theorem ggX8_decode_X8_startModel : GoodIn wsX8_decode wsX8_startModel := goodIn_r _ [14, 15, 16, 17, 9, 18, 19, 20, 21, 22, 23, 24, 89, 90, 91, 92, 93, 94, 95, 96, 97, 98, 99, 100, 101, 102, 103, 104, 105, 106, 107, 108, 109, 110, 111, 112, 113, 114, 115, 116, 117, 118] (by decide +kernel) (by decide +kernel)
set_option maxRecDepth 20000 in
theorem gX8_decode_X8_startModel : GoodIn wsX8_decode (wsV RX8 63 RX8 yX8_startModel wsX8_startModel) := goodIn_app (goodIn_of _ (by decide +kernel)) ggX8_decode_X8_startModel
set_option maxRecDepth 20000 in
theorem ggX8_decode_X8_nextByte : GoodIn wsX8_decode wsX8_nextByte := goodIn_r _ [28, 3, 8, 29, 89, 90, 91, 92, 93, 94, 95, 96, 97, 98, 99, 100, 101, 102, 103, 104, 105, 106, 107, 108, 109, 110, 111, 112, 113, 114, 115, 116, 117, 118] (by decide +kernel) (by decide +kernel)
set_option maxRecDepth 20000 in
theorem gX8_decode_X8_nextByte : GoodIn wsX8_decode (wsV RX8 130 RX8 yX8_nextByte wsX8_nextByte) := goodIn_app (goodIn_of _ (by decide +kernel)) ggX8_decode_X8_nextByte
set_option maxRecDepth 20000 in
theorem ggX8_decode_X8_tell : GoodIn wsX8_decode wsX8_tell := goodIn_r _ [33, 34, 20, 15, 35, 36, 37, 7, 1, 38, 39, 40, 13, 41, 21, 22, 42, 43, 44, 45, 46, 47, 48, 16, 49, 17, 50, 51, 52, 53, 4, 24, 54, 55, 56, 57, 58, 59, 60, 61, 62, 63, 64, 65, 5, 9, 66, 8, 29, 67, 68, 69, 70, 71, 25, 26, 27, 28, 3, 89, 90, 91, 92, 93, 94, 95, 96, 97, 98, 99, 100, 101, 102, 103, 104, 105, 106, 107, 108, 109, 110, 111, 112, 113, 114, 115, 116, 117, 118] (by decide +kernel) (by decide +kernel)
set_option maxRecDepth 20000 in
theorem gX8_decode_X8_tell : GoodIn wsX8_decode (wsV RX8 160 RX8 yX8_tell wsX8_tell) := goodIn_app (goodIn_of _ (by decide +kernel)) ggX8_decode_X8_tell
set_option maxRecDepth 20000 in
theorem ggX8_decode_X8_learn : GoodIn wsX8_decode wsX8_learn := goodIn_r _ [75, 20, 15, 76, 19, 35, 36, 37, 38, 39, 40, 13, 41, 21, 22, 42, 43, 44, 77, 78, 79, 80, 81, 82, 83, 84, 18, 89, 90, 91, 92, 93, 94, 95, 96, 97, 98, 99, 100, 101, 102, 103, 104, 105, 106, 107, 108, 109, 110, 111, 112, 113, 114, 115, 116, 117, 118] (by decide +kernel) (by decide +kernel)
set_option maxRecDepth 20000 in
theorem gX8_decode_X8_learn : GoodIn wsX8_decode (wsV RX8 163 RX8 yX8_learn wsX8_learn) := goodIn_app (goodIn_of _ (by decide +kernel)) ggX8_decode_X8_learn
set_option maxRecDepth 20000 in
theorem ggX8_decode_X8_goBy : GoodIn wsX8_decode wsX8_goBy := goodIn_r _ [88, 21, 22, 20, 89, 90, 91, 92, 93, 94, 95, 96, 97, 98, 99, 100, 101, 102, 103, 104, 105, 106, 107, 108, 109, 110, 111, 112, 113, 114, 115, 116, 117, 118] (by decide +kernel) (by decide +kernel)
set_option maxRecDepth 20000 in
theorem gX8_decode_X8_goBy : GoodIn wsX8_decode (wsV RX8 167 RX8 yX8_goBy wsX8_goBy) := goodIn_app (goodIn_of _ (by decide +kernel)) ggX8_decode_X8_goBy
set_option maxRecDepth 20000 in
theorem ggX8_at_X8_size : GoodIn wsX8_at wsX8_size := goodIn_r _ [8, 9, 10, 11, 12, 13, 14, 15, 16, 17, 18, 19, 20, 21, 22, 23, 24, 25, 26, 27, 28, 29, 30, 31, 32, 33, 34, 35, 36, 37, 38, 39, 40, 41] (by decide +kernel) (by decide +kernel)
set_option maxRecDepth 20000 in
theorem gX8_at_X8_size : GoodIn wsX8_at (wsV RX8 170 RX8 yX8_size wsX8_size) := goodIn_app (goodIn_of _ (by decide +kernel)) ggX8_at_X8_size
set_option maxRecDepth 20000 in
theorem ggX8_isContext_X8_isByte : GoodIn wsX8_isContext wsX8_isByte := goodIn_r _ [4] (by decide +kernel) (by decide +kernel)
set_option maxRecDepth 20000 in
theorem gX8_isContext_X8_isByte : GoodIn wsX8_isContext (va_wsS RX8 176 yX8_isByte wsX8_isByte) := goodIn_app (goodIn_of _ (by decide +kernel)) ggX8_isContext_X8_isByte
set_option maxRecDepth 20000 in
theorem ggX8_learnt_X8_isContext : GoodIn wsX8_learnt wsX8_isContext := goodIn_r _ [5, 6, 7, 4, 8] (by decide +kernel) (by decide +kernel)
set_option maxRecDepth 20000 in
theorem gX8_learnt_X8_isContext : GoodIn wsX8_learnt (va_wsS RX8 179 yX8_isContext wsX8_isContext) := goodIn_app (goodIn_of _ (by decide +kernel)) ggX8_learnt_X8_isContext
set_option maxRecDepth 20000 in
theorem ggX8_learnt_X8_isByte : GoodIn wsX8_learnt wsX8_isByte := goodIn_r _ [8] (by decide +kernel) (by decide +kernel)
set_option maxRecDepth 20000 in
theorem gX8_learnt_X8_isByte : GoodIn wsX8_learnt (va_wsS RX8 176 yX8_isByte wsX8_isByte) := goodIn_app (goodIn_of _ (by decide +kernel)) ggX8_learnt_X8_isByte
set_option maxRecDepth 20000 in
theorem ggX8_learnt_X8_contextOf : GoodIn wsX8_learnt wsX8_contextOf := goodIn_r _ [11] (by decide +kernel) (by decide +kernel)
set_option maxRecDepth 20000 in
theorem gX8_learnt_X8_contextOf : GoodIn wsX8_learnt (va_wsS RX8 99 yX8_contextOf wsX8_contextOf) := goodIn_app (goodIn_of _ (by decide +kernel)) ggX8_learnt_X8_contextOf
set_option maxRecDepth 20000 in
theorem ggX8_learnt_X8_find : GoodIn wsX8_learnt wsX8_find := goodIn_r _ [15, 16, 17, 18, 19, 20, 21, 22, 23, 24, 25, 26, 27, 28, 29, 30, 31, 32, 33, 34, 35, 36, 37, 38, 39, 40, 41, 42, 43, 44, 45, 46, 47, 48] (by decide +kernel) (by decide +kernel)
set_option maxRecDepth 20000 in
theorem gX8_learnt_X8_find : GoodIn wsX8_learnt (wsV RX8 107 RX8 yX8_find wsX8_find) := goodIn_app (goodIn_of _ (by decide +kernel)) ggX8_learnt_X8_find
set_option maxRecDepth 20000 in
theorem ggX8_node_X8_isContext : GoodIn wsX8_node wsX8_isContext := goodIn_r _ [7, 8, 9, 6, 10] (by decide +kernel) (by decide +kernel)
set_option maxRecDepth 20000 in
theorem gX8_node_X8_isContext : GoodIn wsX8_node (va_wsS RX8 179 yX8_isContext wsX8_isContext) := goodIn_app (goodIn_of _ (by decide +kernel)) ggX8_node_X8_isContext
set_option maxRecDepth 20000 in
theorem ggX8_node_X8_contextOf : GoodIn wsX8_node wsX8_contextOf := goodIn_r _ [13] (by decide +kernel) (by decide +kernel)
set_option maxRecDepth 20000 in
theorem gX8_node_X8_contextOf : GoodIn wsX8_node (va_wsS RX8 99 yX8_contextOf wsX8_contextOf) := goodIn_app (goodIn_of _ (by decide +kernel)) ggX8_node_X8_contextOf
end
section
/-! Uniform contracts: what a body has at its entry, how it ends, how a call goes on -/
/-- what holds in a body all along -/
def Cx (p : Program) (s : State) (m : MethodId) (meth : Method) (c : Code) (cc : ByteArray) (maxL : Nat) (ret : Option FieldType) (own : String) (ws : List Cond) (av : Array Value) : Prop :=
  p.tables.exec = Jvm.exec ∧ c.code = cc ∧ meth.sig.returnType = ret ∧ c.maxLocals = maxL ∧ s.vm.findClass own = some m.cls ∧ meth.locks = false ∧ ∀ w ∈ ws, w.before av s = true
/-- the words of nest mates and of abstract methods: they go along beside va_K -/
def nws : List Cond := [.methodLinkNest RX2 3 yX3_init RX7, .methodLinkNest RX1 3 yX3_init RX7, .methodLinkNest RX0 22 yX7_isByte RX7, .methodLinkNest RX0 26 yX7_grown RX7, .methodLinkNest RX4 73 yX7_keyOf RX7, .methodLinkNest RX6 108 yX7_isByte RX7, .methodLinkNest RX5 22 yX7_grown RX7, .methodLinkNest RX4 139 yX7_grown RX7, .declares ⟨RX3, "placeIn", "(II)I"⟩, .declares ⟨RX3, "raiseLow", "(J)V"⟩, .declares ⟨RX3, "shiftOnce", "()V"⟩]
def NW (U : State) : Prop := ∀ w ∈ nws, va_Nw w U
theorem NW.warm {s U : State} (hW : s.WarmedH U.vm) (h : NW s) : NW U := by
  intro w hw
  have h1 := h w hw
  simp only [nws, List.mem_cons, List.not_mem_nil, or_false] at hw
  rcases hw with rfl | rfl | rfl | rfl | rfl | rfl | rfl | rfl | rfl | rfl | rfl <;> first | exact va_Nw.warmM hW h1 | exact va_Nw.warmD hW h1
theorem NW.same {u U : State} (hv : u.vm = U.vm) (h : NW u) : NW U := by
  intro w hw
  have h1 := h w hw
  simp only [nws, List.mem_cons, List.not_mem_nil, or_false] at hw
  rcases hw with rfl | rfl | rfl | rfl | rfl | rfl | rfl | rfl | rfl | rfl | rfl <;> exact va_Nw.same rfl hv h1
/-- a method that only reads -/
def roP (D : va_G) (cl : List vw_C) (tys : List (ClassId × FieldType)) (ws : va_W) (av : List Value) : Array Value → State → Prop := va_Pc av (fun U => va_P D cl ws U.heap ∧ va_K D cl tys U ∧ NW U)
/-- a method that writes -/
def rwP (D : va_G) (cl : List vw_C) (tys : List (ClassId × FieldType)) (ws : va_W) (sz : Nat) (av : List Value) : Array Value → State → Prop := va_Pc av (fun U => U.heap.size = sz ∧ va_P D cl ws U.heap ∧ va_K D cl tys U ∧ NW U ∧ va_D (fun _ => True) ws)
/-- the world behind it -/
def bB (D : va_G) (cl : List vw_C) {S : Type} (w1 : S → va_W) (A : Nat → Prop) : S → State → Prop := fun u t => va_P D cl (w1 u) t.heap ∧ va_D A (w1 u)
theorem roP_blind {D : va_G} {cl : List vw_C} {tys : List (ClassId × FieldType)} {ws : va_W} {av : List Value} : FrameBlind (roP D cl tys ws av) := fun a U g mk q => by
  obtain ⟨q0, qP, qK, qN⟩ := q
  exact ⟨q0, qP, va_K.moved (u := U) (U := U.calling g mk a) (Vm.Alike.refl U.vm) qK, NW.same (u := U) (U := U.calling g mk a) rfl qN⟩
theorem rwP_blind {D : va_G} {cl : List vw_C} {tys : List (ClassId × FieldType)} {ws : va_W} {sz : Nat} {av : List Value} : FrameBlind (rwP D cl tys ws sz av) := fun a U g mk q => by
  obtain ⟨q0, q1, qP, qK, qN, qD⟩ := q
  exact ⟨q0, q1, qP, va_K.moved (u := U) (U := U.calling g mk a) (Vm.Alike.refl U.vm) qK, NW.same (u := U) (U := U.calling g mk a) rfl qN, qD⟩
theorem roP_at {D : va_G} {cl : List vw_C} {tys : List (ClassId × FieldType)} {ws : va_W} {av : List Value} {s : State} {H : Heap} (hK : va_K D cl tys s) (hN : NW s) (hP : va_P D cl ws H) : ∀ U : State, U.heap = H → s.WarmedH U.vm → roP D cl tys ws av av.toArray U :=
  fun U hU hW => ⟨rfl, by rw [hU]; exact hP, va_K.moved hW.alike hK, hN.warm hW⟩
theorem rwP_at {D : va_G} {cl : List vw_C} {tys : List (ClassId × FieldType)} {ws : va_W} {av : List Value} {s : State} {H : Heap} {A : Nat → Prop} (hK : va_K D cl tys s) (hN : NW s) (hP : va_P D cl ws H) (hD : va_D A ws) : ∀ U : State, U.heap = H → s.WarmedH U.vm → rwP D cl tys ws H.size av av.toArray U :=
  fun U hU hW => ⟨rfl, by rw [hU], by rw [hU]; exact hP, va_K.moved hW.alike hK, hN.warm hW, hD.weaken (fun _ _ _ _ => trivial)⟩
section Enter
variable {l : Launch} {y : MethodName} {ws ws' : List Cond} {rm : Room} {cc : ByteArray} {maxL : Nat} {ret : Option FieldType} {D : va_G} {cl : List vw_C} {tys : List (ClassId × FieldType)} {wc : va_W} {av : List Value}
theorem ro_enter {Qc : Array Value → State → Outcome → State → Prop} (hy : plainName y.cls = true) (hw : ws = Cond.code y cc maxL ret :: ws') (hn : (lg_sl av).length ≤ maxL)
    (body : ∀ (p : Program) (e : Env) (s : State) (m : MethodId) (below : List Frame) (meth : Method) (c : Code) (ls : Array Slot), Cx p s m meth c cc maxL ret y.cls ws av.toArray → va_K D cl tys s → NW s → va_P D cl wc s.heap → lv_has ls maxL (lv_args 0 av) →
      W p l e rm s m av.toArray below meth c s.heap [] 0 0 (MQ below Qc av.toArray s 0 0 (fun _ => False)) (F0 m 0 ls [])) : Met l y ws rm (roP D cl tys wc av) Qc 0 0 (fun _ => False) := by
  refine Met.ofW (cc := cc) (maxL := maxL) (ret := ret) hy hw ?_
  intro p e s m args below meth c s₁ B hml hv
  obtain ⟨rfl, hP, hK, hN⟩ := hv
  rw [lg_entry_eq]
  exact body p e s m below meth c _ ⟨B.exec, B.bytes, B.returns, hml, findClass_of_methodNamed B.named, B.notSynchronized, atoms_spec (ws := ws) B.pre⟩ hK hN hP (lv_entry av hn)
theorem rw_enter {Q : (Nat → Prop) → Array Value → State → Outcome → State → Prop} {sz mc ms : Nat} (hy : plainName y.cls = true) (hw : ws = Cond.code y cc maxL ret :: ws') (hn : (lg_sl av).length ≤ maxL)
    (body : ∀ (p : Program) (e : Env) (s : State) (m : MethodId) (below : List Frame) (meth : Method) (c : Code) (ls : Array Slot) (A : Nat → Prop), Cx p s m meth c cc maxL ret y.cls ws av.toArray → meth.name = y.name → va_K D cl tys s → NW s → va_P D cl wc s.heap → va_D A wc → (∀ q, s.heap.size ≤ q → A q) → lv_has ls maxL (lv_args 0 av) →
      W p l e rm s m av.toArray below meth c s.heap [] 0 0 (MQ below (Q A) av.toArray s mc ms A) (F0 m 0 ls [])) : Met l y ws rm (rwP D cl tys wc sz av) (Q (va_A wc sz)) mc ms (va_A wc sz) := by
  refine Met.ofW (cc := cc) (maxL := maxL) (ret := ret) hy hw ?_
  intro p e s m args below meth c s₁ B hml hv
  obtain ⟨rfl, rfl, hP, hK, hN, hD⟩ := hv
  rw [lg_entry_eq]
  exact body p e s m below meth c _ _ ⟨B.exec, B.bytes, B.returns, hml, findClass_of_methodNamed B.named, B.notSynchronized, atoms_spec (ws := ws) B.pre⟩ (name_of_methodNamed B.named B.method).1 hK hN hP hD.self (fun q h => Or.inr h) (lv_entry av hn)
end Enter
section Ends
variable {p : Program} {l : Launch} {e : Env} {R : Room} {s : State} {m : MethodId} {args : Array Value} {below : List Frame} {meth : Method} {c : Code} {H : Heap} {locs : List Loc} {cells slots : Nat} {Q : State → Prop}
variable {cc : ByteArray} {pc : Nat} {ls : Array Slot} {rest : List Value} {D : va_G} {cl : List vw_C} {A : Nat → Prop} {S : Type} {w1 : S → va_W} {mc ms : Nat}
theorem tp_i {x y : Int32} (h : x = y) (k : W p l e R s m args below meth c H locs cells slots Q (F0 m pc ls (.int y :: rest))) : W p l e R s m args below meth c H locs cells slots Q (F0 m pc ls (.int x :: rest)) := h ▸ k
theorem tp_l {x y : Int64} (h : x = y) (k : W p l e R s m args below meth c H locs cells slots Q (F0 m pc ls (.long y :: rest))) : W p l e R s m args below meth c H locs cells slots Q (F0 m pc ls (.long x :: rest)) := h ▸ k
theorem ro_iret {post : Int32 → Prop} {v : Int32} (hx : p.tables.exec = Jvm.exec) (hb : c.code = cc) (hr : meth.sig.returnType = some .int) (hlocks : meth.locks = false) (hq : post v) (hdg : decode cc pc = .ok (.ireturn, 1)) :
    W p l e R s m args below meth c s.heap [] 0 0 (MQ below (vp_Si post) args s 0 0 (fun _ => False)) (F0 m pc ls [.int v]) :=
  W.iret (v := v) hx hb hr (fun t ht _ => ⟨v, rfl, hq, ht⟩) (fun _ h => by cases h) hdg hlocks
theorem ro_zret {post : Int32 → Prop} {v : Int32} (hx : p.tables.exec = Jvm.exec) (hb : c.code = cc) (hr : meth.sig.returnType = some .boolean) (hlocks : meth.locks = false) (hn : narrow .boolean (.int v) = .int v) (hq : post v) (hdg : decode cc pc = .ok (.ireturn, 1)) :
    W p l e R s m args below meth c s.heap [] 0 0 (MQ below (vp_Si post) args s 0 0 (fun _ => False)) (F0 m pc ls [.int v]) :=
  W.zret (v := v) hx hb hr hn (fun t ht _ => ⟨v, rfl, hq, ht⟩) (fun _ h => by cases h) hdg hlocks
theorem ro_lret {post : Int64 → Prop} {v : Int64} (hx : p.tables.exec = Jvm.exec) (hb : c.code = cc) (hr : meth.sig.returnType = some .long) (hlocks : meth.locks = false) (hq : post v) (hdg : decode cc pc = .ok (.lreturn, 1)) :
    W p l e R s m args below meth c s.heap [] 0 0 (MQ below (vp_Sl post) args s 0 0 (fun _ => False)) (F0 m pc ls [.long v]) :=
  W.lret (v := v) hx hb hr (fun t ht _ => ⟨v, rfl, hq, ht⟩) (fun _ h => by cases h) hdg hlocks
theorem rw_iret {post : Int32 → S → Prop} {v : Int32} (u : S) (hx : p.tables.exec = Jvm.exec) (hb : c.code = cc) (hr : meth.sig.returnType = some .int) (hlocks : meth.locks = false) (hq : post v u) (hP : va_P D cl (w1 u) H) (hD : va_D A (w1 u)) (hS : va_S A s.heap H locs) (hc : cells ≤ mc) (hs : slots ≤ ms) (hdg : decode cc pc = .ok (.ireturn, 1)) :
    W p l e R s m args below meth c H locs cells slots (MQ below (va_Qi post (bB D cl w1 A) A) args s mc ms A) (F0 m pc ls [.int v]) :=
  W.widen hc hs (W.iret (v := v) hx hb hr (fun t ht _ => ⟨⟨v, u, rfl, hq, by rw [ht]; exact hP, hD⟩, hS.F ht⟩) hS.2.2 hdg hlocks)
theorem rw_zret {post : Int32 → S → Prop} {v : Int32} (u : S) (hx : p.tables.exec = Jvm.exec) (hb : c.code = cc) (hr : meth.sig.returnType = some .boolean) (hlocks : meth.locks = false) (hn : narrow .boolean (.int v) = .int v) (hq : post v u) (hP : va_P D cl (w1 u) H) (hD : va_D A (w1 u)) (hS : va_S A s.heap H locs) (hc : cells ≤ mc) (hs : slots ≤ ms) (hdg : decode cc pc = .ok (.ireturn, 1)) :
    W p l e R s m args below meth c H locs cells slots (MQ below (va_Qi post (bB D cl w1 A) A) args s mc ms A) (F0 m pc ls [.int v]) :=
  W.widen hc hs (W.zret (v := v) hx hb hr hn (fun t ht _ => ⟨⟨v, u, rfl, hq, by rw [ht]; exact hP, hD⟩, hS.F ht⟩) hS.2.2 hdg hlocks)
theorem rw_lret {post : Int64 → S → Prop} {v : Int64} (u : S) (hx : p.tables.exec = Jvm.exec) (hb : c.code = cc) (hr : meth.sig.returnType = some .long) (hlocks : meth.locks = false) (hq : post v u) (hP : va_P D cl (w1 u) H) (hD : va_D A (w1 u)) (hS : va_S A s.heap H locs) (hc : cells ≤ mc) (hs : slots ≤ ms) (hdg : decode cc pc = .ok (.lreturn, 1)) :
    W p l e R s m args below meth c H locs cells slots (MQ below (va_Ql post (bB D cl w1 A) A) args s mc ms A) (F0 m pc ls [.long v]) :=
  W.widen hc hs (W.lret (v := v) hx hb hr (fun t ht _ => ⟨⟨v, u, rfl, hq, by rw [ht]; exact hP, hD⟩, hS.F ht⟩) hS.2.2 hdg hlocks)
theorem rw_vret {post : S → Prop} (u : S) (hx : p.tables.exec = Jvm.exec) (hb : c.code = cc) (hr : meth.sig.returnType = none) (hlocks : meth.locks = false) (hq : post u) (hP : va_P D cl (w1 u) H) (hD : va_D A (w1 u)) (hS : va_S A s.heap H locs) (hc : cells ≤ mc) (hs : slots ≤ ms) (hdg : decode cc pc = .ok (.return_, 1)) :
    W p l e R s m args below meth c H locs cells slots (MQ below (va_Qv post (bB D cl w1 A) A) args s mc ms A) (F0 m pc ls []) :=
  W.widen hc hs (W.vret hx hb hr (fun t ht _ => ⟨⟨u, rfl, hq, by rw [ht]; exact hP, hD⟩, hS.F ht⟩) hS.2.2 hdg hlocks)
end Ends
section Calls
variable {p : Program} {l : Launch} {e : Env} {R : Room} {s : State} {m : MethodId} {args : Array Value} {below : List Frame} {meth : Method} {c : Code} {H : Heap} {locs : List Loc} {cells slots : Nat} {Q : State → Prop}
variable {pc : Nat} {ls : Array Slot} {rest st0 : List Value} {a : Array Value} {A0 : Nat → Prop} {H0 : Heap} {mc ms : Nat} {D : va_G} {cl : List vw_C} {S : Type} {w1 : S → va_W} {ws wc wr : va_W}
theorem rw_calli {post : Int32 → S → Prop} (hP : va_P D cl ws H) (hD : va_D A0 ws) (hS : va_S A0 H0 H locs) (hA : ∀ q, H0.size ≤ q → A0 q) (isC isR : List Nat) (hC : isC.map (fun i => ws[i]?) = wc.map some) (hR : isR.map (fun i => ws[i]?) = wr.map some) (hn : va_nd isR = true) (hdis : ∀ i ∈ isR, i ∉ isC)
    (hr : va_Run p l e R s m args below meth c H locs cells slots mc ms (F0 m pc ls st0) rest (va_Qi post (bB D cl w1 (va_A wc H.size)) (va_A wc H.size) a) (va_A wc H.size))
    (kk : ∀ (r : Int32) (u : S) (H1 : Heap) (locs1 : List Loc), post r u → va_P D cl (wr ++ w1 u) H1 → va_D A0 (wr ++ w1 u) → va_S A0 H0 H1 locs1 → W p l e R s m args below meth c H1 locs1 (cells + mc) (slots + ms) Q (F0 m (pc + 3) ls (.int r :: rest))) : W p l e R s m args below meth c H locs cells slots Q (F0 m pc ls st0) := by
  have hF := va_free (wc := wc) hD hS hA isC hC
  refine va_calli hr hS (fun q _ h => hF q h) hF (fun r u t H1 locs1 ht hvm hw hB hz hk hS1 => ?_)
  obtain ⟨hP1, hD1⟩ := hB
  rw [ht] at hP1
  obtain ⟨h1, h2⟩ := va_join hP hD isC isR hC hR hn hdis hk hF hP1 hD1
  exact kk r u H1 locs1 hw h1 h2 hS1
theorem rw_calll {post : Int64 → S → Prop} (hP : va_P D cl ws H) (hD : va_D A0 ws) (hS : va_S A0 H0 H locs) (hA : ∀ q, H0.size ≤ q → A0 q) (isC isR : List Nat) (hC : isC.map (fun i => ws[i]?) = wc.map some) (hR : isR.map (fun i => ws[i]?) = wr.map some) (hn : va_nd isR = true) (hdis : ∀ i ∈ isR, i ∉ isC)
    (hr : va_Run p l e R s m args below meth c H locs cells slots mc ms (F0 m pc ls st0) rest (va_Ql post (bB D cl w1 (va_A wc H.size)) (va_A wc H.size) a) (va_A wc H.size))
    (kk : ∀ (r : Int64) (u : S) (H1 : Heap) (locs1 : List Loc), post r u → va_P D cl (wr ++ w1 u) H1 → va_D A0 (wr ++ w1 u) → va_S A0 H0 H1 locs1 → W p l e R s m args below meth c H1 locs1 (cells + mc) (slots + ms) Q (F0 m (pc + 3) ls (.long r :: rest))) : W p l e R s m args below meth c H locs cells slots Q (F0 m pc ls st0) := by
  have hF := va_free (wc := wc) hD hS hA isC hC
  refine va_calll hr hS (fun q _ h => hF q h) hF (fun r u t H1 locs1 ht hvm hw hB hz hk hS1 => ?_)
  obtain ⟨hP1, hD1⟩ := hB
  rw [ht] at hP1
  obtain ⟨h1, h2⟩ := va_join hP hD isC isR hC hR hn hdis hk hF hP1 hD1
  exact kk r u H1 locs1 hw h1 h2 hS1
theorem rw_callv {post : S → Prop} (hP : va_P D cl ws H) (hD : va_D A0 ws) (hS : va_S A0 H0 H locs) (hA : ∀ q, H0.size ≤ q → A0 q) (isC isR : List Nat) (hC : isC.map (fun i => ws[i]?) = wc.map some) (hR : isR.map (fun i => ws[i]?) = wr.map some) (hn : va_nd isR = true) (hdis : ∀ i ∈ isR, i ∉ isC)
    (hr : va_Run p l e R s m args below meth c H locs cells slots mc ms (F0 m pc ls st0) rest (va_Qv post (bB D cl w1 (va_A wc H.size)) (va_A wc H.size) a) (va_A wc H.size))
    (kk : ∀ (u : S) (H1 : Heap) (locs1 : List Loc), post u → va_P D cl (wr ++ w1 u) H1 → va_D A0 (wr ++ w1 u) → va_S A0 H0 H1 locs1 → W p l e R s m args below meth c H1 locs1 (cells + mc) (slots + ms) Q (F0 m (pc + 3) ls rest)) : W p l e R s m args below meth c H locs cells slots Q (F0 m pc ls st0) := by
  have hF := va_free (wc := wc) hD hS hA isC hC
  refine va_callv hr hS (fun q _ h => hF q h) hF (fun u t H1 locs1 ht hvm hw hB hz hk hS1 => ?_)
  obtain ⟨hP1, hD1⟩ := hB
  rw [ht] at hP1
  obtain ⟨h1, h2⟩ := va_join hP hD isC isR hC hR hn hdis hk hF hP1 hD1
  exact kk u H1 locs1 hw h1 h2 hS1
/-- the answer is a reference, told by the world's state -/
theorem rw_callr {post : S → Nat → Prop} (hP : va_P D cl ws H) (hD : va_D A0 ws) (hS : va_S A0 H0 H locs) (hA : ∀ q, H0.size ≤ q → A0 q) (isC isR : List Nat) (hC : isC.map (fun i => ws[i]?) = wc.map some) (hR : isR.map (fun i => ws[i]?) = wr.map some) (hn : va_nd isR = true) (hdis : ∀ i ∈ isR, i ∉ isC)
    (hr : va_Run p l e R s m args below meth c H locs cells slots mc ms (F0 m pc ls st0) rest (va_Qr (fun _ : S => True) (fun u r t => post u r ∧ bB D cl w1 (va_A wc H.size) u t) (va_A wc H.size) a) (va_A wc H.size))
    (kk : ∀ (r : Nat) (u : S) (H1 : Heap) (locs1 : List Loc), post u r → va_P D cl (wr ++ w1 u) H1 → va_D A0 (wr ++ w1 u) → va_S A0 H0 H1 locs1 → W p l e R s m args below meth c H1 locs1 (cells + mc) (slots + ms) Q (F0 m (pc + 3) ls (.ref r :: rest))) : W p l e R s m args below meth c H locs cells slots Q (F0 m pc ls st0) := by
  have hF := va_free (wc := wc) hD hS hA isC hC
  refine va_callr hr hS (fun q _ h => hF q h) hF (fun u r t H1 locs1 ht hvm _ hB hz hk hS1 => ?_)
  obtain ⟨hw, hP1, hD1⟩ := hB
  rw [ht] at hP1
  obtain ⟨h1, h2⟩ := va_join hP hD isC isR hC hR hn hdis hk hF hP1 hD1
  exact kk r u H1 locs1 hw h1 h2 hS1
end Calls
section Rows
variable {p : Program} {l : Launch} {e : Env} {R : Room} {s : State} {m : MethodId} {args : Array Value} {below : List Frame} {meth : Method} {c : Code} {H : Heap} {locs : List Loc} {cells slots : Nat} {Q : State → Prop}
variable {cc : ByteArray} {pc : Nat} {ls : Array Slot} {rest : List Value} {D : va_G} {cl : List vw_C} {A : Nat → Prop} {a : Nat} {tys : List (ClassId × FieldType)} {ws : va_W} {H0 : Heap} {cA : ClassId} {n : Nat}
theorem ld_i {f : Nat → Int32} (hx : p.tables.exec = Jvm.exec) (hb : c.code = cc) (hK : va_K D cl tys s) (hP : va_P D cl ws H) (q0 t0 : Nat) (ha : ws[q0]? = some (a, .inl (cA, n, .inl f))) (ht : tys[t0]? = some (cA, .int)) {j : Nat} (hj : j < n) (hn : n < 2 ^ 31) (hdg : decode cc pc = .ok (.iaload, 1))
    (kk : W p l e R s m args below meth c H locs cells slots Q (F0 m (pc + 1) ls (.int (f j) :: rest))) : W p l e R s m args below meth c H locs cells slots Q (F0 m pc ls (.int (nI j) :: .ref a :: rest)) := by
  refine va_iald hx hb hK hP q0 t0 ha ht (vp_in_nI hj hn) hdg ?_
  rw [nI_clamp (Nat.lt_trans hj hn)]
  exact kk
theorem ld_b {f : Nat → Int32} (hx : p.tables.exec = Jvm.exec) (hb : c.code = cc) (hK : va_K D cl tys s) (hP : va_P D cl ws H) (q0 t0 : Nat) (ha : ws[q0]? = some (a, .inl (cA, n, .inl f))) (ht : tys[t0]? = some (cA, .byte)) {j : Nat} (hj : j < n) (hn : n < 2 ^ 31) (hdg : decode cc pc = .ok (.baload, 1))
    (kk : W p l e R s m args below meth c H locs cells slots Q (F0 m (pc + 1) ls (.int (f j) :: rest))) : W p l e R s m args below meth c H locs cells slots Q (F0 m pc ls (.int (nI j) :: .ref a :: rest)) := by
  refine va_bald hx hb hK hP q0 t0 ha ht (vp_in_nI hj hn) hdg ?_
  rw [nI_clamp (Nat.lt_trans hj hn)]
  exact kk
theorem ld_z {f : Nat → Int32} (hx : p.tables.exec = Jvm.exec) (hb : c.code = cc) (hK : va_K D cl tys s) (hP : va_P D cl ws H) (q0 t0 : Nat) (ha : ws[q0]? = some (a, .inl (cA, n, .inl f))) (ht : tys[t0]? = some (cA, .boolean)) {j : Nat} (hj : j < n) (hn : n < 2 ^ 31) (hdg : decode cc pc = .ok (.baload, 1))
    (kk : W p l e R s m args below meth c H locs cells slots Q (F0 m (pc + 1) ls (.int (f j) :: rest))) : W p l e R s m args below meth c H locs cells slots Q (F0 m pc ls (.int (nI j) :: .ref a :: rest)) := by
  refine va_zald hx hb hK hP q0 t0 ha ht (vp_in_nI hj hn) hdg ?_
  rw [nI_clamp (Nat.lt_trans hj hn)]
  exact kk
theorem ld_s {f : Nat → Int32} (hx : p.tables.exec = Jvm.exec) (hb : c.code = cc) (hK : va_K D cl tys s) (hP : va_P D cl ws H) (q0 t0 : Nat) (ha : ws[q0]? = some (a, .inl (cA, n, .inl f))) (ht : tys[t0]? = some (cA, .short)) {j : Nat} (hj : j < n) (hn : n < 2 ^ 31) (hdg : decode cc pc = .ok (.saload, 1))
    (kk : W p l e R s m args below meth c H locs cells slots Q (F0 m (pc + 1) ls (.int (f j) :: rest))) : W p l e R s m args below meth c H locs cells slots Q (F0 m pc ls (.int (nI j) :: .ref a :: rest)) := by
  refine va_sald hx hb hK hP q0 t0 ha ht (vp_in_nI hj hn) hdg ?_
  rw [nI_clamp (Nat.lt_trans hj hn)]
  exact kk
theorem ld_l {f : Nat → Int64} (hx : p.tables.exec = Jvm.exec) (hb : c.code = cc) (hK : va_K D cl tys s) (hP : va_P D cl ws H) (q0 t0 : Nat) (ha : ws[q0]? = some (a, .inl (cA, n, .inr (.inl f)))) (ht : tys[t0]? = some (cA, .long)) {j : Nat} (hj : j < n) (hn : n < 2 ^ 31) (hdg : decode cc pc = .ok (.laload, 1))
    (kk : W p l e R s m args below meth c H locs cells slots Q (F0 m (pc + 1) ls (.long (f j) :: rest))) : W p l e R s m args below meth c H locs cells slots Q (F0 m pc ls (.int (nI j) :: .ref a :: rest)) := by
  refine va_lald hx hb hK hP q0 t0 ha ht (vp_in_nI hj hn) hdg ?_
  rw [nI_clamp (Nat.lt_trans hj hn)]
  exact kk
theorem st_i {f : Nat → Int32} (hx : p.tables.exec = Jvm.exec) (hb : c.code = cc) (hK : va_K D cl tys s) (hP : va_P D cl ws H) (hD : va_D A ws) (hS : va_S A H0 H locs) (q0 t0 : Nat) (ha : ws[q0]? = some (a, .inl (cA, n, .inl f))) (ht : tys[t0]? = some (cA, .int)) {j : Nat} {x : Int32} (hj : j < n) (hn : n < 2 ^ 31) (hdg : decode cc pc = .ok (.iastore, 1))
    (kk : ∀ (H1 : Heap) (locs1 : List Loc), va_P D cl (ws.set q0 (a, .inl (cA, n, .inl (upd f j x)))) H1 → va_D A (ws.set q0 (a, .inl (cA, n, .inl (upd f j x)))) → va_S A H0 H1 locs1 → W p l e R s m args below meth c H1 locs1 cells slots Q (F0 m (pc + 1) ls rest)) : W p l e R s m args below meth c H locs cells slots Q (F0 m pc ls (.int x :: .int (nI j) :: .ref a :: rest)) := by
  refine va_iast hx hb hK hP hD hS q0 t0 ha ht (vp_in_nI hj hn) hdg ?_
  rw [nI_clamp (Nat.lt_trans hj hn)]
  exact kk
theorem st_b {f : Nat → Int32} (hx : p.tables.exec = Jvm.exec) (hb : c.code = cc) (hK : va_K D cl tys s) (hP : va_P D cl ws H) (hD : va_D A ws) (hS : va_S A H0 H locs) (q0 t0 : Nat) (ha : ws[q0]? = some (a, .inl (cA, n, .inl f))) (ht : tys[t0]? = some (cA, .byte)) {j : Nat} {x : Int32} (hj : j < n) (hn : n < 2 ^ 31) (hdg : decode cc pc = .ok (.bastore, 1))
    (kk : ∀ (H1 : Heap) (locs1 : List Loc), va_P D cl (ws.set q0 (a, .inl (cA, n, .inl (upd f j (vp_nar .byte x))))) H1 → va_D A (ws.set q0 (a, .inl (cA, n, .inl (upd f j (vp_nar .byte x))))) → va_S A H0 H1 locs1 → W p l e R s m args below meth c H1 locs1 cells slots Q (F0 m (pc + 1) ls rest)) : W p l e R s m args below meth c H locs cells slots Q (F0 m pc ls (.int x :: .int (nI j) :: .ref a :: rest)) := by
  refine va_bast hx hb hK hP hD hS q0 t0 ha ht (vp_in_nI hj hn) hdg ?_
  rw [nI_clamp (Nat.lt_trans hj hn)]
  exact kk
theorem st_z {f : Nat → Int32} (hx : p.tables.exec = Jvm.exec) (hb : c.code = cc) (hK : va_K D cl tys s) (hP : va_P D cl ws H) (hD : va_D A ws) (hS : va_S A H0 H locs) (q0 t0 : Nat) (ha : ws[q0]? = some (a, .inl (cA, n, .inl f))) (ht : tys[t0]? = some (cA, .boolean)) {j : Nat} {x : Int32} (hj : j < n) (hn : n < 2 ^ 31) (hdg : decode cc pc = .ok (.bastore, 1))
    (kk : ∀ (H1 : Heap) (locs1 : List Loc), va_P D cl (ws.set q0 (a, .inl (cA, n, .inl (upd f j (vp_nar .boolean x))))) H1 → va_D A (ws.set q0 (a, .inl (cA, n, .inl (upd f j (vp_nar .boolean x))))) → va_S A H0 H1 locs1 → W p l e R s m args below meth c H1 locs1 cells slots Q (F0 m (pc + 1) ls rest)) : W p l e R s m args below meth c H locs cells slots Q (F0 m pc ls (.int x :: .int (nI j) :: .ref a :: rest)) := by
  refine va_zast hx hb hK hP hD hS q0 t0 ha ht (vp_in_nI hj hn) hdg ?_
  rw [nI_clamp (Nat.lt_trans hj hn)]
  exact kk
theorem st_s {f : Nat → Int32} (hx : p.tables.exec = Jvm.exec) (hb : c.code = cc) (hK : va_K D cl tys s) (hP : va_P D cl ws H) (hD : va_D A ws) (hS : va_S A H0 H locs) (q0 t0 : Nat) (ha : ws[q0]? = some (a, .inl (cA, n, .inl f))) (ht : tys[t0]? = some (cA, .short)) {j : Nat} {x : Int32} (hj : j < n) (hn : n < 2 ^ 31) (hdg : decode cc pc = .ok (.sastore, 1))
    (kk : ∀ (H1 : Heap) (locs1 : List Loc), va_P D cl (ws.set q0 (a, .inl (cA, n, .inl (upd f j (vp_nar .short x))))) H1 → va_D A (ws.set q0 (a, .inl (cA, n, .inl (upd f j (vp_nar .short x))))) → va_S A H0 H1 locs1 → W p l e R s m args below meth c H1 locs1 cells slots Q (F0 m (pc + 1) ls rest)) : W p l e R s m args below meth c H locs cells slots Q (F0 m pc ls (.int x :: .int (nI j) :: .ref a :: rest)) := by
  refine va_sast hx hb hK hP hD hS q0 t0 ha ht (vp_in_nI hj hn) hdg ?_
  rw [nI_clamp (Nat.lt_trans hj hn)]
  exact kk
theorem st_l {f : Nat → Int64} (hx : p.tables.exec = Jvm.exec) (hb : c.code = cc) (hK : va_K D cl tys s) (hP : va_P D cl ws H) (hD : va_D A ws) (hS : va_S A H0 H locs) (q0 t0 : Nat) (ha : ws[q0]? = some (a, .inl (cA, n, .inr (.inl f)))) (ht : tys[t0]? = some (cA, .long)) {j : Nat} {x : Int64} (hj : j < n) (hn : n < 2 ^ 31) (hdg : decode cc pc = .ok (.lastore, 1))
    (kk : ∀ (H1 : Heap) (locs1 : List Loc), va_P D cl (ws.set q0 (a, .inl (cA, n, .inr (.inl (vp_updL f j x))))) H1 → va_D A (ws.set q0 (a, .inl (cA, n, .inr (.inl (vp_updL f j x))))) → va_S A H0 H1 locs1 → W p l e R s m args below meth c H1 locs1 cells slots Q (F0 m (pc + 1) ls rest)) : W p l e R s m args below meth c H locs cells slots Q (F0 m pc ls (.long x :: .int (nI j) :: .ref a :: rest)) := by
  refine va_last hx hb hK hP hD hS q0 t0 ha ht (vp_in_nI hj hn) hdg ?_
  rw [nI_clamp (Nat.lt_trans hj hn)]
  exact kk
theorem bn_eq (hx : p.tables.exec = Jvm.exec) (hcc : c.code = cc) {a b : Nat} {off : Int} {tgt : Nat} (hdg : decode cc pc = .ok (.if_icmp .eq off, 3)) (ht : (pc : Int) + off = (tgt : Int)) (ha : a < 2 ^ 31) (hb : b < 2 ^ 31)
    (kt : a = b → W p l e R s m args below meth c H locs cells slots Q (F0 m tgt ls rest)) (kf : ¬ a = b → W p l e R s m args below meth c H locs cells slots Q (F0 m (pc + 3) ls rest)) : W p l e R s m args below meth c H locs cells slots Q (F0 m pc ls (.int (nI b) :: .int (nI a) :: rest)) :=
  lv_icmp_eq hx hcc hdg ht (fun c => kt ((nI_eq ha hb).mp c)) (fun c => kf (fun q => c ((nI_eq ha hb).mpr q)))
theorem bn_ne (hx : p.tables.exec = Jvm.exec) (hcc : c.code = cc) {a b : Nat} {off : Int} {tgt : Nat} (hdg : decode cc pc = .ok (.if_icmp .ne off, 3)) (ht : (pc : Int) + off = (tgt : Int)) (ha : a < 2 ^ 31) (hb : b < 2 ^ 31)
    (kt : ¬ a = b → W p l e R s m args below meth c H locs cells slots Q (F0 m tgt ls rest)) (kf : a = b → W p l e R s m args below meth c H locs cells slots Q (F0 m (pc + 3) ls rest)) : W p l e R s m args below meth c H locs cells slots Q (F0 m pc ls (.int (nI b) :: .int (nI a) :: rest)) :=
  lv_icmp_ne hx hcc hdg ht (fun c => kt (fun q => c ((nI_eq ha hb).mpr q))) (fun c => kf ((nI_eq ha hb).mp c))
theorem bn_lt (hx : p.tables.exec = Jvm.exec) (hcc : c.code = cc) {a b : Nat} {off : Int} {tgt : Nat} (hdg : decode cc pc = .ok (.if_icmp .lt off, 3)) (ht : (pc : Int) + off = (tgt : Int)) (ha : a < 2 ^ 31) (hb : b < 2 ^ 31)
    (kt : a < b → W p l e R s m args below meth c H locs cells slots Q (F0 m tgt ls rest)) (kf : b ≤ a → W p l e R s m args below meth c H locs cells slots Q (F0 m (pc + 3) ls rest)) : W p l e R s m args below meth c H locs cells slots Q (F0 m pc ls (.int (nI b) :: .int (nI a) :: rest)) :=
  lv_icmp_lt hx hcc hdg ht (fun c => kt ((nI_ltI ha hb).mp c)) (fun c => kf (Nat.not_lt.mp (fun q => c ((nI_ltI ha hb).mpr q))))
theorem bn_ge (hx : p.tables.exec = Jvm.exec) (hcc : c.code = cc) {a b : Nat} {off : Int} {tgt : Nat} (hdg : decode cc pc = .ok (.if_icmp .ge off, 3)) (ht : (pc : Int) + off = (tgt : Int)) (ha : a < 2 ^ 31) (hb : b < 2 ^ 31)
    (kt : b ≤ a → W p l e R s m args below meth c H locs cells slots Q (F0 m tgt ls rest)) (kf : a < b → W p l e R s m args below meth c H locs cells slots Q (F0 m (pc + 3) ls rest)) : W p l e R s m args below meth c H locs cells slots Q (F0 m pc ls (.int (nI b) :: .int (nI a) :: rest)) :=
  lv_icmp_ge hx hcc hdg ht (fun c => kt ((nI_leI hb ha).mp c)) (fun c => kf (Nat.not_le.mp (fun q => c ((nI_leI hb ha).mpr q))))
theorem bn_gt (hx : p.tables.exec = Jvm.exec) (hcc : c.code = cc) {a b : Nat} {off : Int} {tgt : Nat} (hdg : decode cc pc = .ok (.if_icmp .gt off, 3)) (ht : (pc : Int) + off = (tgt : Int)) (ha : a < 2 ^ 31) (hb : b < 2 ^ 31)
    (kt : b < a → W p l e R s m args below meth c H locs cells slots Q (F0 m tgt ls rest)) (kf : a ≤ b → W p l e R s m args below meth c H locs cells slots Q (F0 m (pc + 3) ls rest)) : W p l e R s m args below meth c H locs cells slots Q (F0 m pc ls (.int (nI b) :: .int (nI a) :: rest)) :=
  lv_icmp_gt hx hcc hdg ht (fun c => kt ((nI_ltI hb ha).mp c)) (fun c => kf (Nat.not_lt.mp (fun q => c ((nI_ltI hb ha).mpr q))))
theorem bn_le (hx : p.tables.exec = Jvm.exec) (hcc : c.code = cc) {a b : Nat} {off : Int} {tgt : Nat} (hdg : decode cc pc = .ok (.if_icmp .le off, 3)) (ht : (pc : Int) + off = (tgt : Int)) (ha : a < 2 ^ 31) (hb : b < 2 ^ 31)
    (kt : a ≤ b → W p l e R s m args below meth c H locs cells slots Q (F0 m tgt ls rest)) (kf : b < a → W p l e R s m args below meth c H locs cells slots Q (F0 m (pc + 3) ls rest)) : W p l e R s m args below meth c H locs cells slots Q (F0 m pc ls (.int (nI b) :: .int (nI a) :: rest)) :=
  lv_icmp_le hx hcc hdg ht (fun c => kt ((nI_leI ha hb).mp c)) (fun c => kf (Nat.not_le.mp (fun q => c ((nI_leI ha hb).mpr q))))
/-- a truth value as an int -/
def bI (b : Bool) : Int32 := if b = true then 1 else 0
theorem bI_t : bI true = 1 := rfl
theorem bI_f : bI false = 0 := rfl
theorem bI_nar (b : Bool) : narrow .boolean (.int (bI b)) = .int (bI b) := by cases b <;> decide
theorem bb_eq (hx : p.tables.exec = Jvm.exec) (hcc : c.code = cc) {b : Bool} {off : Int} {tgt : Nat} (hdg : decode cc pc = .ok (.ifCond .eq off, 3)) (ht : (pc : Int) + off = (tgt : Int))
    (kt : b = false → W p l e R s m args below meth c H locs cells slots Q (F0 m tgt ls rest)) (kf : b = true → W p l e R s m args below meth c H locs cells slots Q (F0 m (pc + 3) ls rest)) : W p l e R s m args below meth c H locs cells slots Q (F0 m pc ls (.int (bI b) :: rest)) :=
  lv_if_eq hx hcc hdg ht (fun c => kt (by cases b with | false => rfl | true => exact absurd c (by decide))) (fun c => kf (by cases b with | true => rfl | false => exact absurd rfl c))
theorem bb_ne (hx : p.tables.exec = Jvm.exec) (hcc : c.code = cc) {b : Bool} {off : Int} {tgt : Nat} (hdg : decode cc pc = .ok (.ifCond .ne off, 3)) (ht : (pc : Int) + off = (tgt : Int))
    (kt : b = true → W p l e R s m args below meth c H locs cells slots Q (F0 m tgt ls rest)) (kf : b = false → W p l e R s m args below meth c H locs cells slots Q (F0 m (pc + 3) ls rest)) : W p l e R s m args below meth c H locs cells slots Q (F0 m pc ls (.int (bI b) :: rest)) :=
  lv_if_ne hx hcc hdg ht (fun c => kt (by cases b with | true => rfl | false => exact absurd rfl c)) (fun c => kf (by cases b with | false => rfl | true => exact absurd c (by decide)))
end Rows
end
section
/-! THE MATHEMATICAL VALUE: both sides are tied to it -/
/-- a node: its context's number, its byte, its count -/
abbrev Nd : Type := Nat × Nat × Nat
/-- what gets narrower: LOW (or VALUE less LOW), RANGE, shifts -/
abbrev Iv : Type := Nat × Nat × Nat
/-- a step: begin, part, whole, order + 1, escape -/
abbrev Stq : Type := Nat × Nat × Nat × Nat × Bool
def nd (N : List Nd) (i : Nat) : Nd := N.getD i (0, 0, 0)
def isB (b : Int32) : Bool := decide (0 ≤ b.toInt ∧ b.toInt < 256)
/-- the context's number of an order behind the bytes h, the latest first -/
def kAt (h : List Nat) (o : Nat) : Nat := if o = 0 then 0 else if o = 1 then 1 + h.getD 0 0 else 257 + h.getD 0 0 * 256 + h.getD 1 0
def lvb (k : Nat) (out : Nat → Bool) (x : Nd) : Bool := x.1 == k && !(out x.2.1)
def liv (k : Nat) (out : Nat → Bool) (N : List Nd) : List Nd := N.filter (lvb k out)
def sumC (N : List Nd) : Nat := (N.map (fun x => x.2.2)).sum
def pickP (p : Nat) : List Nd → Nat → Option (Nat × Nd)
  | [], _ => none
  | x :: xs, a => if p < a + x.2.2 then some (a, x) else pickP p xs (a + x.2.2)
def pickS (w : Nat) : List Nd → Nat → Option (Nat × Nd)
  | [], _ => none
  | x :: xs, a => if x.2.1 = w then some (a, x) else pickS w xs (a + x.2.2)
/-- how many of the first b symbols are not out -/
def cn (out : Nat → Bool) : Nat → Nat
  | 0 => 0
  | b + 1 => cn out b + (if out b = true then 0 else 1)
def plc (v : Iv) (t : Nat) : Nat := min (v.1 / (v.2.1 / t)) (t - 1)
def shf (rd : Bool) (C : List Nat) : Nat → Iv → Iv
  | 0, v => v
  | n + 1, v => if v.2.1 < 16777216 then shf rd C n (if rd = true then v.1 * 256 + C.getD (4 + v.2.2) 0 else v.1 * 256, v.2.1 * 256, v.2.2 + 1) else v
def nar (rd : Bool) (C : List Nat) (a f t : Nat) (v : Iv) : Iv :=
  shf rd C 4 (if rd = true then v.1 - v.2.1 / t * a else v.1 + v.2.1 / t * a, if a + f = t then v.2.1 - v.2.1 / t * a else v.2.1 / t * f, v.2.2)
def symAt (out : Nat → Bool) (p : Nat) : Nat := ((List.range 256).find? (fun b => !(out b) && cn out b == p)).getD 256
def outOf (N : List Nd) (k : Nat) (out : Nat → Bool) : Nat → Bool := fun b => out b || N.any (fun x => x.1 == k && x.2.1 == b)
def sel (rd : Bool) (p w : Nat) (lv : List Nd) : Option (Nat × Nd) := if rd = true then pickP p lv 0 else pickS w lv 0
/-- to tell (or read) a symbol from the order n - 1 down: interval, steps, symbol, order + 1 -/
def tellGo (rd : Bool) (C : List Nat) (N : List Nd) (key : Nat → Nat) (w : Nat) : Nat → Iv → (Nat → Bool) → List Stq → Iv × List Stq × Nat × Nat
  | 0, v, out, st =>
    (nar rd C (if rd = true then plc v (cn out 257) else cn out w) 1 (cn out 257) v, st ++ [(if rd = true then plc v (cn out 257) else cn out w, 1, cn out 257, 0, false)], if rd = true then symAt out (plc v (cn out 257)) else w, 0)
  | n + 1, v, out, st =>
    if liv (key n) out N = [] then tellGo rd C N key w n v out st else
    match sel rd (plc v (sumC (liv (key n) out N) + (liv (key n) out N).length)) w (liv (key n) out N) with
    | some ax => (nar rd C ax.1 ax.2.2.2 (sumC (liv (key n) out N) + (liv (key n) out N).length) v, st ++ [(ax.1, ax.2.2.2, sumC (liv (key n) out N) + (liv (key n) out N).length, n + 1, false)], ax.2.2.1, n + 1)
    | none => tellGo rd C N key w n (nar rd C (sumC (liv (key n) out N)) (liv (key n) out N).length (sumC (liv (key n) out N) + (liv (key n) out N).length) v) (outOf N (key n) out) (st ++ [(sumC (liv (key n) out N), (liv (key n) out N).length, sumC (liv (key n) out N) + (liv (key n) out N).length, n + 1, true)])
def isN (k b : Nat) (x : Nd) : Bool := x.1 == k && x.2.1 == b
def halv (k : Nat) (N : List Nd) : List Nd := N.map (fun x => if x.1 = k then (x.1, x.2.1, (x.2.2 + 1) / 2) else x)
def incN (k b : Nat) (N : List Nd) : List Nd := N.map (fun x => if isN k b x = true then (x.1, x.2.1, x.2.2 + 1) else x)
/-- a node's count, 0 where there is none -/
def cntN (k b : Nat) (N : List Nd) : Nat := ((N.find? (isN k b)).map (fun x => x.2.2)).getD 0
/-- nodes, rescalings, resets behind what one context learns; whether it goes on -/
def lrn1 (lim k b : Nat) (q : List Nd × Nat × Nat) : (List Nd × Nat × Nat) × Bool :=
  if q.1.any (isN k b) = true then
    if cntN k b q.1 = 255 then ((incN k b (halv k q.1), q.2.1 + 1, q.2.2), true) else ((incN k b q.1, q.2.1, q.2.2), true)
  else if lim ≤ q.1.length then (([], q.2.1, q.2.2 + 1), false) else ((q.1 ++ [(k, b, 1)], q.2.1, q.2.2), true)
/-- the orders n - 1 down to lo -/
def lrn (lim : Nat) (key : Nat → Nat) (b lo : Nat) : Nat → List Nd × Nat × Nat → List Nd × Nat × Nat
  | 0, q => q
  | n + 1, q => if n < lo then q else if (lrn1 lim (key n) b q).2 = true then lrn lim key b lo n (lrn1 lim (key n) b q).1 else (lrn1 lim (key n) b q).1
def topO (h : List Nat) : Nat := min h.length 2
def noOut : Nat → Bool := fun _ => false
/-- a run's state: interval, (nodes, rescalings, resets), bytes so far (the latest first), steps -/
abbrev Run : Type := Iv × (List Nd × Nat × Nat) × List Nat × List Stq
def tellR (rd : Bool) (C : List Nat) (w : Nat) (z : Run) : Iv × List Stq × Nat × Nat := tellGo rd C z.2.1.1 (kAt z.2.2.1) w (topO z.2.2.1 + 1) z.1 noOut z.2.2.2
/-- behind a byte that was told -/
def goBy (lim : Nat) (z : Run) (r : Iv × List Stq × Nat × Nat) : Run := (r.1, lrn lim (kAt z.2.2.1) r.2.2.1 (r.2.2.2 - 1) (topO z.2.2.1 + 1) z.2.1, r.2.2.1 :: z.2.2.1, r.2.1)
def encGo (lim : Nat) : List Nat → Run → Run
  | [], z => ((tellR false [] 256 z).1, z.2.1, z.2.2.1, (tellR false [] 256 z).2.1)
  | b :: bs, z => encGo lim bs (goBy lim z (tellR false [] b z))
/-- the run, and whether END came -/
def decGo (lim : Nat) (C : List Nat) : Nat → Run → Run × Bool
  | 0, z => (z, false)
  | n + 1, z => if (tellR true C 256 z).2.2.1 = 256 then (((tellR true C 256 z).1, z.2.1, z.2.2.1, (tellR true C 256 z).2.1), true) else
    if z.2.2.1.length = 4000 then (((tellR true C 256 z).1, z.2.1, z.2.2.1, (tellR true C 256 z).2.1), false) else decGo lim C n (goBy lim z (tellR true C 256 z))
/-- a number's last n digits to 256, the highest first -/
def dig : Nat → Nat → List Nat
  | 0, _ => []
  | n + 1, x => dig n (x / 256) ++ [x % 256]
def run0 (x : Nat) : Run := ((x, 4294967295, 0), ([], 0, 0), [], [])
def val4 (C : List Nat) : Nat := ((C.getD 0 0 * 256 + C.getD 1 0) * 256 + C.getD 2 0) * 256 + C.getD 3 0
/-- a row's room behind g growths -/
def gcap (most g : Nat) : Nat := min most (64 * 2 ^ g)
/-- how many growths n places need -/
def gN (n : Nat) : Nat := Nat.log2 (n - 1) - 5
theorem gN_iff (n g : Nat) : n ≤ 64 * 2 ^ g ↔ gN n ≤ g := by
  unfold gN
  have h6 : 64 * 2 ^ g = 2 ^ (g + 6) := by rw [Nat.pow_add]; omega
  rw [h6]
  have hp : 1 ≤ 2 ^ (g + 6) := Nat.one_le_two_pow
  by_cases h : n - 1 = 0
  · rw [h]
    simp only [show Nat.log2 0 = 0 from rfl]
    constructor
    · intro _; omega
    · intro _; omega
  · have h2 := Nat.log2_lt (k := g + 6) h
    constructor
    · intro h3
      have := h2.mpr (by omega)
      omega
    · intro h3
      have := h2.mp (by omega)
      omega
theorem gN_cap {n mo g : Nat} (h : n ≤ mo) : n ≤ gcap mo g ↔ gN n ≤ g := by
  rw [← gN_iff]
  unfold gcap
  omega
theorem gN_y {mo g n : Nat} (h1 : n ≤ gcap mo g) (h2 : gcap mo g ≤ n) (h3 : n < mo) : max g (gN (n + 1)) = g + 1 := by
  have e : n = 64 * 2 ^ g := by unfold gcap at h1 h2; omega
  have a : gN (n + 1) ≤ g + 1 := (gN_iff _ _).mp (by rw [Nat.pow_succ]; have : 1 ≤ 2 ^ g := Nat.one_le_two_pow; omega)
  have b : ¬ gN (n + 1) ≤ g := fun h => by
    have := (gN_iff _ _).mpr h
    omega
  omega
theorem gN_n {mo g n : Nat} (h1 : n < gcap mo g) (h3 : n < mo) : max g (gN (n + 1)) = g := by
  have := (gN_cap (mo := mo) (g := g) (n := n + 1) (by omega)).mp (by omega)
  omega
/-- an array holds a list of numbers -/
def BR (f : Nat → Int32) (L : List Nat) : Prop := ∀ j, j < L.length → f j = nI (L.getD j 0)
end
section
/-- the array classes of a world: int, long, byte, short, boolean -/
abbrev ATy (ca : Nat → ClassId) : List (ClassId × FieldType) := [(ca 0, .int), (ca 1, .long), (ca 2, .byte), (ca 3, .short), (ca 4, .boolean)]
theorem nw_X2_3 {s : State} (h : NW s) : va_Nw (.methodLinkNest RX2 3 yX3_init RX7) s := h _ (List.mem_of_getElem? (i := 0) rfl)
theorem nw_X1_3 {s : State} (h : NW s) : va_Nw (.methodLinkNest RX1 3 yX3_init RX7) s := h _ (List.mem_of_getElem? (i := 1) rfl)
theorem nw_X0_22 {s : State} (h : NW s) : va_Nw (.methodLinkNest RX0 22 yX7_isByte RX7) s := h _ (List.mem_of_getElem? (i := 2) rfl)
theorem nw_X0_26 {s : State} (h : NW s) : va_Nw (.methodLinkNest RX0 26 yX7_grown RX7) s := h _ (List.mem_of_getElem? (i := 3) rfl)
theorem nw_X4_73 {s : State} (h : NW s) : va_Nw (.methodLinkNest RX4 73 yX7_keyOf RX7) s := h _ (List.mem_of_getElem? (i := 4) rfl)
theorem nw_X6_108 {s : State} (h : NW s) : va_Nw (.methodLinkNest RX6 108 yX7_isByte RX7) s := h _ (List.mem_of_getElem? (i := 5) rfl)
theorem nw_X5_22 {s : State} (h : NW s) : va_Nw (.methodLinkNest RX5 22 yX7_grown RX7) s := h _ (List.mem_of_getElem? (i := 6) rfl)
theorem nw_X4_139 {s : State} (h : NW s) : va_Nw (.methodLinkNest RX4 139 yX7_grown RX7) s := h _ (List.mem_of_getElem? (i := 7) rfl)
theorem nw_placeIn {s : State} (h : NW s) : va_Nw (.declares ⟨"EscapeCoder$Interval", "placeIn", "(II)I"⟩) s := h _ (List.mem_of_getElem? (i := 8) rfl)
theorem nw_raiseLow {s : State} (h : NW s) : va_Nw (.declares ⟨"EscapeCoder$Interval", "raiseLow", "(J)V"⟩) s := h _ (List.mem_of_getElem? (i := 9) rfl)
theorem nw_shiftOnce {s : State} (h : NW s) : va_Nw (.declares ⟨"EscapeCoder$Interval", "shiftOnce", "()V"⟩) s := h _ (List.mem_of_getElem? (i := 10) rfl)
section Longs
variable {p : Program} {l : Launch} {e : Env} {R : Room} {s : State} {m : MethodId} {args : Array Value} {below : List Frame} {meth : Method} {c : Code} {H : Heap} {locs : List Loc} {cells slots : Nat} {Q : State → Prop}
variable {cc : ByteArray} {pc : Nat} {ls : Array Slot} {rest : List Value}
theorem bl_eq (hx : p.tables.exec = Jvm.exec) (hcc : c.code = cc) {a b : Nat} {off : Int} {tgt : Nat} (hdg : decode cc pc = .ok (.ifCond .eq off, 3)) (ht : (pc : Int) + off = (tgt : Int)) (ha : a < 2 ^ 63) (hb : b < 2 ^ 63)
    (kt : a = b → W p l e R s m args below meth c H locs cells slots Q (F0 m tgt ls rest)) (kf : ¬ a = b → W p l e R s m args below meth c H locs cells slots Q (F0 m (pc + 3) ls rest)) : W p l e R s m args below meth c H locs cells slots Q (F0 m pc ls (.int (lg_cmp (lN a) (lN b)) :: rest)) :=
  lv_if_eq hx hcc hdg ht (fun c => kt ((pk_lEQ ha hb).mp ((lg_cmp_eq _ _).mp c))) (fun c => kf (fun q => c ((lg_cmp_eq _ _).mpr ((pk_lEQ ha hb).mpr q))))
theorem bl_ne (hx : p.tables.exec = Jvm.exec) (hcc : c.code = cc) {a b : Nat} {off : Int} {tgt : Nat} (hdg : decode cc pc = .ok (.ifCond .ne off, 3)) (ht : (pc : Int) + off = (tgt : Int)) (ha : a < 2 ^ 63) (hb : b < 2 ^ 63)
    (kt : ¬ a = b → W p l e R s m args below meth c H locs cells slots Q (F0 m tgt ls rest)) (kf : a = b → W p l e R s m args below meth c H locs cells slots Q (F0 m (pc + 3) ls rest)) : W p l e R s m args below meth c H locs cells slots Q (F0 m pc ls (.int (lg_cmp (lN a) (lN b)) :: rest)) :=
  lv_if_ne hx hcc hdg ht (fun c => kt (fun q => c ((lg_cmp_eq _ _).mpr ((pk_lEQ ha hb).mpr q)))) (fun c => kf ((pk_lEQ ha hb).mp ((lg_cmp_eq _ _).mp c)))
theorem bl_ge (hx : p.tables.exec = Jvm.exec) (hcc : c.code = cc) {a b : Nat} {off : Int} {tgt : Nat} (hdg : decode cc pc = .ok (.ifCond .ge off, 3)) (ht : (pc : Int) + off = (tgt : Int)) (ha : a < 2 ^ 63) (hb : b < 2 ^ 63)
    (kt : b ≤ a → W p l e R s m args below meth c H locs cells slots Q (F0 m tgt ls rest)) (kf : a < b → W p l e R s m args below meth c H locs cells slots Q (F0 m (pc + 3) ls rest)) : W p l e R s m args below meth c H locs cells slots Q (F0 m pc ls (.int (lg_cmp (lN a) (lN b)) :: rest)) :=
  lv_if_ge hx hcc hdg ht (fun c => kt ((pk_lLE hb ha).mp ((lg_cmp_ge _ _).mp c))) (fun c => kf (Nat.not_le.mp (fun q => c ((lg_cmp_ge _ _).mpr ((pk_lLE hb ha).mpr q)))))
theorem bl_lt (hx : p.tables.exec = Jvm.exec) (hcc : c.code = cc) {a b : Nat} {off : Int} {tgt : Nat} (hdg : decode cc pc = .ok (.ifCond .lt off, 3)) (ht : (pc : Int) + off = (tgt : Int)) (ha : a < 2 ^ 63) (hb : b < 2 ^ 63)
    (kt : a < b → W p l e R s m args below meth c H locs cells slots Q (F0 m tgt ls rest)) (kf : b ≤ a → W p l e R s m args below meth c H locs cells slots Q (F0 m (pc + 3) ls rest)) : W p l e R s m args below meth c H locs cells slots Q (F0 m pc ls (.int (lg_cmp (lN a) (lN b)) :: rest)) :=
  lv_if_lt hx hcc hdg ht (fun c => kt ((pk_lLT ha hb).mp ((lg_cmp_lt _ _).mp c))) (fun c => kf (Nat.not_lt.mp (fun q => c ((lg_cmp_lt _ _).mpr ((pk_lLT ha hb).mpr q)))))
theorem bl_gt (hx : p.tables.exec = Jvm.exec) (hcc : c.code = cc) {a b : Nat} {off : Int} {tgt : Nat} (hdg : decode cc pc = .ok (.ifCond .gt off, 3)) (ht : (pc : Int) + off = (tgt : Int)) (ha : a < 2 ^ 63) (hb : b < 2 ^ 63)
    (kt : b < a → W p l e R s m args below meth c H locs cells slots Q (F0 m tgt ls rest)) (kf : a ≤ b → W p l e R s m args below meth c H locs cells slots Q (F0 m (pc + 3) ls rest)) : W p l e R s m args below meth c H locs cells slots Q (F0 m pc ls (.int (lg_cmp (lN a) (lN b)) :: rest)) :=
  lv_if_gt hx hcc hdg ht (fun c => kt ((pk_lLT hb ha).mp ((lg_cmp_gt _ _).mp c))) (fun c => kf (Nat.not_lt.mp (fun q => c ((lg_cmp_gt _ _).mpr ((pk_lLT hb ha).mpr q)))))
theorem bl_le (hx : p.tables.exec = Jvm.exec) (hcc : c.code = cc) {a b : Nat} {off : Int} {tgt : Nat} (hdg : decode cc pc = .ok (.ifCond .le off, 3)) (ht : (pc : Int) + off = (tgt : Int)) (ha : a < 2 ^ 63) (hb : b < 2 ^ 63)
    (kt : a ≤ b → W p l e R s m args below meth c H locs cells slots Q (F0 m tgt ls rest)) (kf : b < a → W p l e R s m args below meth c H locs cells slots Q (F0 m (pc + 3) ls rest)) : W p l e R s m args below meth c H locs cells slots Q (F0 m pc ls (.int (lg_cmp (lN a) (lN b)) :: rest)) :=
  lv_if_le hx hcc hdg ht (fun c => kt ((pk_lLE ha hb).mp ((lg_cmp_le _ _).mp c))) (fun c => kf (Nat.not_le.mp (fun q => c ((lg_cmp_le _ _).mpr ((pk_lLE ha hb).mpr q)))))
end Longs
section News
variable {p : Program} {l : Launch} {e : Env} {R : Room} {s : State} {m : MethodId} {args : Array Value} {below : List Frame} {meth : Method} {c : Code} {H : Heap} {locs : List Loc} {cells slots : Nat} {Q : State → Prop}
variable {cc : ByteArray} {pc : Nat} {ls : Array Slot} {rest : List Value} {D : va_G} {cl : List vw_C} {A : Nat → Prop} {a : Nat} {tys : List (ClassId × FieldType)} {ws : va_W} {H0 : Heap} {S : Type} {w1 : S → va_W} {mc ms : Nat}
theorem rw_aret {post : S → Nat → Prop} {v : Nat} {rt : FieldType} (u : S) (hx : p.tables.exec = Jvm.exec) (hb : c.code = cc) (hr : meth.sig.returnType = some rt) (hrt : (∃ n, rt = .object n) ∨ ∃ t, rt = .array t) (hlocks : meth.locks = false) (hq : post u v) (hP : va_P D cl (w1 u) H) (hD : va_D A (w1 u)) (hS : va_S A s.heap H locs) (hc : cells ≤ mc) (hs : slots ≤ ms) (hdg : decode cc pc = .ok (.areturn, 1)) :
    W p l e R s m args below meth c H locs cells slots (MQ below (va_Qr (fun _ : S => True) (fun u r t => post u r ∧ bB D cl w1 A u t) A) args s mc ms A) (F0 m pc ls [.ref v]) :=
  W.widen hc hs (W.aret (v := .ref v) hx hb hr hrt (Or.inr ⟨_, rfl⟩) (fun t ht _ => ⟨⟨u, v, rfl, trivial, hq, by rw [ht]; exact hP, hD⟩, hS.F ht⟩) hS.2.2 hdg hlocks)
/-- a new array of numbers: its class is the known one -/
theorem na {atype : ArrayType} (hexec : p.tables.exec = Jvm.exec) (hb : c.code = cc) (harr : (Cond.arrayClass (newarray.typeOf atype)).before args s = true) {ty : FieldType} (hty : newarray.typeOf atype = ty) (hK : va_K D cl tys s) (hP : va_P D cl ws H) (hD : va_D A ws) (hS : va_S A H0 H locs) (hA : ∀ q, H0.size ≤ q → A q)
    {n : Int32} {N' : Nat} {a0 : vp_A} (ha : ∀ cA : ClassId, vp_cell cA a0 = arrV cA N' (fun _ => defaultValue ty)) (hn : ¬ n < 0) (hN : n.toNatClampNeg = N') (hbytes : N' * componentBytes ty ≤ 536870912) (hcells : cells + 1 ≤ R.cells) (hslots : slots + N' ≤ R.slots) (hdg : decode cc pc = .ok (.newarray atype, 2)) (k : Nat) {cB : ClassId} (hk : tys[k]? = some (cB, ty)) (hra : ∀ c, va_RA s c ty → s.vm.findClass ("[" ++ ty.toString) = some c)
    (kk : ∀ (q : Nat) (H1 : Heap), va_P D cl (ws ++ [(q, .inl (cB, a0))]) H1 → va_D A (ws ++ [(q, .inl (cB, a0))]) → va_S A H0 H1 locs →
      W p l e R s m args below meth c H1 locs (cells + 1) (slots + N') Q (F0 m (pc + 2) ls (.ref q :: rest))) : W p l e R s m args below meth c H locs cells slots Q (F0 m pc ls (.int n :: rest)) := by
  refine va_newa hexec hb harr hty hK hP hD hS hA ha hn hN hbytes hcells hslots hdg (fun q cA H1 hK1 hP1 hD1 hS1 => ?_)
  have h1 := hra _ (hK1.2 tys.length (cA, ty) (by simp)).2
  have h2 := hra _ (hK.2 k _ hk).2
  have e : cA = cB := Option.some.inj (h1.symm.trans h2)
  subst e
  exact kk q H1 hP1 hD1 hS1
theorem cp_i (hexec : p.tables.exec = Jvm.exec) (hb : c.code = cc) (hml : c.maxLocals = ls.size) {own : String} {index : Nat} (hown : s.vm.findClass own = some m.cls) (hlink : (Cond.methodLink own index arraycopyName).before args s = true) (hnat : (Cond.native arraycopyName).before args s = true) (hstat : (Cond.static arraycopyName).before args s = true) (hini : (Cond.initialized "java/lang/System").before args s = true)
    (hK : va_K D cl tys s) (hP : va_P D cl ws H) (hD : va_D A ws) (hS : va_S A H0 H locs) (q0 q1 t0 t1 : Nat) {a0 : Nat} {c0 c1 : ClassId} {n0 n1 : Nat} {f g : Nat → Int32} (ha0 : ws[q0]? = some (a0, .inl (c0, n0, .inl f))) (ha1 : ws[q1]? = some (a, .inl (c1, n1, .inl g))) (ht0 : tys[t0]? = some (c0, .int)) (ht1 : tys[t1]? = some (c1, .int))
    {k : Nat} (hk : k < 2 ^ 31) (h4 : k ≤ n0) (h5 : k ≤ n1) (hframes : 1 ≤ R.frames) (hlocals : (rest.map fun v => v.category).sum + (nativeFrameWords "java/lang/System" "arraycopy" 5 + 11) ≤ R.locals) (hdg : decode cc pc = .ok (.invokestatic index, 3))
    (kk : ∀ (H1 : Heap) (locs1 : List Loc), va_P D cl (ws.set q1 (a, .inl (c1, n1, .inl (va_cpy f g 0 0 k)))) H1 → va_D A (ws.set q1 (a, .inl (c1, n1, .inl (va_cpy f g 0 0 k)))) → va_S A H0 H1 locs1 → W p l e R s m args below meth c H1 locs1 cells slots Q (F0 m (pc + 3) ls rest)) : W p l e R s m args below meth c H locs cells slots Q (F0 m pc ls (.int (nI k) :: .int (nI 0) :: .ref a :: .int (nI 0) :: .ref a0 :: rest)) := by
  have e0 : (nI 0).toNatClampNeg = 0 := nI_clamp (by decide)
  refine va_copyi hexec hb hml hown hlink hnat hstat hini hK hP hD hS q0 q1 t0 t1 ha0 ha1 ht0 ht1 rfl (nI_pos (by decide)) (nI_pos (by decide)) (nI_pos hk) (by rw [e0, nI_clamp hk]; omega) (by rw [e0, nI_clamp hk]; omega) (fun _ _ => rfl) hframes hlocals hdg ?_
  rw [e0, nI_clamp hk]
  exact kk
theorem cp_l (hexec : p.tables.exec = Jvm.exec) (hb : c.code = cc) (hml : c.maxLocals = ls.size) {own : String} {index : Nat} (hown : s.vm.findClass own = some m.cls) (hlink : (Cond.methodLink own index arraycopyName).before args s = true) (hnat : (Cond.native arraycopyName).before args s = true) (hstat : (Cond.static arraycopyName).before args s = true) (hini : (Cond.initialized "java/lang/System").before args s = true)
    (hK : va_K D cl tys s) (hP : va_P D cl ws H) (hD : va_D A ws) (hS : va_S A H0 H locs) (q0 q1 t0 t1 : Nat) {a0 : Nat} {c0 c1 : ClassId} {n0 n1 : Nat} {f g : Nat → Int64} (ha0 : ws[q0]? = some (a0, .inl (c0, n0, .inr (.inl f)))) (ha1 : ws[q1]? = some (a, .inl (c1, n1, .inr (.inl g)))) (ht0 : tys[t0]? = some (c0, .long)) (ht1 : tys[t1]? = some (c1, .long))
    {k : Nat} (hk : k < 2 ^ 31) (h4 : k ≤ n0) (h5 : k ≤ n1) (hframes : 1 ≤ R.frames) (hlocals : (rest.map fun v => v.category).sum + (nativeFrameWords "java/lang/System" "arraycopy" 5 + 11) ≤ R.locals) (hdg : decode cc pc = .ok (.invokestatic index, 3))
    (kk : ∀ (H1 : Heap) (locs1 : List Loc), va_P D cl (ws.set q1 (a, .inl (c1, n1, .inr (.inl (va_cpy f g 0 0 k))))) H1 → va_D A (ws.set q1 (a, .inl (c1, n1, .inr (.inl (va_cpy f g 0 0 k))))) → va_S A H0 H1 locs1 → W p l e R s m args below meth c H1 locs1 cells slots Q (F0 m (pc + 3) ls rest)) : W p l e R s m args below meth c H locs cells slots Q (F0 m pc ls (.int (nI k) :: .int (nI 0) :: .ref a :: .int (nI 0) :: .ref a0 :: rest)) := by
  have e0 : (nI 0).toNatClampNeg = 0 := nI_clamp (by decide)
  refine va_copyl hexec hb hml hown hlink hnat hstat hini hK hP hD hS q0 q1 t0 t1 ha0 ha1 ht0 ht1 rfl (nI_pos (by decide)) (nI_pos (by decide)) (nI_pos hk) (by rw [e0, nI_clamp hk]; omega) (by rw [e0, nI_clamp hk]; omega) (fun _ _ => rfl) hframes hlocals hdg ?_
  rw [e0, nI_clamp hk]
  exact kk
/-- Math.min and Math.max of two small numbers -/
theorem mn (hexec : p.tables.exec = Jvm.exec) (hb : c.code = cc) (hml : c.maxLocals = ls.size) {own : String} {index : Nat} (hown : s.vm.findClass own = some m.cls) (hlink : (Cond.methodLink own index Lib.Math.min.name).before args s = true) (hstat : (Cond.static Lib.Math.min.name).before args s = true) (hini : (Cond.initialized "java/lang/Math").before args s = true) (hcode : (Cond.code Lib.Math.min.name Lib.Math.min.code 2 (some .int)).before args s = true)
    (hframes : 1 ≤ R.frames) (hlocals : (rest.map fun v => v.category).sum + 13 ≤ R.locals) (hc : cells ≤ R.cells) (hs : slots ≤ R.slots) {x y : Nat} (hxx : x < 2 ^ 31) (hyy : y < 2 ^ 31) (hdg : decode cc pc = .ok (.invokestatic index, 3))
    (kk : W p l e R s m args below meth c H locs cells slots Q (F0 m (pc + 3) ls (.int (nI (min x y)) :: rest))) : W p l e R s m args below meth c H locs cells slots Q (F0 m pc ls (.int (nI y) :: .int (nI x) :: rest)) := by
  refine va_mmin hexec hb hml hown hlink hstat hini hcode hframes hlocals hc hs hdg ?_
  have e : (if nI y < nI x then nI y else nI x) = nI (min x y) := by
    by_cases h : y < x
    · rw [if_pos ((nI_ltI hyy hxx).mpr h), Nat.min_eq_right (Nat.le_of_lt h)]
    · rw [if_neg (fun q => h ((nI_ltI hyy hxx).mp q)), Nat.min_eq_left (by omega)]
  rw [e]
  exact kk
theorem mx (hexec : p.tables.exec = Jvm.exec) (hb : c.code = cc) (hml : c.maxLocals = ls.size) {own : String} {index : Nat} (hown : s.vm.findClass own = some m.cls) (hlink : (Cond.methodLink own index Lib.Math.max.name).before args s = true) (hstat : (Cond.static Lib.Math.max.name).before args s = true) (hini : (Cond.initialized "java/lang/Math").before args s = true) (hcode : (Cond.code Lib.Math.max.name Lib.Math.max.code 2 (some .int)).before args s = true)
    (hframes : 1 ≤ R.frames) (hlocals : (rest.map fun v => v.category).sum + 13 ≤ R.locals) (hc : cells ≤ R.cells) (hs : slots ≤ R.slots) {x y z : Int32} (hz : (if x < y then y else x) = z) (hdg : decode cc pc = .ok (.invokestatic index, 3))
    (kk : W p l e R s m args below meth c H locs cells slots Q (F0 m (pc + 3) ls (.int z :: rest))) : W p l e R s m args below meth c H locs cells slots Q (F0 m pc ls (.int y :: .int x :: rest)) := by
  refine va_mmax hexec hb hml hown hlink hstat hini hcode hframes hlocals hc hs hdg ?_
  rw [hz]
  exact kk
end News
theorem isB_neg {b : Int32} (h : b < 0) : isB b = false := by
  rw [Int32.lt_iff_toInt_lt, Int32.toInt_zero] at h
  simp only [isB, decide_eq_false_iff_not]
  omega
theorem isB_big {b : Int32} (h : nI 256 ≤ b) : isB b = false := by
  rw [Int32.le_iff_toInt_le, nI_toInt (by decide)] at h
  simp only [isB, decide_eq_false_iff_not]
  omega
theorem isB_ok {b : Int32} (h1 : ¬ b < 0) (h2 : ¬ nI 256 ≤ b) : isB b = true := by
  rw [Int32.lt_iff_toInt_lt, Int32.toInt_zero] at h1
  rw [Int32.le_iff_toInt_le, nI_toInt (by decide)] at h2
  simp only [isB, decide_eq_true_eq]
  omega
/-- a byte is a small number -/
theorem isB_nI {b : Int32} (h : isB b = true) : ∃ n : Nat, n < 256 ∧ b = nI n := by
  simp only [isB, decide_eq_true_eq] at h
  obtain ⟨j, hj, e⟩ := nI_of (x := b) (by rw [Int32.lt_iff_toInt_lt, Int32.toInt_zero]; omega)
  refine ⟨j, ?_, e⟩
  rw [e, nI_toInt hj] at h
  omega
theorem isB_of {n : Nat} (h : n < 256) : isB (nI n) = true := by
  simp only [isB, decide_eq_true_eq]
  rw [nI_toInt (by omega)]
  omega
/-! rows of bytes -/
def addOk (mo : Nat) (L : List Nat) (b : Int32) : Bool := isB b && decide (L.length < mo)
def addL (mo : Nat) (L : List Nat) (b : Int32) : List Nat := if addOk mo L b = true then L ++ [b.toNatClampNeg] else L
/-- growths behind it -/
def grA (mo gr : Nat) (L : List Nat) (b : Int32) : Nat := if addOk mo L b = true then max gr (gN (L.length + 1)) else gr
def inL (L : List Nat) (i : Int32) : Bool := decide (0 ≤ i.toInt ∧ i.toInt < L.length)
def atI (L : List Nat) (i : Int32) : Int32 := if inL L i = true then nI (L.getD i.toNatClampNeg 0) else -1
def putOk (L : List Nat) (i b : Int32) : Bool := isB b && inL L i
def putL (L : List Nat) (i b : Int32) : List Nat := if putOk L i b = true then L.set i.toNatClampNeg b.toNatClampNeg else L
def cutOk (L : List Nat) (n : Int32) : Bool := decide (0 ≤ n.toInt ∧ n.toInt ≤ L.length)
def cutL (L : List Nat) (n : Int32) : List Nat := if cutOk L n = true then L.take n.toNatClampNeg else L
theorem putL_len (L : List Nat) (i b : Int32) : (putL L i b).length = L.length := by
  unfold putL
  split <;> simp
theorem inL_neg {L : List Nat} {i : Int32} (h : i < 0) : inL L i = false := by
  rw [Int32.lt_iff_toInt_lt, Int32.toInt_zero] at h
  simp only [inL, decide_eq_false_iff_not]
  omega
theorem inL_nI {L : List Nat} {j : Nat} (hj : j < 2 ^ 31) : inL L (nI j) = decide (j < L.length) := by
  simp only [inL, nI_toInt hj]
  congr 1
  apply propext
  omega
theorem cutOk_neg {L : List Nat} {i : Int32} (h : i < 0) : cutOk L i = false := by
  rw [Int32.lt_iff_toInt_lt, Int32.toInt_zero] at h
  simp only [cutOk, decide_eq_false_iff_not]
  omega
theorem cutOk_nI {L : List Nat} {j : Nat} (hj : j < 2 ^ 31) : cutOk L (nI j) = decide (j ≤ L.length) := by
  simp only [cutOk, nI_toInt hj]
  congr 1
  apply propext
  omega
theorem gcap_le (mo g : Nat) : gcap mo g ≤ mo := Nat.min_le_left _ _
theorem gcap_succ {mo g n : Nat} (h1 : n ≤ gcap mo g) (h2 : gcap mo g ≤ n) (h3 : n < mo) : min mo (2 * n) = gcap mo (g + 1) := by
  unfold gcap at *
  rw [Nat.pow_succ]
  omega
theorem gcap_ne {mo g : Nat} (h0 : 64 ≤ mo) (h3 : gcap mo g < mo) : ¬ gcap mo (g + 1) = gcap mo g := by
  unfold gcap at *
  rw [Nat.pow_succ]
  have : 1 ≤ 2 ^ g := Nat.one_le_two_pow
  omega
theorem gcap_up {mo g n : Nat} (h1 : n ≤ gcap mo g) (h2 : gcap mo g ≤ n) (h3 : n < mo) : n + 1 ≤ gcap mo (g + 1) := by
  unfold gcap at *
  rw [Nat.pow_succ]
  have : 1 ≤ 2 ^ g := Nat.one_le_two_pow
  omega
theorem addOk_y {mo : Nat} {L : List Nat} {b : Int32} (h : isB b = true) (h2 : L.length < mo) : addOk mo L b = true := by
  unfold addOk
  rw [h]
  simp [h2]
theorem addOk_b {mo : Nat} {L : List Nat} {b : Int32} (h : isB b = false) : addOk mo L b = false := by
  unfold addOk
  rw [h]
  rfl
theorem addOk_n {mo : Nat} {L : List Nat} {b : Int32} (h2 : mo ≤ L.length) : addOk mo L b = false := by
  unfold addOk
  rw [show decide (L.length < mo) = false by simp; omega]
  simp
theorem grA_y {mo gr : Nat} {L : List Nat} {b : Int32} (h : isB b = true) (h1 : L.length ≤ gcap mo gr) (h2 : L.length < mo) (h3 : gcap mo gr ≤ L.length) : grA mo gr L b = gr + 1 := by
  unfold grA
  rw [if_pos (addOk_y h h2), gN_y h1 h3 h2]
theorem grA_n {mo gr : Nat} {L : List Nat} {b : Int32} (h2 : L.length < mo) (h3 : L.length < gcap mo gr) : grA mo gr L b = gr := by
  unfold grA
  rw [gN_n h3 h2]
  split <;> rfl
theorem grA_f {mo gr : Nat} {L : List Nat} {b : Int32} (h : addOk mo L b = false) : grA mo gr L b = gr := by
  unfold grA
  rw [h, if_neg (by decide)]
theorem BR_app {f : Nat → Int32} {L : List Nat} {b : Int32} {n : Nat} (h : BR f L) (hb : isB b = true) (hn : n = L.length) : BR (upd f n b) (L ++ [b.toNatClampNeg]) := by
  subst hn
  obtain ⟨v, hv, rfl⟩ := isB_nI hb
  intro j hj
  rw [nI_clamp (by omega)]
  simp only [List.length_append, List.length_singleton] at hj
  by_cases e : j = L.length
  · subst e
    simp [upd, List.getD]
  · rw [show upd f L.length (nI v) j = f j by simp [upd, e], h j (by omega)]
    simp [List.getD, List.getElem?_append_left (show j < L.length by omega)]
theorem BR_cpy {f g : Nat → Int32} {L : List Nat} {k : Nat} (h : BR f L) (hk : L.length ≤ k) : BR (va_cpy f g 0 0 k) L := by
  intro j hj
  rw [pk_cpy_in (by omega) (by omega), ← h j hj]
  simp
theorem BR_set {f : Nat → Int32} {L : List Nat} {j v : Nat} (h : BR f L) (hj : j < L.length) : BR (upd f j (nI v)) (L.set j v) := by
  intro i hi
  rw [List.length_set] at hi
  by_cases e : i = j
  · subst e
    simp [upd, List.getD, hj]
  · rw [show upd f j (nI v) i = f i by simp [upd, e], h i hi]
    simp [List.getD, List.getElem?_set_ne (Ne.symm e)]
theorem BR_take {f : Nat → Int32} {L : List Nat} {n : Nat} (h : BR f L) : BR f (L.take n) := by
  intro i hi
  rw [List.length_take] at hi
  rw [h i (by omega)]
  simp [List.getD, List.getElem?_take, show i < n by omega]
theorem cutL_len {L : List Nat} {n : Nat} (h : n ≤ L.length) (hn : n < 2 ^ 31) : (cutL L (nI n)).length = n := by
  unfold cutL
  rw [cutOk_nI hn, if_pos (by simp [h]), nI_clamp hn, List.length_take]
  omega
end
section
/-! ===== lN n to 2^64: shifts, and, or, masks, one bit ===== -/
theorem wb_tb (n : Nat) : (lN n).toBitVec = BitVec.ofNat 64 n := rfl
theorem wb_inj {a b : Int64} (h : a.toBitVec = b.toBitVec) : a = b := Int64.toBitVec_inj.mp h
theorem wb_tn {n : Nat} (h : n < 2 ^ 64) : (lN n).toBitVec.toNat = n := by rw [wb_tb, BitVec.toNat_ofNat, Nat.mod_eq_of_lt h]
theorem wb_of (x : Int64) : ∃ n, n < 2 ^ 64 ∧ x = lN n := ⟨x.toBitVec.toNat, x.toBitVec.isLt, wb_inj (by rw [wb_tb]; simp)⟩
theorem wb_of32 (x : Int32) : ∃ n, n < 2 ^ 32 ∧ x = nI n := ⟨x.toBitVec.toNat, x.toBitVec.isLt, Int32.toBitVec_inj.mp (by show _ = BitVec.ofNat 32 _; simp)⟩
theorem wb_c : ∀ k, k < 64 → ((nI k).toInt64 &&& 63) = lN k := by decide +kernel
theorem wb_cu : ∀ k, k < 64 → ((nI k).toInt64.toUInt64 &&& Int64.toUInt64 63) = UInt64.ofNat k := by decide +kernel
theorem wb_sm : ∀ k, k < 64 → (BitVec.ofNat 64 k).smod 64 = BitVec.ofNat 64 k := by decide +kernel
theorem wb_pw {a b : Nat} (h : a ≤ b) : 2 ^ b = 2 ^ a * 2 ^ (b - a) := by rw [← Nat.pow_add]; congr 1; omega
theorem wb_lt2 {a b : Nat} (h : a < b) : 2 ^ a < 2 ^ b := Nat.pow_lt_pow_right (by decide) h
theorem wb_mod (n : Nat) : lN n = lN (n % 2 ^ 64) := wb_inj (by rw [wb_tb, wb_tb]; apply BitVec.eq_of_toNat_eq; rw [BitVec.toNat_ofNat, BitVec.toNat_ofNat, Nat.mod_mod])
theorem wb_shr {n k : Nat} (hn : n < 2 ^ 64) (hk : k < 64) : ((lN n).toUInt64 >>> ((nI k).toInt64.toUInt64 &&& Int64.toUInt64 63)).toInt64 = lN (n / 2 ^ k) := by
  rw [wb_cu k hk]
  apply wb_inj
  apply BitVec.eq_of_toNat_eq
  show ((lN n).toUInt64 >>> UInt64.ofNat k).toNat = (BitVec.ofNat 64 _).toNat
  have h1 : (UInt64.ofNat k).toNat = k := by
    show (BitVec.ofNat 64 k).toNat = k
    rw [BitVec.toNat_ofNat, Nat.mod_eq_of_lt (by omega)]
  have h2 : (lN n).toUInt64.toNat = n := wb_tn hn
  rw [UInt64.toNat_shiftRight, h1, h2, Nat.mod_eq_of_lt hk, Nat.shiftRight_eq_div_pow, BitVec.toNat_ofNat, Nat.mod_eq_of_lt (Nat.lt_of_le_of_lt (Nat.div_le_self _ _) hn)]
theorem wb_shl (n : Nat) {k : Nat} (hk : k < 64) : lN n <<< ((nI k).toInt64 &&& 63) = lN (n * 2 ^ k) := by
  rw [wb_c k hk]
  apply wb_inj
  rw [Int64.toBitVec_shiftLeft, wb_tb, wb_tb, wb_tb, wb_sm k hk]
  apply BitVec.eq_of_toNat_eq
  rw [BitVec.shiftLeft_eq', BitVec.toNat_shiftLeft, BitVec.toNat_ofNat, BitVec.toNat_ofNat, BitVec.toNat_ofNat, Nat.mod_eq_of_lt (show k < 2 ^ 64 by omega), Nat.shiftLeft_eq, Nat.mul_mod, Nat.mod_mod, ← Nat.mul_mod]
theorem wb_and {a b : Nat} (ha : a < 2 ^ 64) (hb : b < 2 ^ 64) : lN a &&& lN b = lN (a &&& b) := by
  apply wb_inj
  rw [Int64.toBitVec_and, wb_tb, wb_tb, wb_tb]
  apply BitVec.eq_of_toNat_eq
  rw [BitVec.toNat_and, BitVec.toNat_ofNat, BitVec.toNat_ofNat, BitVec.toNat_ofNat, Nat.mod_eq_of_lt ha, Nat.mod_eq_of_lt hb, Nat.mod_eq_of_lt (Nat.and_lt_two_pow _ hb)]
theorem wb_or {a b : Nat} (ha : a < 2 ^ 64) (hb : b < 2 ^ 64) : lN a ||| lN b = lN (a ||| b) := by
  apply wb_inj
  rw [Int64.toBitVec_or, wb_tb, wb_tb, wb_tb]
  apply BitVec.eq_of_toNat_eq
  rw [BitVec.toNat_or, BitVec.toNat_ofNat, BitVec.toNat_ofNat, BitVec.toNat_ofNat, Nat.mod_eq_of_lt ha, Nat.mod_eq_of_lt hb, Nat.mod_eq_of_lt (Nat.or_lt_two_pow ha hb)]
theorem wb_mask {n k : Nat} (hn : n < 2 ^ 64) (hk : k < 64) : lN n &&& lN (2 ^ k - 1) = lN (n % 2 ^ k) := by
  rw [wb_and hn (by have := wb_lt2 hk; omega), Nat.and_two_pow_sub_one_eq_mod]
theorem wb_a1 {n : Nat} (hn : n < 2 ^ 64) : lN n &&& 1 = lN (n % 2) := wb_mask (k := 1) hn (by decide)
theorem wb_bit {n k : Nat} (hn : n < 2 ^ 64) (hk : k < 64) : ((lN n).toUInt64 >>> ((nI k).toInt64.toUInt64 &&& Int64.toUInt64 63)).toInt64 &&& 1 = lN (n / 2 ^ k % 2) := by
  rw [wb_shr hn hk, wb_a1 (Nat.lt_of_le_of_lt (Nat.div_le_self _ _) hn)]
theorem wb_xor {q k : Nat} (hk : k < 63) (h : 2 ^ k ≤ q) (h2 : q < 2 ^ (k + 1)) : lN q ^^^ lN (2 ^ k) = lN (q - 2 ^ k) := by
  obtain ⟨r, rfl⟩ : ∃ r, q = 2 ^ k + r := ⟨q - 2 ^ k, by omega⟩
  have hr : r < 2 ^ k := by rw [Nat.pow_succ] at h2; omega
  have hx : (2 ^ k + r) ^^^ 2 ^ k = r := by
    apply Nat.eq_of_testBit_eq
    intro i
    rw [Nat.testBit_xor, Nat.testBit_two_pow]
    rcases Nat.lt_trichotomy i k with h | h | h
    · rw [Nat.testBit_two_pow_add_gt h]
      simp [show ¬ k = i by omega]
    · subst h
      rw [Nat.testBit_two_pow_add_eq]
      simp
    · have a1 : 2 ^ (k + 1) ≤ 2 ^ i := Nat.pow_le_pow_right (by decide) h
      rw [Nat.testBit_lt_two_pow (show 2 ^ k + r < 2 ^ i by omega), Nat.testBit_lt_two_pow (show r < 2 ^ i by omega)]
      simp [show ¬ k = i by omega]
  have b1 := wb_lt2 (show k + 1 < 64 by omega)
  have b2 := wb_lt2 (show k < 64 by omega)
  apply wb_inj
  rw [Int64.toBitVec_xor, wb_tb, wb_tb, wb_tb]
  apply BitVec.eq_of_toNat_eq
  rw [BitVec.toNat_xor, BitVec.toNat_ofNat, BitVec.toNat_ofNat, BitVec.toNat_ofNat, Nat.mod_eq_of_lt (by omega : 2 ^ k + r < 2 ^ 64), Nat.mod_eq_of_lt b2, hx, Nat.add_sub_cancel_left, Nat.mod_eq_of_lt (by omega)]
/-! ===== lN: masks, 'or' of parts that don't overlap is a sum ===== -/
theorem u_tn {n : Nat} (h : n < 2 ^ 64) : (UInt64.ofNat n).toNat = n := Nat.mod_eq_of_lt h
theorem g_and {a b c : Nat} (ha : a < 2 ^ 64) (hb : b < 2 ^ 64) (hc : a &&& b = c) : lN a &&& lN b = lN c := by
  subst hc
  have h : UInt64.ofNat a &&& UInt64.ofNat b = UInt64.ofNat (a &&& b) := UInt64.toNat_inj.mp (by rw [UInt64.toNat_and, u_tn ha, u_tn hb, u_tn (Nat.and_lt_two_pow a hb)])
  have h2 := congrArg UInt64.toInt64 h
  exact h2
theorem g_and1 {a : Nat} (ha : a < 2 ^ 64) : lN a &&& 1 = lN (a % 2) := g_and (b := 1) ha (by decide) (Nat.and_two_pow_sub_one_eq_mod a 1)
theorem g_mask {a s p : Nat} (hp : 2 ^ s = p) (hs : s < 64) (ha : a < 2 ^ 64) : lN a &&& lN (p - 1) = lN (a % p) := by
  subst hp
  have := Nat.pow_lt_pow_right (show 1 < 2 by decide) hs
  exact g_and ha (by omega) (Nat.and_two_pow_sub_one_eq_mod a s)
theorem g_or {k p a b : Nat} (hp : 2 ^ k = p) (ha : a < p) (h : b * p + a < 2 ^ 64) : lN (b * p) ||| lN a = lN (b * p + a) := by
  subst hp
  have h1 : b * 2 ^ k ||| a = b * 2 ^ k + a := by rw [← Nat.shiftLeft_eq, Nat.shiftLeft_add_eq_or_of_lt ha]
  have h3 : UInt64.ofNat (b * 2 ^ k) ||| UInt64.ofNat a = UInt64.ofNat (b * 2 ^ k + a) := UInt64.toNat_inj.mp (by rw [UInt64.toNat_or, u_tn (by omega), u_tn (by omega), u_tn h, h1])
  have h2 := congrArg UInt64.toInt64 h3
  exact h2
theorem g_or' {k p a b : Nat} (hp : 2 ^ k = p) (ha : a < p) (h : a + b * p < 2 ^ 64) : lN a ||| lN (b * p) = lN (a + b * p) := by
  rw [Int64.or_comm, g_or hp ha (by omega), Nat.add_comm]
theorem g_ushr {a k p : Nat} {y : UInt64} (hy : y = UInt64.ofNat k) (hk : k < 64) (hp : 2 ^ k = p) (ha : a < 2 ^ 64) : ((lN a).toUInt64 >>> y).toInt64 = lN (a / p) := by
  subst hy hp
  have h : UInt64.ofNat a >>> UInt64.ofNat k = UInt64.ofNat (a / 2 ^ k) := UInt64.toNat_inj.mp (by rw [UInt64.toNat_shiftRight, u_tn ha, u_tn (by omega), u_tn (Nat.lt_of_le_of_lt (Nat.div_le_self _ _) ha), Nat.mod_eq_of_lt hk, Nat.shiftRight_eq_div_pow])
  have h2 := congrArg UInt64.toInt64 h
  exact h2
theorem g_shl {a k p : Nat} {y : Int64} (hy : y.toBitVec.smod 64 = BitVec.ofNat 64 k) (hk : k < 64) (hp : 2 ^ k = p) (ha : a < 2 ^ 64) : lN a <<< y = lN (a * p) := by
  subst hp
  apply Int64.toBitVec_inj.mp
  rw [Int64.toBitVec_shiftLeft, hy]
  apply BitVec.eq_of_toNat_eq
  have hb : (lN a).toBitVec.toNat = a := Nat.mod_eq_of_lt ha
  have hk' : (BitVec.ofNat 64 k).toNat = k := Nat.mod_eq_of_lt (by omega)
  have h : ((lN a).toBitVec <<< BitVec.ofNat 64 k).toNat = (a * 2 ^ k) % 2 ^ 64 := by simp only [BitVec.shiftLeft_eq', BitVec.toNat_shiftLeft, hb, hk', Nat.shiftLeft_eq]
  exact h
end
section
/-! steps -/
def sD : Stq := (0, 0, 0, 0, false)
/-- a step as one number -/
def pkS (x : Stq) : Nat := x.1 + x.2.1 * 1048576 + x.2.2.1 * 1099511627776 + x.2.2.2.1 * 1152921504606846976 + (if x.2.2.2.2 = true then 1 else 0) * 4611686018427387904
def SR (f : Nat → Int64) (st : List Stq) : Prop := ∀ j, j < st.length → f j = lN (pkS (st.getD j sD))
/-- the parts of a step are small -/
def okS (x : Stq) : Prop := x.1 < 32768 ∧ x.2.1 < 32768 ∧ x.2.2.1 < 32768 ∧ x.2.2.2.1 < 4
def escN (st : List Stq) : Nat := (st.filter (fun x => x.2.2.2.2)).length
theorem escN_app (st : List Stq) (x : Stq) : escN (st ++ [x]) = escN st + (if x.2.2.2.2 = true then 1 else 0) := by
  unfold escN
  rw [List.filter_append, List.length_append]
  congr 1
  by_cases h : x.2.2.2.2 = true
  · simp [h]
  · simp [h]
theorem SR_app {f : Nat → Int64} {st : List Stq} {x : Stq} {n : Nat} (h : SR f st) (hn : n = st.length) : SR (vp_updL f n (lN (pkS x))) (st ++ [x]) := by
  subst hn
  intro j hj
  simp only [List.length_append, List.length_singleton] at hj
  by_cases e : j = st.length
  · subst e
    simp [vp_updL, List.getD]
  · rw [show vp_updL f st.length (lN (pkS x)) j = f j by simp [vp_updL, e], h j (by omega)]
    simp [List.getD, List.getElem?_append_left (show j < st.length by omega)]
theorem SR_cpy {f g : Nat → Int64} {st : List Stq} {k : Nat} (h : SR f st) (hk : st.length ≤ k) : SR (va_cpy f g 0 0 k) st := by
  intro j hj
  rw [pk_cpy_in (by omega) (by omega), ← h j hj]
  simp
/-- what is asked of a step -/
def stepV (x : Stq) (w : Int32) : Int32 := if w.toInt = 0 then nI x.1 else if w.toInt = 1 then nI x.2.1 else if w.toInt = 2 then nI x.2.2.1 else if w.toInt = 3 then nI x.2.2.2.1 - 1 else if w.toInt = 4 then bI x.2.2.2.2 else -2
def stepI (st : List Stq) (i w : Int32) : Int32 := if 0 ≤ i.toInt ∧ i.toInt < st.length then stepV (st.getD i.toNatClampNeg sD) w else -2
theorem stepI_neg {st : List Stq} {i w : Int32} (h : i < 0) : stepI st i w = -2 := by
  rw [Int32.lt_iff_toInt_lt, Int32.toInt_zero] at h
  unfold stepI
  rw [if_neg (by omega)]
theorem stepI_big {st : List Stq} {j : Nat} {w : Int32} (hj : j < 2 ^ 31) (h : st.length ≤ j) : stepI st (nI j) w = -2 := by
  unfold stepI
  rw [nI_toInt hj, if_neg (by omega)]
theorem stepI_in {st : List Stq} {j : Nat} {w : Int32} (hj : j < 2 ^ 31) (h : j < st.length) : stepI st (nI j) w = stepV (st.getD j sD) w := by
  unfold stepI
  rw [nI_toInt hj, if_pos (by omega), nI_clamp hj]
theorem pkS_0 {x : Stq} (h : okS x) : pkS x % 1048576 = x.1 := by
  obtain ⟨h1, h2, h3, h4⟩ := h
  unfold pkS
  split <;> omega
theorem pkS_1 {x : Stq} (h : okS x) : pkS x / 1048576 % 1048576 = x.2.1 := by
  obtain ⟨h1, h2, h3, h4⟩ := h
  unfold pkS
  split <;> omega
theorem pkS_2 {x : Stq} (h : okS x) : pkS x / 1099511627776 % 1048576 = x.2.2.1 := by
  obtain ⟨h1, h2, h3, h4⟩ := h
  unfold pkS
  split <;> omega
theorem pkS_3 {x : Stq} (h : okS x) : pkS x / 1152921504606846976 % 4 = x.2.2.2.1 := by
  obtain ⟨h1, h2, h3, h4⟩ := h
  unfold pkS
  split <;> omega
theorem pkS_4 {x : Stq} (h : okS x) : pkS x / 4611686018427387904 % 2 = (if x.2.2.2.2 = true then 1 else 0) := by
  obtain ⟨h1, h2, h3, h4⟩ := h
  unfold pkS
  split <;> omega
theorem pkS_lt {x : Stq} (h : okS x) : pkS x < 2 ^ 63 := by
  obtain ⟨h1, h2, h3, h4⟩ := h
  unfold pkS
  split <;> omega
theorem gD_l {L M : List Nat} {j : Nat} (h : j < L.length) : (L ++ M).getD j 0 = L.getD j 0 := by simp [List.getD, List.getElem?_append_left h]
theorem gD_r {L M : List Nat} {j : Nat} (h : L.length ≤ j) : (L ++ M).getD j 0 = M.getD (j - L.length) 0 := by simp [List.getD, List.getElem?_append_right h]
/-! digits -/
theorem dig_len (n x : Nat) : (dig n x).length = n := by
  induction n generalizing x with
  | zero => rfl
  | succ n ih => simp [dig, ih]
theorem dig_lt (n x j : Nat) : (dig n x).getD j 0 < 256 := by
  induction n generalizing x j with
  | zero => simp [dig]
  | succ n ih =>
    unfold dig
    by_cases h : j < n
    · rw [gD_l (by rw [dig_len]; exact h)]
      exact ih _ _
    · rw [gD_r (by rw [dig_len]; omega), dig_len]
      by_cases e : j = n
      · subst e
        simp
        omega
      · rw [show ([x % 256] : List Nat).getD (j - n) 0 = 0 by simp [List.getD, show j - n ≠ 0 by omega]]
        decide
theorem dig_mod (n x : Nat) : dig n x = dig n (x % 256 ^ n) := by
  induction n generalizing x with
  | zero => rfl
  | succ n ih =>
    unfold dig
    rw [ih (x / 256), ih (x % 256 ^ (n + 1) / 256)]
    have e1 : x % 256 ^ (n + 1) / 256 = x / 256 % 256 ^ n := by rw [Nat.pow_succ, Nat.mul_comm, Nat.mod_mul_right_div_self]
    have e2 : x % 256 ^ (n + 1) % 256 = x % 256 := by rw [Nat.pow_succ]; exact Nat.mod_mul_left_mod _ _ _
    rw [e1, e2, Nat.mod_mod]
/-- one more, the carry going up -/
def cryL (L : List Nat) : Nat → List Nat
  | 0 => L
  | k + 1 => if L.getD k 0 < 255 then L.set k (L.getD k 0 + 1) else cryL (L.set k 0) k
theorem cryL_len (L : List Nat) (k : Nat) : (cryL L k).length = L.length := by
  induction k generalizing L with
  | zero => rfl
  | succ k ih =>
    unfold cryL
    split
    · simp
    · rw [ih]
      simp
theorem cryL_dig (n y : Nat) (Z : List Nat) : cryL (dig n y ++ Z) n = dig n (y + 1) ++ Z := by
  induction n generalizing y Z with
  | zero => rfl
  | succ n ih =>
    have e0 : dig (n + 1) y ++ Z = dig n (y / 256) ++ (y % 256 :: Z) := by simp [dig]
    have eg : (dig (n + 1) y ++ Z).getD n 0 = y % 256 := by
      rw [e0, gD_r (by rw [dig_len]; omega), dig_len]
      simp
    have es : ∀ v, (dig (n + 1) y ++ Z).set n v = dig n (y / 256) ++ (v :: Z) := by
      intro v
      rw [e0, List.set_append_right _ _ (by rw [dig_len]; omega), dig_len]
      simp
    unfold cryL
    rw [eg, es, es]
    split
    · have e1 : (y + 1) / 256 = y / 256 := by omega
      have e2 : (y + 1) % 256 = y % 256 + 1 := by omega
      simp [dig, e1, e2]
    · rw [ih]
      have e1 : (y + 1) / 256 = y / 256 + 1 := by omega
      have e2 : (y + 1) % 256 = 0 := by omega
      simp [dig, e1, e2]
theorem getD_mem {α : Type} {L : List α} {j : Nat} {d : α} (h : j < L.length) : L.getD j d ∈ L := by
  have e : L.getD j d = L[j] := by simp [List.getD, h]
  rw [e]
  exact List.getElem_mem h
theorem shl20 (n : Nat) : lN n <<< ((nI 20).toInt64 &&& 63) = lN (n * 1048576) := by rw [wb_shl n (by decide), show (2 : Nat) ^ 20 = 1048576 by decide]
theorem shl40 (n : Nat) : lN n <<< ((nI 40).toInt64 &&& 63) = lN (n * 1099511627776) := by rw [wb_shl n (by decide), show (2 : Nat) ^ 40 = 1099511627776 by decide]
theorem shl60 (n : Nat) : lN n <<< ((nI 60).toInt64 &&& 63) = lN (n * 1152921504606846976) := by rw [wb_shl n (by decide), show (2 : Nat) ^ 60 = 1152921504606846976 by decide]
theorem shl62 (n : Nat) : lN n <<< ((nI 62).toInt64 &&& 63) = lN (n * 4611686018427387904) := by rw [wb_shl n (by decide), show (2 : Nat) ^ 62 = 4611686018427387904 by decide]
theorem shl8 (n : Nat) : lN n <<< ((nI 8).toInt64 &&& 63) = lN (n * 256) := by rw [wb_shl n (by decide), show (2 : Nat) ^ 8 = 256 by decide]
theorem shr20 {n : Nat} (h : n < 2 ^ 64) : ((lN n).toUInt64 >>> ((nI 20).toInt64.toUInt64 &&& Int64.toUInt64 63)).toInt64 = lN (n / 1048576) := by rw [wb_shr h (by decide), show (2 : Nat) ^ 20 = 1048576 by decide]
theorem shr40 {n : Nat} (h : n < 2 ^ 64) : ((lN n).toUInt64 >>> ((nI 40).toInt64.toUInt64 &&& Int64.toUInt64 63)).toInt64 = lN (n / 1099511627776) := by rw [wb_shr h (by decide), show (2 : Nat) ^ 40 = 1099511627776 by decide]
theorem shr60 {n : Nat} (h : n < 2 ^ 64) : ((lN n).toUInt64 >>> ((nI 60).toInt64.toUInt64 &&& Int64.toUInt64 63)).toInt64 = lN (n / 1152921504606846976) := by rw [wb_shr h (by decide), show (2 : Nat) ^ 60 = 1152921504606846976 by decide]
theorem shr62 {n : Nat} (h : n < 2 ^ 64) : ((lN n).toUInt64 >>> ((nI 62).toInt64.toUInt64 &&& Int64.toUInt64 63)).toInt64 = lN (n / 4611686018427387904) := by rw [wb_shr h (by decide), show (2 : Nat) ^ 62 = 4611686018427387904 by decide]
theorem shr24 {n : Nat} (h : n < 2 ^ 64) : ((lN n).toUInt64 >>> ((nI 24).toInt64.toUInt64 &&& Int64.toUInt64 63)).toInt64 = lN (n / 16777216) := by rw [wb_shr h (by decide), show (2 : Nat) ^ 24 = 16777216 by decide]
/-- the packed step -/
theorem pkS_f (b w o x : Nat) : lN (b + w * 1048576 + o * 1099511627776 + x * 1152921504606846976 + 0 * 4611686018427387904) = lN (pkS (b, w, o, x, false)) := by
  have e : pkS (b, w, o, x, false) = b + w * 1048576 + o * 1099511627776 + x * 1152921504606846976 + 0 * 4611686018427387904 := by
    unfold pkS
    dsimp only
    rw [if_neg (by decide)]
  rw [e]
theorem pkS_t (b w o x : Nat) : lN (b + w * 1048576 + o * 1099511627776 + x * 1152921504606846976 + 1 * 4611686018427387904) = lN (pkS (b, w, o, x, true)) := by
  have e : pkS (b, w, o, x, true) = b + w * 1048576 + o * 1099511627776 + x * 1152921504606846976 + 1 * 4611686018427387904 := by
    unfold pkS
    dsimp only
    rw [if_pos rfl]
  rw [e]
end
section
set_option maxHeartbeats 4000000 in
set_option maxRecDepth 100000 in
/-- isByte: as isB says -/
theorem c_isByte (l : Launch) (D : va_G) (ca : Nat → ClassId) (b : Int32)  : Met l yX7_isByte wsX7_isByte { frames := 0, cells := 0, slots := 0, locals := 0 } (roP D vwCl (ATy ca) [] [.int b]) (vp_Si (fun r : Int32 => r = bI (isB b))) 0 0 (fun _ => False) := by
  refine ro_enter (by decide) rfl (Nat.le_of_ble_eq_true rfl) ?_
  intro p e s m below meth c ls C hK hN hP hl
  obtain ⟨hx, hb, hr, hml, hown, hlocks, hts⟩ := C
  have hl : lv_has ls 1 [(0, .int b)] := hl
  refine lv_iload_n hx hb dX7_isByte_0 rfl (lv_at hl 0 rfl) ?_
  refine lv_if_lt (tgt := 15) hx hb dX7_isByte_1 (by decide) (fun h1 => ?_) (fun h1 => ?_)
  · refine lv_iconst (v := nI 0) hx hb dX7_isByte_15 (by decide) ?_
    exact ro_zret hx hb hr hlocks (by decide) (by rw [isB_neg h1]; rfl) dX7_isByte_16
  · refine lv_iload_n hx hb dX7_isByte_4 rfl (lv_at hl 0 rfl) ?_
    refine lv_sipush (v := nI 256) hx hb dX7_isByte_5 (by decide) ?_
    refine lv_icmp_ge (tgt := 15) hx hb dX7_isByte_8 (by decide) (fun h2 => ?_) (fun h2 => ?_)
    · refine lv_iconst (v := nI 0) hx hb dX7_isByte_15 (by decide) ?_
      exact ro_zret hx hb hr hlocks (by decide) (by rw [isB_big h2]; rfl) dX7_isByte_16
    · refine lv_iconst (v := nI 1) hx hb dX7_isByte_11 (by decide) ?_
      refine lv_goto (tgt := 16) hx hb dX7_isByte_12 (by decide) ?_
      exact ro_zret hx hb hr hlocks (by decide) (by rw [isB_ok h1 h2]; rfl) dX7_isByte_16

set_option maxHeartbeats 4000000 in
set_option maxRecDepth 100000 in
theorem c_grown (l : Launch) (D : va_G) (ca : Nat → ClassId) (n : Nat) (mo : Nat) (hn : n < 2 ^ 30) (hm : mo < 2 ^ 31) : Met l yX7_grown wsX7_grown { frames := 1, cells := 0, slots := 0, locals := 21 } (roP D vwCl (ATy ca) [] [.int (nI n), .int (nI mo)]) (vp_Si (fun r : Int32 => r = nI (min mo (2 * n)))) 0 0 (fun _ => False) := by
  refine ro_enter (by decide) rfl (Nat.le_of_ble_eq_true rfl) ?_
  intro p e s m below meth c ls C hK hN hP hl
  obtain ⟨hx, hb, hr, hml, hown, hlocks, hts⟩ := C
  have hl : lv_has ls 2 [(0, .int (nI n)), (1, .int (nI mo))] := hl
  have hw_89228d := hts (.methodLink RX7 183 Lib.Math.min.name) (by decide +kernel)
  have hw_79b26a := hts (.static Lib.Math.min.name) (by decide +kernel)
  have hw_868a92 := hts (.initialized "java/lang/Math") (by decide +kernel)
  have hw_0fd793 := hts (.code Lib.Math.min.name Lib.Math.min.code 2 (some .int)) (by decide +kernel)
  refine lv_iload_n hx hb dX7_grown_0 rfl (lv_at hl 1 rfl) ?_
  refine lv_iconst (v := nI 2) hx hb dX7_grown_1 (by decide) ?_
  refine lv_iload_n hx hb dX7_grown_2 rfl (lv_at hl 0 rfl) ?_
  refine lv_imul hx hb dX7_grown_3 ?_
  refine tp_i (y := nI (2 * n)) (pk_mul 2 n) ?_
  refine mn (x := mo) (y := 2 * n) hx hb (hml.trans hl.1.symm) hown hw_89228d hw_79b26a hw_868a92 hw_0fd793 (Nat.le_of_ble_eq_true rfl) (Nat.le_of_ble_eq_true rfl) (Nat.zero_le _) (Nat.zero_le _) (by omega) (by omega) dX7_grown_4 ?_
  exact ro_iret hx hb hr hlocks (rfl) dX7_grown_7

set_option maxHeartbeats 4000000 in
set_option maxRecDepth 100000 in
/-- Arrays.copyOf where the length is another one -/
theorem c_copyI (l : Launch) (D : va_G) (ca : Nat → ClassId) (q : Nat) (n : Nat) (k : Nat) (f : Nat → Int32) (hn : n < 2 ^ 31) (hk : k ≤ 20000) (hne : ¬ k = n) (sz : Nat) : Met l yJ7_copyOf_59c91 wsJ7_copyOf_59c91 { frames := 1, cells := 1, slots := 20000, locals := 26 } (rwP D vwCl (ATy ca) [(q, .inl (ca 0, n, .inl f))] sz [.ref q, .int (nI k)]) (va_Qr (fun _ : Nat => True) (fun u r t => (fun (u : Nat) (r : Nat) => r = u) u r ∧ bB D vwCl (fun (u : Nat) => [(q, .inl (ca 0, n, .inl f)), (u, .inl (ca 0, k, .inl (va_cpy f (fun _ => 0) 0 0 (min n k))))]) (va_A [(q, .inl (ca 0, n, .inl f))] sz) u t) (va_A [(q, .inl (ca 0, n, .inl f))] sz)) 1 20000 (va_A [(q, .inl (ca 0, n, .inl f))] sz) := by
  refine rw_enter (Q := fun A => va_Qr (fun _ : Nat => True) (fun u r t => (fun (u : Nat) (r : Nat) => r = u) u r ∧ bB D vwCl (fun (u : Nat) => [(q, .inl (ca 0, n, .inl f)), (u, .inl (ca 0, k, .inl (va_cpy f (fun _ => 0) 0 0 (min n k))))]) A u t) A) (by decide) rfl (Nat.le_of_ble_eq_true rfl) ?_
  intro p e s m below meth c ls A C hnm hK hN hP hD hA hl
  have hS : va_S A s.heap s.heap [] := va_S.rf
  obtain ⟨hx, hb, hr, hml, hown, hlocks, hts⟩ := C
  have hl : lv_has ls 3 [(0, .ref q), (1, .int (nI k))] := hl
  have hw_d160d5 := hts (.arrayClass .int) (by decide +kernel)
  have hw_b435a9 := hts (.methodLink RJ7 304 Lib.Math.min.name) (by decide +kernel)
  have hw_79b26a := hts (.static Lib.Math.min.name) (by decide +kernel)
  have hw_868a92 := hts (.initialized "java/lang/Math") (by decide +kernel)
  have hw_0fd793 := hts (.code Lib.Math.min.name Lib.Math.min.code 2 (some .int)) (by decide +kernel)
  have hw_018043 := hts (.methodLink RJ7 150 arraycopyName) (by decide +kernel)
  have hw_a648c8 := hts (.native arraycopyName) (by decide +kernel)
  have hw_410d49 := hts (.static arraycopyName) (by decide +kernel)
  have hw_4260ff := hts (.initialized "java/lang/System") (by decide +kernel)
  refine lv_iload_n hx hb dJ7_copyOf_59c91_0 rfl (lv_at hl 1 rfl) ?_
  refine lv_aload_n hx hb dJ7_copyOf_59c91_1 rfl (lv_at hl 0 rfl) ?_
  refine va_alen hx hb hK hP 0 0 rfl rfl (v := nI n) rfl dJ7_copyOf_59c91_2 ?_
  refine bn_ne (tgt := 14) hx hb dJ7_copyOf_59c91_3 (by decide) (by omega) (by omega) (fun h1 => ?_) (fun h1 => ?_)
  · refine lv_iload_n hx hb dJ7_copyOf_59c91_14 rfl (lv_at hl 1 rfl) ?_
    refine na (atype := .int) (n := nI k) (ty := .int) (N' := k) (a0 := (k, .inl (fun _ => 0))) hx hb hw_d160d5 rfl hK hP hD hS hA (fun _ => rfl) (nI_pos (by omega)) (nI_clamp (by omega)) (by show k * 4 ≤ _; omega) (Nat.le_of_ble_eq_true rfl) (by show 0 + k ≤ 20000; omega) dJ7_copyOf_59c91_15 0 rfl (fun _ h9 => h9) (fun q1 H hP hD hS => ?_)
    have hP : va_P D vwCl [(q, .inl (ca 0, n, .inl f)), (q1, .inl (ca 0, k, .inl (fun _ => 0)))] H := hP
    have hD : va_D A [(q, .inl (ca 0, n, .inl f)), (q1, .inl (ca 0, k, .inl (fun _ => 0)))] := hD
    refine W.widen (k := 1) (n := 20000) (by omega) (by omega) ?_
    refine lv_astore_n (lv' := [(2, .ref q1), (0, .ref q), (1, .int (nI k))]) hx hb dJ7_copyOf_59c91_17 rfl hl (by decide) rfl (fun ls hl => ?_)
    refine lv_aload_n hx hb dJ7_copyOf_59c91_18 rfl (lv_at hl 1 rfl) ?_
    refine lv_iconst (v := nI 0) hx hb dJ7_copyOf_59c91_19 (by decide) ?_
    refine lv_aload_n hx hb dJ7_copyOf_59c91_20 rfl (lv_at hl 0 rfl) ?_
    refine lv_iconst (v := nI 0) hx hb dJ7_copyOf_59c91_21 (by decide) ?_
    refine lv_aload_n hx hb dJ7_copyOf_59c91_22 rfl (lv_at hl 1 rfl) ?_
    refine va_alen hx hb hK hP 0 0 rfl rfl (v := nI n) rfl dJ7_copyOf_59c91_23 ?_
    refine lv_iload_n hx hb dJ7_copyOf_59c91_24 rfl (lv_at hl 2 rfl) ?_
    refine mn (x := n) (y := k) hx hb (hml.trans hl.1.symm) hown hw_b435a9 hw_79b26a hw_868a92 hw_0fd793 (Nat.le_of_ble_eq_true rfl) (Nat.le_of_ble_eq_true rfl) (Nat.le_refl _) (Nat.le_refl _) (by omega) (by omega) dJ7_copyOf_59c91_25 ?_
    refine cp_i (k := min n k) hx hb (hml.trans hl.1.symm) hown hw_018043 hw_a648c8 hw_410d49 hw_4260ff hK hP hD hS 0 1 0 0 rfl rfl rfl rfl (by omega) (by omega) (by omega) (Nat.le_of_ble_eq_true rfl) (Nat.le_of_ble_eq_true rfl) dJ7_copyOf_59c91_28 (fun H locs hP hD hS => ?_)
    have hP : va_P D vwCl [(q, .inl (ca 0, n, .inl f)), (q1, .inl (ca 0, k, .inl (va_cpy f (fun _ => 0) 0 0 (min n k))))] H := hP
    have hD : va_D A [(q, .inl (ca 0, n, .inl f)), (q1, .inl (ca 0, k, .inl (va_cpy f (fun _ => 0) 0 0 (min n k))))] := hD
    refine lv_aload_n hx hb dJ7_copyOf_59c91_31 rfl (lv_at hl 0 rfl) ?_
    exact rw_aret (u := q1) hx hb hr (Or.inr ⟨_, rfl⟩) hlocks (rfl) (hP.sub [0, 1] rfl) (hD.sub [0, 1] (by decide) rfl) hS (Nat.le_refl _) (Nat.le_refl _) dJ7_copyOf_59c91_32
  · exact absurd h1 hne

set_option maxHeartbeats 4000000 in
set_option maxRecDepth 100000 in
/-- Arrays.copyOf where the length is another one -/
theorem c_copyJ (l : Launch) (D : va_G) (ca : Nat → ClassId) (q : Nat) (n : Nat) (k : Nat) (f : Nat → Int64) (hn : n < 2 ^ 31) (hk : k ≤ 20000) (hne : ¬ k = n) (sz : Nat) : Met l yJ7_copyOf_c38d5 wsJ7_copyOf_c38d5 { frames := 1, cells := 1, slots := 20000, locals := 26 } (rwP D vwCl (ATy ca) [(q, .inl (ca 1, n, .inr (.inl f)))] sz [.ref q, .int (nI k)]) (va_Qr (fun _ : Nat => True) (fun u r t => (fun (u : Nat) (r : Nat) => r = u) u r ∧ bB D vwCl (fun (u : Nat) => [(q, .inl (ca 1, n, .inr (.inl f))), (u, .inl (ca 1, k, .inr (.inl (va_cpy f (fun _ => 0) 0 0 (min n k)))))]) (va_A [(q, .inl (ca 1, n, .inr (.inl f)))] sz) u t) (va_A [(q, .inl (ca 1, n, .inr (.inl f)))] sz)) 1 20000 (va_A [(q, .inl (ca 1, n, .inr (.inl f)))] sz) := by
  refine rw_enter (Q := fun A => va_Qr (fun _ : Nat => True) (fun u r t => (fun (u : Nat) (r : Nat) => r = u) u r ∧ bB D vwCl (fun (u : Nat) => [(q, .inl (ca 1, n, .inr (.inl f))), (u, .inl (ca 1, k, .inr (.inl (va_cpy f (fun _ => 0) 0 0 (min n k)))))]) A u t) A) (by decide) rfl (Nat.le_of_ble_eq_true rfl) ?_
  intro p e s m below meth c ls A C hnm hK hN hP hD hA hl
  have hS : va_S A s.heap s.heap [] := va_S.rf
  obtain ⟨hx, hb, hr, hml, hown, hlocks, hts⟩ := C
  have hl : lv_has ls 3 [(0, .ref q), (1, .int (nI k))] := hl
  have hw_f2af49 := hts (.arrayClass .long) (by decide +kernel)
  have hw_b435a9 := hts (.methodLink RJ7 304 Lib.Math.min.name) (by decide +kernel)
  have hw_79b26a := hts (.static Lib.Math.min.name) (by decide +kernel)
  have hw_868a92 := hts (.initialized "java/lang/Math") (by decide +kernel)
  have hw_0fd793 := hts (.code Lib.Math.min.name Lib.Math.min.code 2 (some .int)) (by decide +kernel)
  have hw_018043 := hts (.methodLink RJ7 150 arraycopyName) (by decide +kernel)
  have hw_a648c8 := hts (.native arraycopyName) (by decide +kernel)
  have hw_410d49 := hts (.static arraycopyName) (by decide +kernel)
  have hw_4260ff := hts (.initialized "java/lang/System") (by decide +kernel)
  refine lv_iload_n hx hb dJ7_copyOf_c38d5_0 rfl (lv_at hl 1 rfl) ?_
  refine lv_aload_n hx hb dJ7_copyOf_c38d5_1 rfl (lv_at hl 0 rfl) ?_
  refine va_alen hx hb hK hP 0 1 rfl rfl (v := nI n) rfl dJ7_copyOf_c38d5_2 ?_
  refine bn_ne (tgt := 14) hx hb dJ7_copyOf_c38d5_3 (by decide) (by omega) (by omega) (fun h1 => ?_) (fun h1 => ?_)
  · refine lv_iload_n hx hb dJ7_copyOf_c38d5_14 rfl (lv_at hl 1 rfl) ?_
    refine na (atype := .long) (n := nI k) (ty := .long) (N' := k) (a0 := (k, .inr (.inl (fun _ => 0)))) hx hb hw_f2af49 rfl hK hP hD hS hA (fun _ => rfl) (nI_pos (by omega)) (nI_clamp (by omega)) (by show k * 8 ≤ _; omega) (Nat.le_of_ble_eq_true rfl) (by show 0 + k ≤ 20000; omega) dJ7_copyOf_c38d5_15 1 rfl (fun _ h9 => h9) (fun q1 H hP hD hS => ?_)
    have hP : va_P D vwCl [(q, .inl (ca 1, n, .inr (.inl f))), (q1, .inl (ca 1, k, .inr (.inl (fun _ => 0))))] H := hP
    have hD : va_D A [(q, .inl (ca 1, n, .inr (.inl f))), (q1, .inl (ca 1, k, .inr (.inl (fun _ => 0))))] := hD
    refine W.widen (k := 1) (n := 20000) (by omega) (by omega) ?_
    refine lv_astore_n (lv' := [(2, .ref q1), (0, .ref q), (1, .int (nI k))]) hx hb dJ7_copyOf_c38d5_17 rfl hl (by decide) rfl (fun ls hl => ?_)
    refine lv_aload_n hx hb dJ7_copyOf_c38d5_18 rfl (lv_at hl 1 rfl) ?_
    refine lv_iconst (v := nI 0) hx hb dJ7_copyOf_c38d5_19 (by decide) ?_
    refine lv_aload_n hx hb dJ7_copyOf_c38d5_20 rfl (lv_at hl 0 rfl) ?_
    refine lv_iconst (v := nI 0) hx hb dJ7_copyOf_c38d5_21 (by decide) ?_
    refine lv_aload_n hx hb dJ7_copyOf_c38d5_22 rfl (lv_at hl 1 rfl) ?_
    refine va_alen hx hb hK hP 0 1 rfl rfl (v := nI n) rfl dJ7_copyOf_c38d5_23 ?_
    refine lv_iload_n hx hb dJ7_copyOf_c38d5_24 rfl (lv_at hl 2 rfl) ?_
    refine mn (x := n) (y := k) hx hb (hml.trans hl.1.symm) hown hw_b435a9 hw_79b26a hw_868a92 hw_0fd793 (Nat.le_of_ble_eq_true rfl) (Nat.le_of_ble_eq_true rfl) (Nat.le_refl _) (Nat.le_refl _) (by omega) (by omega) dJ7_copyOf_c38d5_25 ?_
    refine cp_l (k := min n k) hx hb (hml.trans hl.1.symm) hown hw_018043 hw_a648c8 hw_410d49 hw_4260ff hK hP hD hS 0 1 1 1 rfl rfl rfl rfl (by omega) (by omega) (by omega) (Nat.le_of_ble_eq_true rfl) (Nat.le_of_ble_eq_true rfl) dJ7_copyOf_c38d5_28 (fun H locs hP hD hS => ?_)
    have hP : va_P D vwCl [(q, .inl (ca 1, n, .inr (.inl f))), (q1, .inl (ca 1, k, .inr (.inl (va_cpy f (fun _ => 0) 0 0 (min n k)))))] H := hP
    have hD : va_D A [(q, .inl (ca 1, n, .inr (.inl f))), (q1, .inl (ca 1, k, .inr (.inl (va_cpy f (fun _ => 0) 0 0 (min n k)))))] := hD
    refine lv_aload_n hx hb dJ7_copyOf_c38d5_31 rfl (lv_at hl 0 rfl) ?_
    exact rw_aret (u := q1) hx hb hr (Or.inr ⟨_, rfl⟩) hlocks (rfl) (hP.sub [0, 1] rfl) (hD.sub [0, 1] (by decide) rfl) hS (Nat.le_refl _) (Nat.le_refl _) dJ7_copyOf_c38d5_32
  · exact absurd h1 hne

set_option maxHeartbeats 4000000 in
set_option maxRecDepth 100000 in
theorem c_BR_length (l : Launch) (D : va_G) (ca : Nat → ClassId) (a : Nat) (q : Nat) (mo : Nat) (gr : Nat) (f : Nat → Int32) (L : List Nat)  : Met l yX0_length wsX0_length { frames := 0, cells := 0, slots := 0, locals := 0 } (roP D vwCl (ATy ca) [(a, .inr (0, [.int (nI mo), .ref q, .int (nI L.length)])), (q, .inl (ca 0, gcap mo gr, .inl f))] [.ref a]) (vp_Si (fun r : Int32 => r = nI L.length)) 0 0 (fun _ => False) := by
  refine ro_enter (by decide) rfl (Nat.le_of_ble_eq_true rfl) ?_
  intro p e s m below meth c ls C hK hN hP hl
  obtain ⟨hx, hb, hr, hml, hown, hlocks, hts⟩ := C
  have hl : lv_has ls 1 [(0, .ref a)] := hl
  have hin_X0 : ∀ w ∈ wsX00, w ∈ wsX0_length := by decide +kernel
  have hl_19 := hts (.fieldLink RX0 19 "EscapeCoder$ByteRow" "length" "I") (by decide +kernel)
  refine lv_aload_n hx hb dX0_length_0 rfl (lv_at hl 0 rfl) ?_
  refine va_get (D := D) (ci := 0) (v := .int (nI L.length)) (C := RX0) (T := TX0) (N := 3) hx hb hts hin_X0 hown hK hP 0 rfl rfl 2 (by decide) hl_19 (fun _ h9 => h9) rfl dX0_length_1 ?_
  exact ro_iret hx hb hr hlocks (rfl) dX0_length_4

set_option maxHeartbeats 4000000 in
set_option maxRecDepth 100000 in
theorem c_BR_clear (l : Launch) (D : va_G) (ca : Nat → ClassId) (a : Nat) (q : Nat) (mo : Nat) (gr : Nat) (f : Nat → Int32) (L : List Nat)  (sz : Nat) : Met l yX0_clear wsX0_clear { frames := 0, cells := 0, slots := 0, locals := 0 } (rwP D vwCl (ATy ca) [(a, .inr (0, [.int (nI mo), .ref q, .int (nI L.length)])), (q, .inl (ca 0, gcap mo gr, .inl f))] sz [.ref a]) (va_Qv (fun (u : Unit) => True) (bB D vwCl (fun (u : Unit) => [(a, .inr (0, [.int (nI mo), .ref q, .int (nI ([] : List Nat).length)])), (q, .inl (ca 0, gcap mo gr, .inl f))]) (va_A [(a, .inr (0, [.int (nI mo), .ref q, .int (nI L.length)])), (q, .inl (ca 0, gcap mo gr, .inl f))] sz)) (va_A [(a, .inr (0, [.int (nI mo), .ref q, .int (nI L.length)])), (q, .inl (ca 0, gcap mo gr, .inl f))] sz)) 0 0 (va_A [(a, .inr (0, [.int (nI mo), .ref q, .int (nI L.length)])), (q, .inl (ca 0, gcap mo gr, .inl f))] sz) := by
  refine rw_enter (Q := fun A => va_Qv (fun (u : Unit) => True) (bB D vwCl (fun (u : Unit) => [(a, .inr (0, [.int (nI mo), .ref q, .int (nI ([] : List Nat).length)])), (q, .inl (ca 0, gcap mo gr, .inl f))]) A) A) (by decide) rfl (Nat.le_of_ble_eq_true rfl) ?_
  intro p e s m below meth c ls A C hnm hK hN hP hD hA hl
  have hS : va_S A s.heap s.heap [] := va_S.rf
  obtain ⟨hx, hb, hr, hml, hown, hlocks, hts⟩ := C
  have hl : lv_has ls 1 [(0, .ref a)] := hl
  have hin_X0 : ∀ w ∈ wsX00, w ∈ wsX0_clear := by decide +kernel
  have hl_19 := hts (.fieldLink RX0 19 "EscapeCoder$ByteRow" "length" "I") (by decide +kernel)
  refine lv_aload_n hx hb dX0_clear_0 rfl (lv_at hl 0 rfl) ?_
  refine lv_iconst (v := nI 0) hx hb dX0_clear_1 (by decide) ?_
  refine va_put (D := D) (ci := 0) (v := .int (nI 0)) (ty := .int) (C := RX0) (T := TX0) (N := 3) hx hb hts hin_X0 tyX0 tyX0_ok nmX0 hown hK hP hD hS 0 rfl rfl 2 (by decide) hl_19 (fun _ h9 => h9) rfl (by decide +kernel) rfl rfl (Nat.le_of_ble_eq_true rfl) dX0_clear_2 (fun H locs hP hD hS => ?_)
  have hP : va_P D vwCl [(a, .inr (0, [.int (nI mo), .ref q, .int (nI 0)])), (q, .inl (ca 0, gcap mo gr, .inl f))] H := hP
  have hD : va_D A [(a, .inr (0, [.int (nI mo), .ref q, .int (nI 0)])), (q, .inl (ca 0, gcap mo gr, .inl f))] := hD
  exact rw_vret (u := ()) hx hb hr hlocks (trivial) (hP.sub [0, 1] rfl) (hD.sub [0, 1] (by decide) rfl) hS (Nat.le_refl _) (Nat.le_refl _) dX0_clear_5

set_option maxHeartbeats 4000000 in
set_option maxRecDepth 100000 in
theorem c_BR_byteAt (l : Launch) (D : va_G) (ca : Nat → ClassId) (a : Nat) (q : Nat) (mo : Nat) (gr : Nat) (f : Nat → Int32) (L : List Nat) (i : Int32) (hB : BR f L) (hL : L.length ≤ gcap mo gr) (hm : 64 ≤ mo ∧ mo ≤ 20000) : Met l yX0_byteAt wsX0_byteAt { frames := 0, cells := 0, slots := 0, locals := 0 } (roP D vwCl (ATy ca) [(a, .inr (0, [.int (nI mo), .ref q, .int (nI L.length)])), (q, .inl (ca 0, gcap mo gr, .inl f))] [.ref a, .int i]) (vp_Si (fun r : Int32 => r = atI L i)) 0 0 (fun _ => False) := by
  refine ro_enter (by decide) rfl (Nat.le_of_ble_eq_true rfl) ?_
  intro p e s m below meth c ls C hK hN hP hl
  obtain ⟨hx, hb, hr, hml, hown, hlocks, hts⟩ := C
  have hl : lv_has ls 2 [(0, .ref a), (1, .int i)] := hl
  have hin_X0 : ∀ w ∈ wsX00, w ∈ wsX0_byteAt := by decide +kernel
  have hl_19 := hts (.fieldLink RX0 19 "EscapeCoder$ByteRow" "length" "I") (by decide +kernel)
  have hl_15 := hts (.fieldLink RX0 15 "EscapeCoder$ByteRow" "bytes" "[I") (by decide +kernel)
  have hg := gcap_le mo gr
  refine lv_iload_n hx hb dX0_byteAt_0 rfl (lv_at hl 1 rfl) ?_
  refine lv_if_lt (tgt := 12) hx hb dX0_byteAt_1 (by decide) (fun h1 => ?_) (fun h1 => ?_)
  · refine lv_iconst (v := (-1)) hx hb dX0_byteAt_12 (by decide) ?_
    refine lv_goto (tgt := 22) hx hb dX0_byteAt_13 (by decide) ?_
    exact ro_iret hx hb hr hlocks (by unfold atI; rw [inL_neg h1]; rfl) dX0_byteAt_22
  · obtain ⟨j, hj, rfl⟩ := nI_of h1
    refine lv_iload_n hx hb dX0_byteAt_4 rfl (lv_at hl 1 rfl) ?_
    refine lv_aload_n hx hb dX0_byteAt_5 rfl (lv_at hl 0 rfl) ?_
    refine va_get (D := D) (ci := 0) (v := .int (nI L.length)) (C := RX0) (T := TX0) (N := 3) hx hb hts hin_X0 hown hK hP 0 rfl rfl 2 (by decide) hl_19 (fun _ h9 => h9) rfl dX0_byteAt_6 ?_
    refine bn_lt (tgt := 16) hx hb dX0_byteAt_9 (by decide) (by omega) (by omega) (fun h2 => ?_) (fun h2 => ?_)
    · refine lv_aload_n hx hb dX0_byteAt_16 rfl (lv_at hl 0 rfl) ?_
      refine va_get (D := D) (ci := 0) (v := .ref q) (C := RX0) (T := TX0) (N := 3) hx hb hts hin_X0 hown hK hP 0 rfl rfl 1 (by decide) hl_15 (fun _ h9 => h9) rfl dX0_byteAt_17 ?_
      refine lv_iload_n hx hb dX0_byteAt_20 rfl (lv_at hl 1 rfl) ?_
      refine ld_i hx hb hK hP 1 0 rfl rfl (j := j) (by omega) (by omega) dX0_byteAt_21 ?_
      exact ro_iret hx hb hr hlocks (by unfold atI; rw [inL_nI hj, if_pos (by simp [h2]), nI_clamp hj]; exact hB j h2) dX0_byteAt_22
    · refine lv_iconst (v := (-1)) hx hb dX0_byteAt_12 (by decide) ?_
      refine lv_goto (tgt := 22) hx hb dX0_byteAt_13 (by decide) ?_
      exact ro_iret hx hb hr hlocks (by unfold atI; rw [inL_nI hj, if_neg (by simp; omega)]) dX0_byteAt_22

set_option maxHeartbeats 4000000 in
set_option maxRecDepth 100000 in
theorem c_BR_put (l : Launch) (D : va_G) (ca : Nat → ClassId) (a : Nat) (q : Nat) (mo : Nat) (gr : Nat) (f : Nat → Int32) (L : List Nat) (i : Int32) (b : Int32) (hB : BR f L) (hL : L.length ≤ gcap mo gr) (hm : 64 ≤ mo ∧ mo ≤ 20000) (sz : Nat) : Met l yX0_put wsX0_put { frames := 1, cells := 0, slots := 0, locals := 20 } (rwP D vwCl (ATy ca) [(a, .inr (0, [.int (nI mo), .ref q, .int (nI L.length)])), (q, .inl (ca 0, gcap mo gr, .inl f))] sz [.ref a, .int i, .int b]) (va_Qi (fun (r : Int32) (u : (Nat → Int32)) => r = bI (putOk L i b) ∧ BR u (putL L i b)) (bB D vwCl (fun (u : (Nat → Int32)) => [(a, .inr (0, [.int (nI mo), .ref q, .int (nI (putL L i b).length)])), (q, .inl (ca 0, gcap mo gr, .inl u))]) (va_A [(a, .inr (0, [.int (nI mo), .ref q, .int (nI L.length)])), (q, .inl (ca 0, gcap mo gr, .inl f))] sz)) (va_A [(a, .inr (0, [.int (nI mo), .ref q, .int (nI L.length)])), (q, .inl (ca 0, gcap mo gr, .inl f))] sz)) 0 0 (va_A [(a, .inr (0, [.int (nI mo), .ref q, .int (nI L.length)])), (q, .inl (ca 0, gcap mo gr, .inl f))] sz) := by
  refine rw_enter (Q := fun A => va_Qi (fun (r : Int32) (u : (Nat → Int32)) => r = bI (putOk L i b) ∧ BR u (putL L i b)) (bB D vwCl (fun (u : (Nat → Int32)) => [(a, .inr (0, [.int (nI mo), .ref q, .int (nI (putL L i b).length)])), (q, .inl (ca 0, gcap mo gr, .inl u))]) A) A) (by decide) rfl (Nat.le_of_ble_eq_true rfl) ?_
  intro p e s m below meth c ls A C hnm hK hN hP hD hA hl
  have hS : va_S A s.heap s.heap [] := va_S.rf
  obtain ⟨hx, hb, hr, hml, hown, hlocks, hts⟩ := C
  have hl : lv_has ls 3 [(0, .ref a), (1, .int i), (2, .int b)] := hl
  have hw_0fc290 := hts (.initialized RX7) (by decide +kernel)
  have hw_1af174 := hts (.static yX7_isByte) (by decide +kernel)
  have hin_X0 : ∀ w ∈ wsX00, w ∈ wsX0_put := by decide +kernel
  have hl_19 := hts (.fieldLink RX0 19 "EscapeCoder$ByteRow" "length" "I") (by decide +kernel)
  have hl_15 := hts (.fieldLink RX0 15 "EscapeCoder$ByteRow" "bytes" "[I") (by decide +kernel)
  have hg := gcap_le mo gr
  refine lv_iload_n hx hb dX0_put_0 rfl (lv_at hl 2 rfl) ?_
  refine vp_callSi (va_Run.run (va_runSN (As := [.int b]) (rest := []) ⟨hx, hb, hml, hown, hts⟩ (c_isByte l D ca b ) ⟨va_cnB 1 hts gX0_put_X7_isByte_n22 rfl rfl rfl (nw_X0_22 hN) hw_0fc290 (by decide +kernel) ⟨Nat.le_of_ble_eq_true rfl, Nat.le_of_ble_eq_true rfl⟩, hw_1af174, trivial⟩ ⟨roP_blind, roP_at hK hN (hP.sub [] rfl)⟩ rfl rfl hl.1 rfl (lv_room (Nat.le_of_ble_eq_true rfl)) dX0_put_1 ⟨Nat.le_of_ble_eq_true rfl, Nat.le_of_ble_eq_true rfl⟩)) (fun r_1 hq => ?_)
  subst hq
  refine bb_eq (tgt := 19) hx hb dX0_put_4 (by decide) (fun h0 => ?_) (fun h0 => ?_)
  · refine lv_iconst (v := nI 0) hx hb dX0_put_19 (by decide) ?_
    have hP : va_P D vwCl [(a, .inr (0, [.int (nI mo), .ref q, .int (nI (putL L i b).length)])), (q, .inl (ca 0, gcap mo gr, .inl f))] s.heap := by rw [putL_len]; exact hP
    have hD : va_D A [(a, .inr (0, [.int (nI mo), .ref q, .int (nI (putL L i b).length)])), (q, .inl (ca 0, gcap mo gr, .inl f))] := by rw [putL_len]; exact hD
    have e : putOk L i b = false := by unfold putOk; rw [h0]; rfl
    exact rw_zret (u := f) hx hb hr hlocks (by decide) (⟨by rw [e]; rfl, by unfold putL; rw [e]; exact hB⟩) (hP.sub [0, 1] rfl) (hD.sub [0, 1] (by decide) rfl) hS (Nat.le_refl _) (Nat.le_refl _) dX0_put_20
  · refine lv_iload_n hx hb dX0_put_7 rfl (lv_at hl 1 rfl) ?_
    refine lv_if_lt (tgt := 19) hx hb dX0_put_8 (by decide) (fun h1 => ?_) (fun h1 => ?_)
    · refine lv_iconst (v := nI 0) hx hb dX0_put_19 (by decide) ?_
      have hP : va_P D vwCl [(a, .inr (0, [.int (nI mo), .ref q, .int (nI (putL L i b).length)])), (q, .inl (ca 0, gcap mo gr, .inl f))] s.heap := by rw [putL_len]; exact hP
      have hD : va_D A [(a, .inr (0, [.int (nI mo), .ref q, .int (nI (putL L i b).length)])), (q, .inl (ca 0, gcap mo gr, .inl f))] := by rw [putL_len]; exact hD
      have e : putOk L i b = false := by unfold putOk; rw [inL_neg h1]; simp
      exact rw_zret (u := f) hx hb hr hlocks (by decide) (⟨by rw [e]; rfl, by unfold putL; rw [e]; exact hB⟩) (hP.sub [0, 1] rfl) (hD.sub [0, 1] (by decide) rfl) hS (Nat.le_refl _) (Nat.le_refl _) dX0_put_20
    · obtain ⟨j, hj, rfl⟩ := nI_of h1
      refine lv_iload_n hx hb dX0_put_11 rfl (lv_at hl 1 rfl) ?_
      refine lv_aload_n hx hb dX0_put_12 rfl (lv_at hl 0 rfl) ?_
      refine va_get (D := D) (ci := 0) (v := .int (nI L.length)) (C := RX0) (T := TX0) (N := 3) hx hb hts hin_X0 hown hK hP 0 rfl rfl 2 (by decide) hl_19 (fun _ h9 => h9) rfl dX0_put_13 ?_
      refine bn_lt (tgt := 21) hx hb dX0_put_16 (by decide) (by omega) (by omega) (fun h2 => ?_) (fun h2 => ?_)
      · refine lv_aload_n hx hb dX0_put_21 rfl (lv_at hl 0 rfl) ?_
        refine va_get (D := D) (ci := 0) (v := .ref q) (C := RX0) (T := TX0) (N := 3) hx hb hts hin_X0 hown hK hP 0 rfl rfl 1 (by decide) hl_15 (fun _ h9 => h9) rfl dX0_put_22 ?_
        refine lv_iload_n hx hb dX0_put_25 rfl (lv_at hl 1 rfl) ?_
        refine lv_iload_n hx hb dX0_put_26 rfl (lv_at hl 2 rfl) ?_
        refine st_i hx hb hK hP hD hS 1 0 rfl rfl (j := j) (by omega) (by omega) dX0_put_27 (fun H locs hP hD hS => ?_)
        have hP : va_P D vwCl [(a, .inr (0, [.int (nI mo), .ref q, .int (nI L.length)])), (q, .inl (ca 0, gcap mo gr, .inl (upd f j b)))] H := hP
        have hD : va_D A [(a, .inr (0, [.int (nI mo), .ref q, .int (nI L.length)])), (q, .inl (ca 0, gcap mo gr, .inl (upd f j b)))] := hD
        refine lv_iconst (v := nI 1) hx hb dX0_put_28 (by decide) ?_
        have e : putOk L (nI j) b = true := by unfold putOk; rw [h0, inL_nI hj]; simp [h2]
        obtain ⟨v, hv, rfl⟩ := isB_nI h0
        have hP : va_P D vwCl [(a, .inr (0, [.int (nI mo), .ref q, .int (nI (putL L (nI j) (nI v)).length)])), (q, .inl (ca 0, gcap mo gr, .inl (upd f j (nI v))))] H := by rw [putL_len]; exact hP
        have hD : va_D A [(a, .inr (0, [.int (nI mo), .ref q, .int (nI (putL L (nI j) (nI v)).length)])), (q, .inl (ca 0, gcap mo gr, .inl (upd f j (nI v))))] := by rw [putL_len]; exact hD
        exact rw_zret (u := upd f j (nI v)) hx hb hr hlocks (by decide) (⟨by rw [e]; rfl, by unfold putL; rw [if_pos e, nI_clamp hj, nI_clamp (by omega)]; exact BR_set hB h2⟩) (hP.sub [0, 1] rfl) (hD.sub [0, 1] (by decide) rfl) hS (Nat.le_refl _) (Nat.le_refl _) dX0_put_29
      · refine lv_iconst (v := nI 0) hx hb dX0_put_19 (by decide) ?_
        have hP : va_P D vwCl [(a, .inr (0, [.int (nI mo), .ref q, .int (nI (putL L (nI j) b).length)])), (q, .inl (ca 0, gcap mo gr, .inl f))] s.heap := by rw [putL_len]; exact hP
        have hD : va_D A [(a, .inr (0, [.int (nI mo), .ref q, .int (nI (putL L (nI j) b).length)])), (q, .inl (ca 0, gcap mo gr, .inl f))] := by rw [putL_len]; exact hD
        have e : putOk L (nI j) b = false := by unfold putOk; rw [inL_nI hj]; simp; intro _; omega
        exact rw_zret (u := f) hx hb hr hlocks (by decide) (⟨by rw [e]; rfl, by unfold putL; rw [e]; exact hB⟩) (hP.sub [0, 1] rfl) (hD.sub [0, 1] (by decide) rfl) hS (Nat.le_refl _) (Nat.le_refl _) dX0_put_20

set_option maxHeartbeats 4000000 in
set_option maxRecDepth 100000 in
theorem c_BR_shorten (l : Launch) (D : va_G) (ca : Nat → ClassId) (a : Nat) (q : Nat) (mo : Nat) (gr : Nat) (f : Nat → Int32) (L : List Nat) (n : Int32) (hB : BR f L) (hL : L.length ≤ gcap mo gr) (hm : 64 ≤ mo ∧ mo ≤ 20000) (sz : Nat) : Met l yX0_shorten wsX0_shorten { frames := 0, cells := 0, slots := 0, locals := 0 } (rwP D vwCl (ATy ca) [(a, .inr (0, [.int (nI mo), .ref q, .int (nI L.length)])), (q, .inl (ca 0, gcap mo gr, .inl f))] sz [.ref a, .int n]) (va_Qi (fun (r : Int32) (u : Unit) => r = bI (cutOk L n)) (bB D vwCl (fun (u : Unit) => [(a, .inr (0, [.int (nI mo), .ref q, .int (nI (cutL L n).length)])), (q, .inl (ca 0, gcap mo gr, .inl f))]) (va_A [(a, .inr (0, [.int (nI mo), .ref q, .int (nI L.length)])), (q, .inl (ca 0, gcap mo gr, .inl f))] sz)) (va_A [(a, .inr (0, [.int (nI mo), .ref q, .int (nI L.length)])), (q, .inl (ca 0, gcap mo gr, .inl f))] sz)) 0 0 (va_A [(a, .inr (0, [.int (nI mo), .ref q, .int (nI L.length)])), (q, .inl (ca 0, gcap mo gr, .inl f))] sz) := by
  refine rw_enter (Q := fun A => va_Qi (fun (r : Int32) (u : Unit) => r = bI (cutOk L n)) (bB D vwCl (fun (u : Unit) => [(a, .inr (0, [.int (nI mo), .ref q, .int (nI (cutL L n).length)])), (q, .inl (ca 0, gcap mo gr, .inl f))]) A) A) (by decide) rfl (Nat.le_of_ble_eq_true rfl) ?_
  intro p e s m below meth c ls A C hnm hK hN hP hD hA hl
  have hS : va_S A s.heap s.heap [] := va_S.rf
  obtain ⟨hx, hb, hr, hml, hown, hlocks, hts⟩ := C
  have hl : lv_has ls 2 [(0, .ref a), (1, .int n)] := hl
  have hin_X0 : ∀ w ∈ wsX00, w ∈ wsX0_shorten := by decide +kernel
  have hl_19 := hts (.fieldLink RX0 19 "EscapeCoder$ByteRow" "length" "I") (by decide +kernel)
  have hg := gcap_le mo gr
  refine lv_iload_n hx hb dX0_shorten_0 rfl (lv_at hl 1 rfl) ?_
  refine lv_if_lt (tgt := 12) hx hb dX0_shorten_1 (by decide) (fun h1 => ?_) (fun h1 => ?_)
  · refine lv_iconst (v := nI 0) hx hb dX0_shorten_12 (by decide) ?_
    have e : cutOk L n = false := by exact cutOk_neg h1
    have e2 : cutL L n = L := by unfold cutL; rw [e]; rfl
    have hP : va_P D vwCl [(a, .inr (0, [.int (nI mo), .ref q, .int (nI (cutL L n).length)])), (q, .inl (ca 0, gcap mo gr, .inl f))] s.heap := by rw [e2]; exact hP
    have hD : va_D A [(a, .inr (0, [.int (nI mo), .ref q, .int (nI (cutL L n).length)])), (q, .inl (ca 0, gcap mo gr, .inl f))] := by rw [e2]; exact hD
    exact rw_zret (u := ()) hx hb hr hlocks (by decide) (by rw [e]; rfl) (hP.sub [0, 1] rfl) (hD.sub [0, 1] (by decide) rfl) hS (Nat.le_refl _) (Nat.le_refl _) dX0_shorten_13
  · obtain ⟨j, hj, rfl⟩ := nI_of h1
    refine lv_iload_n hx hb dX0_shorten_4 rfl (lv_at hl 1 rfl) ?_
    refine lv_aload_n hx hb dX0_shorten_5 rfl (lv_at hl 0 rfl) ?_
    refine va_get (D := D) (ci := 0) (v := .int (nI L.length)) (C := RX0) (T := TX0) (N := 3) hx hb hts hin_X0 hown hK hP 0 rfl rfl 2 (by decide) hl_19 (fun _ h9 => h9) rfl dX0_shorten_6 ?_
    refine bn_le (tgt := 14) hx hb dX0_shorten_9 (by decide) (by omega) (by omega) (fun h2 => ?_) (fun h2 => ?_)
    · refine lv_aload_n hx hb dX0_shorten_14 rfl (lv_at hl 0 rfl) ?_
      refine lv_iload_n hx hb dX0_shorten_15 rfl (lv_at hl 1 rfl) ?_
      refine va_put (D := D) (ci := 0) (v := .int (nI j)) (ty := .int) (C := RX0) (T := TX0) (N := 3) hx hb hts hin_X0 tyX0 tyX0_ok nmX0 hown hK hP hD hS 0 rfl rfl 2 (by decide) hl_19 (fun _ h9 => h9) rfl (by decide +kernel) rfl rfl (Nat.le_of_ble_eq_true rfl) dX0_shorten_16 (fun H locs hP hD hS => ?_)
      have hP : va_P D vwCl [(a, .inr (0, [.int (nI mo), .ref q, .int (nI j)])), (q, .inl (ca 0, gcap mo gr, .inl f))] H := hP
      have hD : va_D A [(a, .inr (0, [.int (nI mo), .ref q, .int (nI j)])), (q, .inl (ca 0, gcap mo gr, .inl f))] := hD
      refine lv_iconst (v := nI 1) hx hb dX0_shorten_19 (by decide) ?_
      have hP : va_P D vwCl [(a, .inr (0, [.int (nI mo), .ref q, .int (nI (cutL L (nI j)).length)])), (q, .inl (ca 0, gcap mo gr, .inl f))] H := by rw [cutL_len h2 hj]; exact hP
      have hD : va_D A [(a, .inr (0, [.int (nI mo), .ref q, .int (nI (cutL L (nI j)).length)])), (q, .inl (ca 0, gcap mo gr, .inl f))] := by rw [cutL_len h2 hj]; exact hD
      exact rw_zret (u := ()) hx hb hr hlocks (by decide) (by rw [cutOk_nI hj]; simp [h2]; rfl) (hP.sub [0, 1] rfl) (hD.sub [0, 1] (by decide) rfl) hS (Nat.le_refl _) (Nat.le_refl _) dX0_shorten_20
    · refine lv_iconst (v := nI 0) hx hb dX0_shorten_12 (by decide) ?_
      have e : cutOk L (nI j) = false := by rw [cutOk_nI hj]; simp; omega
      have e2 : cutL L (nI j) = L := by unfold cutL; rw [e]; rfl
      have hP : va_P D vwCl [(a, .inr (0, [.int (nI mo), .ref q, .int (nI (cutL L (nI j)).length)])), (q, .inl (ca 0, gcap mo gr, .inl f))] s.heap := by rw [e2]; exact hP
      have hD : va_D A [(a, .inr (0, [.int (nI mo), .ref q, .int (nI (cutL L (nI j)).length)])), (q, .inl (ca 0, gcap mo gr, .inl f))] := by rw [e2]; exact hD
      exact rw_zret (u := ()) hx hb hr hlocks (by decide) (by rw [e]; rfl) (hP.sub [0, 1] rfl) (hD.sub [0, 1] (by decide) rfl) hS (Nat.le_refl _) (Nat.le_refl _) dX0_shorten_13

set_option maxHeartbeats 4000000 in
set_option maxRecDepth 100000 in
theorem c_BR_add (l : Launch) (D : va_G) (ca : Nat → ClassId) (a : Nat) (q : Nat) (mo : Nat) (gr : Nat) (f : Nat → Int32) (L : List Nat) (b : Int32) (hB : BR f L) (hL : L.length ≤ gcap mo gr) (hm : 64 ≤ mo ∧ mo ≤ 20000) (sz : Nat) : Met l yX0_add wsX0_add { frames := 2, cells := grA mo gr L b - gr, slots := 20000 * (grA mo gr L b - gr), locals := 48 } (rwP D vwCl (ATy ca) [(a, .inr (0, [.int (nI mo), .ref q, .int (nI L.length)])), (q, .inl (ca 0, gcap mo gr, .inl f))] sz [.ref a, .int b]) (va_Qi (fun (r : Int32) (u : Nat × (Nat → Int32)) => r = bI (addOk mo L b) ∧ BR u.2 (addL mo L b) ∧ (addL mo L b).length ≤ gcap mo (grA mo gr L b)) (bB D vwCl (fun (u : Nat × (Nat → Int32)) => [(a, .inr (0, [.int (nI mo), .ref u.1, .int (nI (addL mo L b).length)])), (u.1, .inl (ca 0, gcap mo (grA mo gr L b), .inl u.2))]) (va_A [(a, .inr (0, [.int (nI mo), .ref q, .int (nI L.length)])), (q, .inl (ca 0, gcap mo gr, .inl f))] sz)) (va_A [(a, .inr (0, [.int (nI mo), .ref q, .int (nI L.length)])), (q, .inl (ca 0, gcap mo gr, .inl f))] sz)) (grA mo gr L b - gr) (20000 * (grA mo gr L b - gr)) (va_A [(a, .inr (0, [.int (nI mo), .ref q, .int (nI L.length)])), (q, .inl (ca 0, gcap mo gr, .inl f))] sz) := by
  refine rw_enter (Q := fun A => va_Qi (fun (r : Int32) (u : Nat × (Nat → Int32)) => r = bI (addOk mo L b) ∧ BR u.2 (addL mo L b) ∧ (addL mo L b).length ≤ gcap mo (grA mo gr L b)) (bB D vwCl (fun (u : Nat × (Nat → Int32)) => [(a, .inr (0, [.int (nI mo), .ref u.1, .int (nI (addL mo L b).length)])), (u.1, .inl (ca 0, gcap mo (grA mo gr L b), .inl u.2))]) A) A) (by decide) rfl (Nat.le_of_ble_eq_true rfl) ?_
  intro p e s m below meth c ls A C hnm hK hN hP hD hA hl
  have hS : va_S A s.heap s.heap [] := va_S.rf
  obtain ⟨hx, hb, hr, hml, hown, hlocks, hts⟩ := C
  have hl : lv_has ls 2 [(0, .ref a), (1, .int b)] := hl
  have hw_0fc290 := hts (.initialized RX7) (by decide +kernel)
  have hw_1af174 := hts (.static yX7_isByte) (by decide +kernel)
  have hin_X0 : ∀ w ∈ wsX00, w ∈ wsX0_add := by decide +kernel
  have hl_19 := hts (.fieldLink RX0 19 "EscapeCoder$ByteRow" "length" "I") (by decide +kernel)
  have hl_9 := hts (.fieldLink RX0 9 "EscapeCoder$ByteRow" "most" "I") (by decide +kernel)
  have hl_15 := hts (.fieldLink RX0 15 "EscapeCoder$ByteRow" "bytes" "[I") (by decide +kernel)
  have hw_fcdcae := hts (.static yX7_grown) (by decide +kernel)
  have hg := gcap_le mo gr
  refine lv_iload_n hx hb dX0_add_0 rfl (lv_at hl 1 rfl) ?_
  refine vp_callSi (va_Run.run (va_runSN (As := [.int b]) (rest := []) ⟨hx, hb, hml, hown, hts⟩ (c_isByte l D ca b ) ⟨va_cnB 1 hts gX0_add_X7_isByte_n22 rfl rfl rfl (nw_X0_22 hN) hw_0fc290 (by decide +kernel) ⟨Nat.le_of_ble_eq_true rfl, Nat.le_of_ble_eq_true rfl⟩, hw_1af174, trivial⟩ ⟨roP_blind, roP_at hK hN (hP.sub [] rfl)⟩ rfl rfl hl.1 rfl (lv_room (Nat.le_of_ble_eq_true rfl)) dX0_add_1 ⟨Nat.zero_le _, Nat.zero_le _⟩)) (fun r_1 hq => ?_)
  subst hq
  refine bb_eq (tgt := 18) hx hb dX0_add_4 (by decide) (fun h0 => ?_) (fun h0 => ?_)
  · refine lv_iconst (v := nI 0) hx hb dX0_add_18 (by decide) ?_
    have e : addOk mo L b = false := by exact addOk_b h0
    have e2 : addL mo L b = L := by unfold addL; rw [e]; rfl
    have e3 : grA mo gr L b = gr := grA_f e
    have hP : va_P D vwCl [(a, .inr (0, [.int (nI mo), .ref q, .int (nI (addL mo L b).length)])), (q, .inl (ca 0, gcap mo (grA mo gr L b), .inl f))] s.heap := by rw [e2, e3]; exact hP
    have hD : va_D A [(a, .inr (0, [.int (nI mo), .ref q, .int (nI (addL mo L b).length)])), (q, .inl (ca 0, gcap mo (grA mo gr L b), .inl f))] := by rw [e2, e3]; exact hD
    exact rw_zret (u := (q, f)) hx hb hr hlocks (by decide) (⟨by rw [e]; rfl, by rw [e2]; exact hB, by rw [e2, e3]; exact hL⟩) (hP.sub [0, 1] rfl) (hD.sub [0, 1] (by decide) rfl) hS (Nat.zero_le _) (Nat.zero_le _) dX0_add_19
  · refine lv_aload_n hx hb dX0_add_7 rfl (lv_at hl 0 rfl) ?_
    refine va_get (D := D) (ci := 0) (v := .int (nI L.length)) (C := RX0) (T := TX0) (N := 3) hx hb hts hin_X0 hown hK hP 0 rfl rfl 2 (by decide) hl_19 (fun _ h9 => h9) rfl dX0_add_8 ?_
    refine lv_aload_n hx hb dX0_add_11 rfl (lv_at hl 0 rfl) ?_
    refine va_get (D := D) (ci := 0) (v := .int (nI mo)) (C := RX0) (T := TX0) (N := 3) hx hb hts hin_X0 hown hK hP 0 rfl rfl 0 (by decide) hl_9 (fun _ h9 => h9) rfl dX0_add_12 ?_
    refine bn_lt (tgt := 20) hx hb dX0_add_15 (by decide) (by omega) (by omega) (fun h2 => ?_) (fun h2 => ?_)
    · refine lv_aload_n hx hb dX0_add_20 rfl (lv_at hl 0 rfl) ?_
      refine va_get (D := D) (ci := 0) (v := .int (nI L.length)) (C := RX0) (T := TX0) (N := 3) hx hb hts hin_X0 hown hK hP 0 rfl rfl 2 (by decide) hl_19 (fun _ h9 => h9) rfl dX0_add_21 ?_
      refine lv_aload_n hx hb dX0_add_24 rfl (lv_at hl 0 rfl) ?_
      refine va_get (D := D) (ci := 0) (v := .ref q) (C := RX0) (T := TX0) (N := 3) hx hb hts hin_X0 hown hK hP 0 rfl rfl 1 (by decide) hl_15 (fun _ h9 => h9) rfl dX0_add_25 ?_
      refine va_alen hx hb hK hP 1 0 rfl rfl (v := nI (gcap mo gr)) rfl dX0_add_28 ?_
      refine bn_lt (tgt := 54) hx hb dX0_add_29 (by decide) (by omega) (by omega) (fun h3 => ?_) (fun h3 => ?_)
      · refine lv_aload_n hx hb dX0_add_54 rfl (lv_at hl 0 rfl) ?_
        refine va_get (D := D) (ci := 0) (v := .ref q) (C := RX0) (T := TX0) (N := 3) hx hb hts hin_X0 hown hK hP 0 rfl rfl 1 (by decide) hl_15 (fun _ h9 => h9) rfl dX0_add_55 ?_
        refine lv_aload_n hx hb dX0_add_58 rfl (lv_at hl 0 rfl) ?_
        refine va_get (D := D) (ci := 0) (v := .int (nI L.length)) (C := RX0) (T := TX0) (N := 3) hx hb hts hin_X0 hown hK hP 0 rfl rfl 2 (by decide) hl_19 (fun _ h9 => h9) rfl dX0_add_59 ?_
        refine lv_iload_n hx hb dX0_add_62 rfl (lv_at hl 1 rfl) ?_
        refine st_i hx hb hK hP hD hS 1 0 rfl rfl (j := L.length) (by omega) (by have := gcap_le mo (gr + 1); omega) dX0_add_63 (fun H locs hP hD hS => ?_)
        have hP : va_P D vwCl [(a, .inr (0, [.int (nI mo), .ref q, .int (nI L.length)])), (q, .inl (ca 0, gcap mo gr, .inl (upd f L.length b)))] H := hP
        have hD : va_D A [(a, .inr (0, [.int (nI mo), .ref q, .int (nI L.length)])), (q, .inl (ca 0, gcap mo gr, .inl (upd f L.length b)))] := hD
        refine lv_aload_n hx hb dX0_add_64 rfl (lv_at hl 0 rfl) ?_
        refine lv_dup hx hb dX0_add_65 rfl ?_
        refine va_get (D := D) (ci := 0) (v := .int (nI L.length)) (C := RX0) (T := TX0) (N := 3) hx hb hts hin_X0 hown hK hP 0 rfl rfl 2 (by decide) hl_19 (fun _ h9 => h9) rfl dX0_add_66 ?_
        refine lv_iconst (v := nI 1) hx hb dX0_add_69 (by decide) ?_
        refine lv_iadd hx hb dX0_add_70 ?_
        refine tp_i (y := nI (L.length + 1)) (nI_1 _) ?_
        refine va_put (D := D) (ci := 0) (v := .int (nI (L.length + 1))) (ty := .int) (C := RX0) (T := TX0) (N := 3) hx hb hts hin_X0 tyX0 tyX0_ok nmX0 hown hK hP hD hS 0 rfl rfl 2 (by decide) hl_19 (fun _ h9 => h9) rfl (by decide +kernel) rfl rfl (Nat.le_of_ble_eq_true rfl) dX0_add_71 (fun H locs hP hD hS => ?_)
        have hP : va_P D vwCl [(a, .inr (0, [.int (nI mo), .ref q, .int (nI (L.length + 1))])), (q, .inl (ca 0, gcap mo gr, .inl (upd f L.length b)))] H := hP
        have hD : va_D A [(a, .inr (0, [.int (nI mo), .ref q, .int (nI (L.length + 1))])), (q, .inl (ca 0, gcap mo gr, .inl (upd f L.length b)))] := hD
        refine lv_iconst (v := nI 1) hx hb dX0_add_74 (by decide) ?_
        have e : addOk mo L b = true := addOk_y h0 h2
        have e2 : addL mo L b = L ++ [b.toNatClampNeg] := by unfold addL; rw [if_pos e]
        have e3 : grA mo gr L b = gr := grA_n h2 h3
        have hP : va_P D vwCl [(a, .inr (0, [.int (nI mo), .ref q, .int (nI (addL mo L b).length)])), (q, .inl (ca 0, gcap mo (grA mo gr L b), .inl (upd f L.length b)))] H := by rw [e2, e3, List.length_append, List.length_singleton]; exact hP
        have hD : va_D A [(a, .inr (0, [.int (nI mo), .ref q, .int (nI (addL mo L b).length)])), (q, .inl (ca 0, gcap mo (grA mo gr L b), .inl (upd f L.length b)))] := by rw [e2, e3, List.length_append, List.length_singleton]; exact hD
        exact rw_zret (u := (q, (upd f L.length b))) hx hb hr hlocks (by decide) (⟨by rw [e]; rfl, by rw [e2]; exact BR_app (hB) h0 rfl, by rw [e2, e3, List.length_append, List.length_singleton]; omega⟩) (hP.sub [0, 1] rfl) (hD.sub [0, 1] (by decide) rfl) hS (Nat.zero_le _) (Nat.zero_le _) dX0_add_75
      · have e9 : grA mo gr L b = gr + 1 := grA_y h0 hL h2 h3
        have e8 : grA mo gr L b - gr = 1 := by omega
        refine lv_aload_n hx hb dX0_add_32 rfl (lv_at hl 0 rfl) ?_
        refine lv_aload_n hx hb dX0_add_33 rfl (lv_at hl 0 rfl) ?_
        refine va_get (D := D) (ci := 0) (v := .ref q) (C := RX0) (T := TX0) (N := 3) hx hb hts hin_X0 hown hK hP 0 rfl rfl 1 (by decide) hl_15 (fun _ h9 => h9) rfl dX0_add_34 ?_
        refine lv_aload_n hx hb dX0_add_37 rfl (lv_at hl 0 rfl) ?_
        refine va_get (D := D) (ci := 0) (v := .int (nI L.length)) (C := RX0) (T := TX0) (N := 3) hx hb hts hin_X0 hown hK hP 0 rfl rfl 2 (by decide) hl_19 (fun _ h9 => h9) rfl dX0_add_38 ?_
        refine lv_aload_n hx hb dX0_add_41 rfl (lv_at hl 0 rfl) ?_
        refine va_get (D := D) (ci := 0) (v := .int (nI mo)) (C := RX0) (T := TX0) (N := 3) hx hb hts hin_X0 hown hK hP 0 rfl rfl 0 (by decide) hl_9 (fun _ h9 => h9) rfl dX0_add_42 ?_
        refine vp_callSi (va_Run.run (va_runSN (As := [.int (nI L.length), .int (nI mo)]) (rest := [.ref q, .ref a]) ⟨hx, hb, hml, hown, hts⟩ (c_grown l D ca L.length mo (by omega) (by omega)) ⟨va_cnB 2 hts gX0_add_X7_grown_n26 rfl rfl rfl (nw_X0_26 hN) hw_0fc290 (by decide +kernel) ⟨Nat.le_of_ble_eq_true rfl, Nat.le_of_ble_eq_true rfl⟩, hw_fcdcae, trivial⟩ ⟨roP_blind, roP_at hK hN (hP.sub [] rfl)⟩ rfl rfl hl.1 rfl (lv_room (Nat.le_of_ble_eq_true rfl)) dX0_add_45 ⟨Nat.zero_le _, Nat.zero_le _⟩)) (fun r_2 hq => ?_)
        subst hq
        refine tp_i (y := nI (gcap mo (gr + 1))) (by rw [gcap_succ hL h3 h2]) ?_
        refine rw_callr (wc := [(q, .inl (ca 0, gcap mo gr, .inl f))]) (wr := [(a, .inr (0, [.int (nI mo), .ref q, .int (nI L.length)]))]) hP hD hS hA [1] [0] rfl rfl (by decide) (by decide) (va_runS (As := [.ref q, .int (nI (gcap mo (gr + 1)))]) (rest := [.ref a]) ⟨hx, hb, hml, hown, hts⟩ (c_copyI l D ca q (gcap mo gr) (gcap mo (gr + 1)) f (by omega) (by have := gcap_le mo (gr + 1); omega) (gcap_ne hm.1 (by omega)) s.heap.size) (va_cwS 2 hts gX0_add_J7_copyOf_59c91 rfl rfl rfl (by decide +kernel) ⟨Nat.le_of_ble_eq_true rfl, Nat.le_of_ble_eq_true rfl⟩) ⟨rwP_blind, rwP_at hK hN (hP.sub [1] rfl) (hD.sub [1] (by decide) rfl)⟩ rfl rfl hl.1 rfl (lv_room (Nat.le_of_ble_eq_true rfl)) dX0_add_48 ⟨by show 0 + 1 ≤ grA mo gr L b - gr; omega, by show 0 + 20000 ≤ 20000 * (grA mo gr L b - gr); omega⟩) (fun r_3 u H locs hq hP hD hS => ?_)
        obtain ⟨q1_4, rfl⟩ : ∃ z, z = u := ⟨_, rfl⟩
        try dsimp only at hq
        have hP : va_P D vwCl [(a, .inr (0, [.int (nI mo), .ref q, .int (nI L.length)])), (q, .inl (ca 0, gcap mo gr, .inl f)), (q1_4, .inl (ca 0, gcap mo (gr + 1), .inl (va_cpy f (fun _ => 0) 0 0 (min (gcap mo gr) (gcap mo (gr + 1))))))] H := hP
        have hD : va_D A [(a, .inr (0, [.int (nI mo), .ref q, .int (nI L.length)])), (q, .inl (ca 0, gcap mo gr, .inl f)), (q1_4, .inl (ca 0, gcap mo (gr + 1), .inl (va_cpy f (fun _ => 0) 0 0 (min (gcap mo gr) (gcap mo (gr + 1))))))] := hD
        subst hq
        refine va_put (D := D) (ci := 0) (v := .ref r_3) (ty := (.array .int)) (C := RX0) (T := TX0) (N := 3) hx hb hts hin_X0 tyX0 tyX0_ok nmX0 hown hK hP hD hS 0 rfl rfl 1 (by decide) hl_15 (fun _ h9 => h9) rfl (by decide +kernel) rfl rfl (Nat.le_of_ble_eq_true rfl) dX0_add_51 (fun H locs hP hD hS => ?_)
        have hP : va_P D vwCl [(a, .inr (0, [.int (nI mo), .ref r_3, .int (nI L.length)])), (q, .inl (ca 0, gcap mo gr, .inl f)), (r_3, .inl (ca 0, gcap mo (gr + 1), .inl (va_cpy f (fun _ => 0) 0 0 (min (gcap mo gr) (gcap mo (gr + 1))))))] H := hP
        have hD : va_D A [(a, .inr (0, [.int (nI mo), .ref r_3, .int (nI L.length)])), (q, .inl (ca 0, gcap mo gr, .inl f)), (r_3, .inl (ca 0, gcap mo (gr + 1), .inl (va_cpy f (fun _ => 0) 0 0 (min (gcap mo gr) (gcap mo (gr + 1))))))] := hD
        refine lv_aload_n hx hb dX0_add_54 rfl (lv_at hl 0 rfl) ?_
        refine va_get (D := D) (ci := 0) (v := .ref r_3) (C := RX0) (T := TX0) (N := 3) hx hb hts hin_X0 hown hK hP 0 rfl rfl 1 (by decide) hl_15 (fun _ h9 => h9) rfl dX0_add_55 ?_
        refine lv_aload_n hx hb dX0_add_58 rfl (lv_at hl 0 rfl) ?_
        refine va_get (D := D) (ci := 0) (v := .int (nI L.length)) (C := RX0) (T := TX0) (N := 3) hx hb hts hin_X0 hown hK hP 0 rfl rfl 2 (by decide) hl_19 (fun _ h9 => h9) rfl dX0_add_59 ?_
        refine lv_iload_n hx hb dX0_add_62 rfl (lv_at hl 1 rfl) ?_
        refine st_i hx hb hK hP hD hS 2 0 rfl rfl (j := L.length) (by have := gcap_up hL h3 h2; omega) (by have := gcap_le mo (gr + 1); omega) dX0_add_63 (fun H locs hP hD hS => ?_)
        have hP : va_P D vwCl [(a, .inr (0, [.int (nI mo), .ref r_3, .int (nI L.length)])), (q, .inl (ca 0, gcap mo gr, .inl f)), (r_3, .inl (ca 0, gcap mo (gr + 1), .inl (upd (va_cpy f (fun _ => 0) 0 0 (min (gcap mo gr) (gcap mo (gr + 1)))) L.length b)))] H := hP
        have hD : va_D A [(a, .inr (0, [.int (nI mo), .ref r_3, .int (nI L.length)])), (q, .inl (ca 0, gcap mo gr, .inl f)), (r_3, .inl (ca 0, gcap mo (gr + 1), .inl (upd (va_cpy f (fun _ => 0) 0 0 (min (gcap mo gr) (gcap mo (gr + 1)))) L.length b)))] := hD
        refine lv_aload_n hx hb dX0_add_64 rfl (lv_at hl 0 rfl) ?_
        refine lv_dup hx hb dX0_add_65 rfl ?_
        refine va_get (D := D) (ci := 0) (v := .int (nI L.length)) (C := RX0) (T := TX0) (N := 3) hx hb hts hin_X0 hown hK hP 0 rfl rfl 2 (by decide) hl_19 (fun _ h9 => h9) rfl dX0_add_66 ?_
        refine lv_iconst (v := nI 1) hx hb dX0_add_69 (by decide) ?_
        refine lv_iadd hx hb dX0_add_70 ?_
        refine tp_i (y := nI (L.length + 1)) (nI_1 _) ?_
        refine va_put (D := D) (ci := 0) (v := .int (nI (L.length + 1))) (ty := .int) (C := RX0) (T := TX0) (N := 3) hx hb hts hin_X0 tyX0 tyX0_ok nmX0 hown hK hP hD hS 0 rfl rfl 2 (by decide) hl_19 (fun _ h9 => h9) rfl (by decide +kernel) rfl rfl (Nat.le_of_ble_eq_true rfl) dX0_add_71 (fun H locs hP hD hS => ?_)
        have hP : va_P D vwCl [(a, .inr (0, [.int (nI mo), .ref r_3, .int (nI (L.length + 1))])), (q, .inl (ca 0, gcap mo gr, .inl f)), (r_3, .inl (ca 0, gcap mo (gr + 1), .inl (upd (va_cpy f (fun _ => 0) 0 0 (min (gcap mo gr) (gcap mo (gr + 1)))) L.length b)))] H := hP
        have hD : va_D A [(a, .inr (0, [.int (nI mo), .ref r_3, .int (nI (L.length + 1))])), (q, .inl (ca 0, gcap mo gr, .inl f)), (r_3, .inl (ca 0, gcap mo (gr + 1), .inl (upd (va_cpy f (fun _ => 0) 0 0 (min (gcap mo gr) (gcap mo (gr + 1)))) L.length b)))] := hD
        refine lv_iconst (v := nI 1) hx hb dX0_add_74 (by decide) ?_
        have e : addOk mo L b = true := addOk_y h0 h2
        have e2 : addL mo L b = L ++ [b.toNatClampNeg] := by unfold addL; rw [if_pos e]
        have e3 : grA mo gr L b = gr + 1 := e9
        have hP : va_P D vwCl [(a, .inr (0, [.int (nI mo), .ref r_3, .int (nI (addL mo L b).length)])), (q, .inl (ca 0, gcap mo gr, .inl f)), (r_3, .inl (ca 0, gcap mo (grA mo gr L b), .inl (upd (va_cpy f (fun _ => 0) 0 0 (min (gcap mo gr) (gcap mo (gr + 1)))) L.length b)))] H := by rw [e2, e3, List.length_append, List.length_singleton]; exact hP
        have hD : va_D A [(a, .inr (0, [.int (nI mo), .ref r_3, .int (nI (addL mo L b).length)])), (q, .inl (ca 0, gcap mo gr, .inl f)), (r_3, .inl (ca 0, gcap mo (grA mo gr L b), .inl (upd (va_cpy f (fun _ => 0) 0 0 (min (gcap mo gr) (gcap mo (gr + 1)))) L.length b)))] := by rw [e2, e3, List.length_append, List.length_singleton]; exact hD
        exact rw_zret (u := (r_3, (upd (va_cpy f (fun _ => 0) 0 0 (min (gcap mo gr) (gcap mo (gr + 1)))) L.length b))) hx hb hr hlocks (by decide) (⟨by rw [e]; rfl, by rw [e2]; exact BR_app (BR_cpy hB (by have := gcap_up hL h3 h2; omega)) h0 rfl, by rw [e2, e3, List.length_append, List.length_singleton]; exact gcap_up hL h3 h2⟩) (hP.sub [0, 2] rfl) (hD.sub [0, 2] (by decide) rfl) hS (by omega) (by omega) dX0_add_75
    · refine lv_iconst (v := nI 0) hx hb dX0_add_18 (by decide) ?_
      have e : addOk mo L b = false := by exact addOk_n h2
      have e2 : addL mo L b = L := by unfold addL; rw [e]; rfl
      have e3 : grA mo gr L b = gr := grA_f e
      have hP : va_P D vwCl [(a, .inr (0, [.int (nI mo), .ref q, .int (nI (addL mo L b).length)])), (q, .inl (ca 0, gcap mo (grA mo gr L b), .inl f))] s.heap := by rw [e2, e3]; exact hP
      have hD : va_D A [(a, .inr (0, [.int (nI mo), .ref q, .int (nI (addL mo L b).length)])), (q, .inl (ca 0, gcap mo (grA mo gr L b), .inl f))] := by rw [e2, e3]; exact hD
      exact rw_zret (u := (q, f)) hx hb hr hlocks (by decide) (⟨by rw [e]; rfl, by rw [e2]; exact hB, by rw [e2, e3]; exact hL⟩) (hP.sub [0, 1] rfl) (hD.sub [0, 1] (by decide) rfl) hS (Nat.zero_le _) (Nat.zero_le _) dX0_add_19

set_option maxHeartbeats 4000000 in
set_option maxRecDepth 100000 in
theorem c_BR_init (l : Launch) (D : va_G) (ca : Nat → ClassId) (a : Nat) (mo : Nat) (hm : 64 ≤ mo) (sz : Nat) : Met l yX0_init wsX0_init { frames := 1, cells := 1, slots := 64, locals := 20 } (rwP D vwCl (ATy ca) [(a, .inr (0, [.int 0, .null, .int 0]))] sz [.ref a, .int (nI mo)]) (va_Qv (fun (u : Nat) => True) (bB D vwCl (fun (u : Nat) => [(a, .inr (0, [.int (nI mo), .ref u, .int (nI ([] : List Nat).length)])), (u, .inl (ca 0, gcap mo 0, .inl (fun _ => 0)))]) (va_A [(a, .inr (0, [.int 0, .null, .int 0]))] sz)) (va_A [(a, .inr (0, [.int 0, .null, .int 0]))] sz)) 1 64 (va_A [(a, .inr (0, [.int 0, .null, .int 0]))] sz) := by
  refine rw_enter (Q := fun A => va_Qv (fun (u : Nat) => True) (bB D vwCl (fun (u : Nat) => [(a, .inr (0, [.int (nI mo), .ref u, .int (nI ([] : List Nat).length)])), (u, .inl (ca 0, gcap mo 0, .inl (fun _ => 0)))]) A) A) (by decide) rfl (Nat.le_of_ble_eq_true rfl) ?_
  intro p e s m below meth c ls A C hnm hK hN hP hD hA hl
  have hS : va_S A s.heap s.heap [] := va_S.rf
  obtain ⟨hx, hb, hr, hml, hown, hlocks, hts⟩ := C
  have hl : lv_has ls 2 [(0, .ref a), (1, .int (nI mo))] := hl
  have hw_86c094 := hts (.methodLink RX0 3 objectInit) (by decide +kernel)
  have hw_fba9d5 := hts (.instanceMethod objectInit) (by decide +kernel)
  have hw_9febdb := hts (.code objectInit ⟨#[0xb1]⟩ 1 none) (by decide +kernel)
  have hin_X0 : ∀ w ∈ wsX00, w ∈ wsX0_init := by decide +kernel
  have hl_9 := hts (.fieldLink RX0 9 "EscapeCoder$ByteRow" "most" "I") (by decide +kernel)
  have hw_d160d5 := hts (.arrayClass .int) (by decide +kernel)
  have hl_15 := hts (.fieldLink RX0 15 "EscapeCoder$ByteRow" "bytes" "[I") (by decide +kernel)
  refine lv_aload_n hx hb dX0_init_0 rfl (lv_at hl 0 rfl) ?_
  refine W.objInit hx hb hown hw_86c094 hw_fba9d5 hw_9febdb rfl (by rw [hml]; exact hl.1) rfl dX0_init_1 (Nat.le_of_ble_eq_true rfl) (Nat.le_of_ble_eq_true rfl) ?_
  refine W.eq (g2 := F0 m 4 ls []) rfl ?_
  refine lv_aload_n hx hb dX0_init_4 rfl (lv_at hl 0 rfl) ?_
  refine lv_iload_n hx hb dX0_init_5 rfl (lv_at hl 1 rfl) ?_
  refine va_putF (D := D) (ci := 0) (v := .int (nI mo)) (ty := .int) (C := RX0) (T := TX0) (N := 3) hx hb hts hin_X0 tyX0 tyX0_ok nmX0 hown hK hP hD hS 0 rfl rfl 0 (by decide) hl_9 (fun _ h9 => h9) rfl hnm rfl (by decide +kernel) rfl rfl (Nat.le_of_ble_eq_true rfl) dX0_init_6 (fun H locs hP hD hS => ?_)
  have hP : va_P D vwCl [(a, .inr (0, [.int (nI mo), .null, .int 0]))] H := hP
  have hD : va_D A [(a, .inr (0, [.int (nI mo), .null, .int 0]))] := hD
  refine lv_aload_n hx hb dX0_init_9 rfl (lv_at hl 0 rfl) ?_
  refine lv_bipush (v := nI 64) hx hb dX0_init_10 (by decide) ?_
  refine na (atype := .int) (n := nI 64) (ty := .int) (N' := 64) (a0 := (64, .inl (fun _ => 0))) hx hb hw_d160d5 rfl hK hP hD hS hA (fun _ => rfl) (nI_pos (by omega)) (nI_clamp (by omega)) (by decide) (Nat.le_of_ble_eq_true rfl) (Nat.le_of_ble_eq_true rfl) dX0_init_12 0 rfl (fun _ h9 => h9) (fun q H hP hD hS => ?_)
  have hP : va_P D vwCl [(a, .inr (0, [.int (nI mo), .null, .int 0])), (q, .inl (ca 0, 64, .inl (fun _ => 0)))] H := hP
  have hD : va_D A [(a, .inr (0, [.int (nI mo), .null, .int 0])), (q, .inl (ca 0, 64, .inl (fun _ => 0)))] := hD
  refine W.widen (k := 1) (n := 64) (by omega) (by omega) ?_
  refine va_put (D := D) (ci := 0) (v := .ref q) (ty := (.array .int)) (C := RX0) (T := TX0) (N := 3) hx hb hts hin_X0 tyX0 tyX0_ok nmX0 hown hK hP hD hS 0 rfl rfl 1 (by decide) hl_15 (fun _ h9 => h9) rfl (by decide +kernel) rfl rfl (Nat.le_of_ble_eq_true rfl) dX0_init_14 (fun H locs hP hD hS => ?_)
  have hP : va_P D vwCl [(a, .inr (0, [.int (nI mo), .ref q, .int 0])), (q, .inl (ca 0, 64, .inl (fun _ => 0)))] H := hP
  have hD : va_D A [(a, .inr (0, [.int (nI mo), .ref q, .int 0])), (q, .inl (ca 0, 64, .inl (fun _ => 0)))] := hD
  have hP : va_P D vwCl [(a, .inr (0, [.int (nI mo), .ref q, .int 0])), (q, .inl (ca 0, gcap mo 0, .inl (fun _ => 0)))] H := by rw [show gcap mo 0 = 64 by unfold gcap; omega]; exact hP
  have hD : va_D A [(a, .inr (0, [.int (nI mo), .ref q, .int 0])), (q, .inl (ca 0, gcap mo 0, .inl (fun _ => 0)))] := by rw [show gcap mo 0 = 64 by unfold gcap; omega]; exact hD
  exact rw_vret (u := q) hx hb hr hlocks (trivial) (hP.sub [0, 1] rfl) (hD.sub [0, 1] (by decide) rfl) hS (Nat.le_refl _) (Nat.le_refl _) dX0_init_17
end
section
set_option maxHeartbeats 4000000 in
set_option maxRecDepth 100000 in
theorem c_SR_made (l : Launch) (D : va_G) (ca : Nat → ClassId) (a : Nat) (q : Nat) (gr : Nat) (f : Nat → Int64) (st : List Stq)  : Met l yX5_made wsX5_made { frames := 0, cells := 0, slots := 0, locals := 0 } (roP D vwCl (ATy ca) [(a, .inr (4, [.ref q, .int (nI st.length), .int (nI (escN st))])), (q, .inl (ca 1, gcap 20000 gr, .inr (.inl f)))] [.ref a]) (vp_Si (fun r : Int32 => r = nI st.length)) 0 0 (fun _ => False) := by
  refine ro_enter (by decide) rfl (Nat.le_of_ble_eq_true rfl) ?_
  intro p e s m below meth c ls C hK hN hP hl
  obtain ⟨hx, hb, hr, hml, hown, hlocks, hts⟩ := C
  have hl : lv_has ls 1 [(0, .ref a)] := hl
  have hin_X5 : ∀ w ∈ wsX50, w ∈ wsX5_made := by decide +kernel
  have hl_15 := hts (.fieldLink RX5 15 "EscapeCoder$StepRow" "made" "I") (by decide +kernel)
  refine lv_aload_n hx hb dX5_made_0 rfl (lv_at hl 0 rfl) ?_
  refine va_get (D := D) (ci := 4) (v := .int (nI st.length)) (C := RX5) (T := TX5) (N := 3) hx hb hts hin_X5 hown hK hP 0 rfl rfl 1 (by decide) hl_15 (fun _ h9 => h9) rfl dX5_made_1 ?_
  exact ro_iret hx hb hr hlocks (rfl) dX5_made_4

set_option maxHeartbeats 4000000 in
set_option maxRecDepth 100000 in
theorem c_SR_escapes (l : Launch) (D : va_G) (ca : Nat → ClassId) (a : Nat) (q : Nat) (gr : Nat) (f : Nat → Int64) (st : List Stq)  : Met l yX5_escapes wsX5_escapes { frames := 0, cells := 0, slots := 0, locals := 0 } (roP D vwCl (ATy ca) [(a, .inr (4, [.ref q, .int (nI st.length), .int (nI (escN st))])), (q, .inl (ca 1, gcap 20000 gr, .inr (.inl f)))] [.ref a]) (vp_Si (fun r : Int32 => r = nI (escN st))) 0 0 (fun _ => False) := by
  refine ro_enter (by decide) rfl (Nat.le_of_ble_eq_true rfl) ?_
  intro p e s m below meth c ls C hK hN hP hl
  obtain ⟨hx, hb, hr, hml, hown, hlocks, hts⟩ := C
  have hl : lv_has ls 1 [(0, .ref a)] := hl
  have hin_X5 : ∀ w ∈ wsX50, w ∈ wsX5_escapes := by decide +kernel
  have hl_19 := hts (.fieldLink RX5 19 "EscapeCoder$StepRow" "escapes" "I") (by decide +kernel)
  refine lv_aload_n hx hb dX5_escapes_0 rfl (lv_at hl 0 rfl) ?_
  refine va_get (D := D) (ci := 4) (v := .int (nI (escN st))) (C := RX5) (T := TX5) (N := 3) hx hb hts hin_X5 hown hK hP 0 rfl rfl 2 (by decide) hl_19 (fun _ h9 => h9) rfl dX5_escapes_1 ?_
  exact ro_iret hx hb hr hlocks (rfl) dX5_escapes_4

set_option maxHeartbeats 4000000 in
set_option maxRecDepth 100000 in
theorem c_SR_clear (l : Launch) (D : va_G) (ca : Nat → ClassId) (a : Nat) (q : Nat) (gr : Nat) (f : Nat → Int64) (st : List Stq)  (sz : Nat) : Met l yX5_clear wsX5_clear { frames := 0, cells := 0, slots := 0, locals := 0 } (rwP D vwCl (ATy ca) [(a, .inr (4, [.ref q, .int (nI st.length), .int (nI (escN st))])), (q, .inl (ca 1, gcap 20000 gr, .inr (.inl f)))] sz [.ref a]) (va_Qv (fun (u : Unit) => True) (bB D vwCl (fun (u : Unit) => [(a, .inr (4, [.ref q, .int (nI ([] : List Stq).length), .int (nI (escN ([] : List Stq)))])), (q, .inl (ca 1, gcap 20000 gr, .inr (.inl f)))]) (va_A [(a, .inr (4, [.ref q, .int (nI st.length), .int (nI (escN st))])), (q, .inl (ca 1, gcap 20000 gr, .inr (.inl f)))] sz)) (va_A [(a, .inr (4, [.ref q, .int (nI st.length), .int (nI (escN st))])), (q, .inl (ca 1, gcap 20000 gr, .inr (.inl f)))] sz)) 0 0 (va_A [(a, .inr (4, [.ref q, .int (nI st.length), .int (nI (escN st))])), (q, .inl (ca 1, gcap 20000 gr, .inr (.inl f)))] sz) := by
  refine rw_enter (Q := fun A => va_Qv (fun (u : Unit) => True) (bB D vwCl (fun (u : Unit) => [(a, .inr (4, [.ref q, .int (nI ([] : List Stq).length), .int (nI (escN ([] : List Stq)))])), (q, .inl (ca 1, gcap 20000 gr, .inr (.inl f)))]) A) A) (by decide) rfl (Nat.le_of_ble_eq_true rfl) ?_
  intro p e s m below meth c ls A C hnm hK hN hP hD hA hl
  have hS : va_S A s.heap s.heap [] := va_S.rf
  obtain ⟨hx, hb, hr, hml, hown, hlocks, hts⟩ := C
  have hl : lv_has ls 1 [(0, .ref a)] := hl
  have hin_X5 : ∀ w ∈ wsX50, w ∈ wsX5_clear := by decide +kernel
  have hl_15 := hts (.fieldLink RX5 15 "EscapeCoder$StepRow" "made" "I") (by decide +kernel)
  have hl_19 := hts (.fieldLink RX5 19 "EscapeCoder$StepRow" "escapes" "I") (by decide +kernel)
  refine lv_aload_n hx hb dX5_clear_0 rfl (lv_at hl 0 rfl) ?_
  refine lv_iconst (v := nI 0) hx hb dX5_clear_1 (by decide) ?_
  refine va_put (D := D) (ci := 4) (v := .int (nI 0)) (ty := .int) (C := RX5) (T := TX5) (N := 3) hx hb hts hin_X5 tyX5 tyX5_ok nmX5 hown hK hP hD hS 0 rfl rfl 1 (by decide) hl_15 (fun _ h9 => h9) rfl (by decide +kernel) rfl rfl (Nat.le_of_ble_eq_true rfl) dX5_clear_2 (fun H locs hP hD hS => ?_)
  have hP : va_P D vwCl [(a, .inr (4, [.ref q, .int (nI 0), .int (nI (escN st))])), (q, .inl (ca 1, gcap 20000 gr, .inr (.inl f)))] H := hP
  have hD : va_D A [(a, .inr (4, [.ref q, .int (nI 0), .int (nI (escN st))])), (q, .inl (ca 1, gcap 20000 gr, .inr (.inl f)))] := hD
  refine lv_aload_n hx hb dX5_clear_5 rfl (lv_at hl 0 rfl) ?_
  refine lv_iconst (v := nI 0) hx hb dX5_clear_6 (by decide) ?_
  refine va_put (D := D) (ci := 4) (v := .int (nI 0)) (ty := .int) (C := RX5) (T := TX5) (N := 3) hx hb hts hin_X5 tyX5 tyX5_ok nmX5 hown hK hP hD hS 0 rfl rfl 2 (by decide) hl_19 (fun _ h9 => h9) rfl (by decide +kernel) rfl rfl (Nat.le_of_ble_eq_true rfl) dX5_clear_7 (fun H locs hP hD hS => ?_)
  have hP : va_P D vwCl [(a, .inr (4, [.ref q, .int (nI 0), .int (nI 0)])), (q, .inl (ca 1, gcap 20000 gr, .inr (.inl f)))] H := hP
  have hD : va_D A [(a, .inr (4, [.ref q, .int (nI 0), .int (nI 0)])), (q, .inl (ca 1, gcap 20000 gr, .inr (.inl f)))] := hD
  exact rw_vret (u := ()) hx hb hr hlocks (trivial) (hP.sub [0, 1] rfl) (hD.sub [0, 1] (by decide) rfl) hS (Nat.le_refl _) (Nat.le_refl _) dX5_clear_10

set_option maxHeartbeats 4000000 in
set_option maxRecDepth 100000 in
theorem c_SR_init (l : Launch) (D : va_G) (ca : Nat → ClassId) (a : Nat)  (sz : Nat) : Met l yX5_init wsX5_init { frames := 1, cells := 1, slots := 64, locals := 20 } (rwP D vwCl (ATy ca) [(a, .inr (4, [.null, .int 0, .int 0]))] sz [.ref a]) (va_Qv (fun (u : Nat) => True) (bB D vwCl (fun (u : Nat) => [(a, .inr (4, [.ref u, .int (nI ([] : List Stq).length), .int (nI (escN ([] : List Stq)))])), (u, .inl (ca 1, gcap 20000 0, .inr (.inl (fun _ => 0))))]) (va_A [(a, .inr (4, [.null, .int 0, .int 0]))] sz)) (va_A [(a, .inr (4, [.null, .int 0, .int 0]))] sz)) 1 64 (va_A [(a, .inr (4, [.null, .int 0, .int 0]))] sz) := by
  refine rw_enter (Q := fun A => va_Qv (fun (u : Nat) => True) (bB D vwCl (fun (u : Nat) => [(a, .inr (4, [.ref u, .int (nI ([] : List Stq).length), .int (nI (escN ([] : List Stq)))])), (u, .inl (ca 1, gcap 20000 0, .inr (.inl (fun _ => 0))))]) A) A) (by decide) rfl (Nat.le_of_ble_eq_true rfl) ?_
  intro p e s m below meth c ls A C hnm hK hN hP hD hA hl
  have hS : va_S A s.heap s.heap [] := va_S.rf
  obtain ⟨hx, hb, hr, hml, hown, hlocks, hts⟩ := C
  have hl : lv_has ls 1 [(0, .ref a)] := hl
  have hw_c0b64a := hts (.methodLink RX5 5 objectInit) (by decide +kernel)
  have hw_fba9d5 := hts (.instanceMethod objectInit) (by decide +kernel)
  have hw_9febdb := hts (.code objectInit ⟨#[0xb1]⟩ 1 none) (by decide +kernel)
  have hw_f2af49 := hts (.arrayClass .long) (by decide +kernel)
  have hin_X5 : ∀ w ∈ wsX50, w ∈ wsX5_init := by decide +kernel
  have hl_11 := hts (.fieldLink RX5 11 "EscapeCoder$StepRow" "packed" "[J") (by decide +kernel)
  refine lv_aload_n hx hb dX5_init_0 rfl (lv_at hl 0 rfl) ?_
  refine W.objInit hx hb hown hw_c0b64a hw_fba9d5 hw_9febdb rfl (by rw [hml]; exact hl.1) rfl dX5_init_1 (Nat.le_of_ble_eq_true rfl) (Nat.le_of_ble_eq_true rfl) ?_
  refine W.eq (g2 := F0 m 4 ls []) rfl ?_
  refine lv_aload_n hx hb dX5_init_4 rfl (lv_at hl 0 rfl) ?_
  refine lv_bipush (v := nI 64) hx hb dX5_init_5 (by decide) ?_
  refine na (atype := .long) (n := nI 64) (ty := .long) (N' := 64) (a0 := (64, .inr (.inl (fun _ => 0)))) hx hb hw_f2af49 rfl hK hP hD hS hA (fun _ => rfl) (nI_pos (by omega)) (nI_clamp (by omega)) (by decide) (Nat.le_of_ble_eq_true rfl) (Nat.le_of_ble_eq_true rfl) dX5_init_7 1 rfl (fun _ h9 => h9) (fun q H hP hD hS => ?_)
  have hP : va_P D vwCl [(a, .inr (4, [.null, .int 0, .int 0])), (q, .inl (ca 1, 64, .inr (.inl (fun _ => 0))))] H := hP
  have hD : va_D A [(a, .inr (4, [.null, .int 0, .int 0])), (q, .inl (ca 1, 64, .inr (.inl (fun _ => 0))))] := hD
  refine W.widen (k := 1) (n := 64) (by omega) (by omega) ?_
  refine va_put (D := D) (ci := 4) (v := .ref q) (ty := (.array .long)) (C := RX5) (T := TX5) (N := 3) hx hb hts hin_X5 tyX5 tyX5_ok nmX5 hown hK hP hD hS 0 rfl rfl 0 (by decide) hl_11 (fun _ h9 => h9) rfl (by decide +kernel) rfl rfl (Nat.le_of_ble_eq_true rfl) dX5_init_9 (fun H locs hP hD hS => ?_)
  have hP : va_P D vwCl [(a, .inr (4, [.ref q, .int 0, .int 0])), (q, .inl (ca 1, 64, .inr (.inl (fun _ => 0))))] H := hP
  have hD : va_D A [(a, .inr (4, [.ref q, .int 0, .int 0])), (q, .inl (ca 1, 64, .inr (.inl (fun _ => 0))))] := hD
  exact rw_vret (u := q) hx hb hr hlocks (trivial) (hP.sub [0, 1] rfl) (hD.sub [0, 1] (by decide) rfl) hS (Nat.le_refl _) (Nat.le_refl _) dX5_init_12

set_option maxHeartbeats 4000000 in
set_option maxRecDepth 100000 in
theorem c_SR_add (l : Launch) (D : va_G) (ca : Nat → ClassId) (a : Nat) (q : Nat) (gr : Nat) (f : Nat → Int64) (st : List Stq) (b : Nat) (pa : Nat) (w : Nat) (o : Nat) (od : Int32) (es : Bool) (hB : SR f st) (hL : st.length ≤ gcap 20000 gr) (hm : st.length < 20000) (hs : b < 32768 ∧ pa < 32768 ∧ w < 32768 ∧ o < 4) (ho : od + 1 = nI o) (sz : Nat) : Met l yX5_add wsX5_add { frames := 2, cells := max gr (gN (st.length + 1)) - gr, slots := 20000 * (max gr (gN (st.length + 1)) - gr), locals := 48 } (rwP D vwCl (ATy ca) [(a, .inr (4, [.ref q, .int (nI st.length), .int (nI (escN st))])), (q, .inl (ca 1, gcap 20000 gr, .inr (.inl f)))] sz [.ref a, .int (nI b), .int (nI pa), .int (nI w), .int od, .int (bI es)]) (va_Qv (fun (u : Nat × (Nat → Int64)) => SR u.2 (st ++ [(b, pa, w, o, es)])) (bB D vwCl (fun (u : Nat × (Nat → Int64)) => [(a, .inr (4, [.ref u.1, .int (nI (st ++ [(b, pa, w, o, es)]).length), .int (nI (escN (st ++ [(b, pa, w, o, es)])))])), (u.1, .inl (ca 1, gcap 20000 (max gr (gN (st.length + 1))), .inr (.inl u.2)))]) (va_A [(a, .inr (4, [.ref q, .int (nI st.length), .int (nI (escN st))])), (q, .inl (ca 1, gcap 20000 gr, .inr (.inl f)))] sz)) (va_A [(a, .inr (4, [.ref q, .int (nI st.length), .int (nI (escN st))])), (q, .inl (ca 1, gcap 20000 gr, .inr (.inl f)))] sz)) (max gr (gN (st.length + 1)) - gr) (20000 * (max gr (gN (st.length + 1)) - gr)) (va_A [(a, .inr (4, [.ref q, .int (nI st.length), .int (nI (escN st))])), (q, .inl (ca 1, gcap 20000 gr, .inr (.inl f)))] sz) := by
  refine rw_enter (Q := fun A => va_Qv (fun (u : Nat × (Nat → Int64)) => SR u.2 (st ++ [(b, pa, w, o, es)])) (bB D vwCl (fun (u : Nat × (Nat → Int64)) => [(a, .inr (4, [.ref u.1, .int (nI (st ++ [(b, pa, w, o, es)]).length), .int (nI (escN (st ++ [(b, pa, w, o, es)])))])), (u.1, .inl (ca 1, gcap 20000 (max gr (gN (st.length + 1))), .inr (.inl u.2)))]) A) A) (by decide) rfl (Nat.le_of_ble_eq_true rfl) ?_
  intro p e s m below meth c ls A C hnm hK hN hP hD hA hl
  have hS : va_S A s.heap s.heap [] := va_S.rf
  obtain ⟨hx, hb, hr, hml, hown, hlocks, hts⟩ := C
  have hl : lv_has ls 6 [(0, .ref a), (1, .int (nI b)), (2, .int (nI pa)), (3, .int (nI w)), (4, .int od), (5, .int (bI es))] := hl
  have hin_X5 : ∀ w ∈ wsX50, w ∈ wsX5_add := by decide +kernel
  have hl_15 := hts (.fieldLink RX5 15 "EscapeCoder$StepRow" "made" "I") (by decide +kernel)
  have hl_11 := hts (.fieldLink RX5 11 "EscapeCoder$StepRow" "packed" "[J") (by decide +kernel)
  have hl_19 := hts (.fieldLink RX5 19 "EscapeCoder$StepRow" "escapes" "I") (by decide +kernel)
  have hw_0fc290 := hts (.initialized RX7) (by decide +kernel)
  have hw_fcdcae := hts (.static yX7_grown) (by decide +kernel)
  have hg := gcap_le 20000 gr
  refine lv_aload_n hx hb dX5_add_0 rfl (lv_at hl 0 rfl) ?_
  refine va_get (D := D) (ci := 4) (v := .int (nI st.length)) (C := RX5) (T := TX5) (N := 3) hx hb hts hin_X5 hown hK hP 0 rfl rfl 1 (by decide) hl_15 (fun _ h9 => h9) rfl dX5_add_1 ?_
  refine lv_sipush (v := nI 20000) hx hb dX5_add_4 (by decide) ?_
  refine bn_ge (tgt := 89) hx hb dX5_add_7 (by decide) (by omega) (by omega) (fun h1 => ?_) (fun h1 => ?_)
  · exact absurd h1 (by omega)
  · refine lv_aload_n hx hb dX5_add_10 rfl (lv_at hl 0 rfl) ?_
    refine va_get (D := D) (ci := 4) (v := .int (nI st.length)) (C := RX5) (T := TX5) (N := 3) hx hb hts hin_X5 hown hK hP 0 rfl rfl 1 (by decide) hl_15 (fun _ h9 => h9) rfl dX5_add_11 ?_
    refine lv_aload_n hx hb dX5_add_14 rfl (lv_at hl 0 rfl) ?_
    refine va_get (D := D) (ci := 4) (v := .ref q) (C := RX5) (T := TX5) (N := 3) hx hb hts hin_X5 hown hK hP 0 rfl rfl 0 (by decide) hl_11 (fun _ h9 => h9) rfl dX5_add_15 ?_
    refine va_alen hx hb hK hP 1 1 rfl rfl (v := nI (gcap 20000 gr)) rfl dX5_add_18 ?_
    refine bn_lt (tgt := 43) hx hb dX5_add_19 (by decide) (by omega) (by omega) (fun h2 => ?_) (fun h2 => ?_)
    · refine lv_aload_n hx hb dX5_add_43 rfl (lv_at hl 0 rfl) ?_
      refine va_get (D := D) (ci := 4) (v := .ref q) (C := RX5) (T := TX5) (N := 3) hx hb hts hin_X5 hown hK hP 0 rfl rfl 0 (by decide) hl_11 (fun _ h9 => h9) rfl dX5_add_44 ?_
      refine lv_aload_n hx hb dX5_add_47 rfl (lv_at hl 0 rfl) ?_
      refine va_get (D := D) (ci := 4) (v := .int (nI st.length)) (C := RX5) (T := TX5) (N := 3) hx hb hts hin_X5 hown hK hP 0 rfl rfl 1 (by decide) hl_15 (fun _ h9 => h9) rfl dX5_add_48 ?_
      refine lv_iload_n hx hb dX5_add_51 rfl (lv_at hl 1 rfl) ?_
      refine lv_i2l (v := lN b) hx hb dX5_add_52 (nI_l (by omega)) ?_
      refine lv_iload_n hx hb dX5_add_53 rfl (lv_at hl 2 rfl) ?_
      refine lv_i2l (v := lN pa) hx hb dX5_add_54 (nI_l (by omega)) ?_
      refine lv_bipush (v := nI 20) hx hb dX5_add_55 (by decide) ?_
      refine lv_lshl (v := lN (pa * 1048576)) hx hb dX5_add_57 (shl20 pa) ?_
      refine lv_lor hx hb dX5_add_58 ?_
      refine tp_l (y := lN (b + pa * 1048576)) (g_or' (k := 20) (p := 1048576) (by decide) (by omega) (by omega)) ?_
      refine lv_iload_n hx hb dX5_add_59 rfl (lv_at hl 3 rfl) ?_
      refine lv_i2l (v := lN w) hx hb dX5_add_60 (nI_l (by omega)) ?_
      refine lv_bipush (v := nI 40) hx hb dX5_add_61 (by decide) ?_
      refine lv_lshl (v := lN (w * 1099511627776)) hx hb dX5_add_63 (shl40 w) ?_
      refine lv_lor hx hb dX5_add_64 ?_
      refine tp_l (y := lN (b + pa * 1048576 + w * 1099511627776)) (g_or' (k := 40) (p := 1099511627776) (by decide) (by omega) (by omega)) ?_
      refine lv_iload hx hb dX5_add_65 (lv_at hl 4 rfl) ?_
      refine lv_iconst (v := nI 1) hx hb dX5_add_67 (by decide) ?_
      refine lv_iadd hx hb dX5_add_68 ?_
      refine tp_i (y := nI o) (ho) ?_
      refine lv_i2l (v := lN o) hx hb dX5_add_69 (nI_l (by omega)) ?_
      refine lv_bipush (v := nI 60) hx hb dX5_add_70 (by decide) ?_
      refine lv_lshl (v := lN (o * 1152921504606846976)) hx hb dX5_add_72 (shl60 o) ?_
      refine lv_lor hx hb dX5_add_73 ?_
      refine tp_l (y := lN (b + pa * 1048576 + w * 1099511627776 + o * 1152921504606846976)) (g_or' (k := 60) (p := 1152921504606846976) (by decide) (by omega) (by omega)) ?_
      refine lv_iload hx hb dX5_add_74 (lv_at hl 5 rfl) ?_
      refine bb_eq (tgt := 83) hx hb dX5_add_76 (by decide) (fun h5 => ?_) (fun h5 => ?_)
      · subst h5
        refine lv_lconst (v := lN 0) hx hb dX5_add_83 (by decide) ?_
        refine lv_bipush (v := nI 62) hx hb dX5_add_84 (by decide) ?_
        refine lv_lshl (v := lN (0 * 4611686018427387904)) hx hb dX5_add_86 (shl62 0) ?_
        refine lv_lor hx hb dX5_add_87 ?_
        refine tp_l (y := lN (pkS (b, pa, w, o, false))) ((g_or' (k := 62) (p := 4611686018427387904) (by decide) (by omega) (by omega)).trans (pkS_f _ _ _ _)) ?_
        refine st_l hx hb hK hP hD hS 1 1 rfl rfl (j := st.length) (h2) (by have := gcap_le 20000 (gr + 1); omega) dX5_add_88 (fun H locs hP hD hS => ?_)
        have hP : va_P D vwCl [(a, .inr (4, [.ref q, .int (nI st.length), .int (nI (escN st))])), (q, .inl (ca 1, gcap 20000 gr, .inr (.inl (vp_updL f st.length (lN (pkS (b, pa, w, o, false)))))))] H := hP
        have hD : va_D A [(a, .inr (4, [.ref q, .int (nI st.length), .int (nI (escN st))])), (q, .inl (ca 1, gcap 20000 gr, .inr (.inl (vp_updL f st.length (lN (pkS (b, pa, w, o, false)))))))] := hD
        refine lv_aload_n hx hb dX5_add_89 rfl (lv_at hl 0 rfl) ?_
        refine lv_dup hx hb dX5_add_90 rfl ?_
        refine va_get (D := D) (ci := 4) (v := .int (nI st.length)) (C := RX5) (T := TX5) (N := 3) hx hb hts hin_X5 hown hK hP 0 rfl rfl 1 (by decide) hl_15 (fun _ h9 => h9) rfl dX5_add_91 ?_
        refine lv_iconst (v := nI 1) hx hb dX5_add_94 (by decide) ?_
        refine lv_iadd hx hb dX5_add_95 ?_
        refine tp_i (y := nI (st.length + 1)) (nI_1 _) ?_
        refine va_put (D := D) (ci := 4) (v := .int (nI (st.length + 1))) (ty := .int) (C := RX5) (T := TX5) (N := 3) hx hb hts hin_X5 tyX5 tyX5_ok nmX5 hown hK hP hD hS 0 rfl rfl 1 (by decide) hl_15 (fun _ h9 => h9) rfl (by decide +kernel) rfl rfl (Nat.le_of_ble_eq_true rfl) dX5_add_96 (fun H locs hP hD hS => ?_)
        have hP : va_P D vwCl [(a, .inr (4, [.ref q, .int (nI (st.length + 1)), .int (nI (escN st))])), (q, .inl (ca 1, gcap 20000 gr, .inr (.inl (vp_updL f st.length (lN (pkS (b, pa, w, o, false)))))))] H := hP
        have hD : va_D A [(a, .inr (4, [.ref q, .int (nI (st.length + 1)), .int (nI (escN st))])), (q, .inl (ca 1, gcap 20000 gr, .inr (.inl (vp_updL f st.length (lN (pkS (b, pa, w, o, false)))))))] := hD
        refine lv_iload hx hb dX5_add_99 (lv_at hl 5 rfl) ?_
        refine bb_eq (tgt := 114) hx hb dX5_add_101 (by decide) (fun h6 => ?_) (fun h6 => ?_)
        · have e3 : max gr (gN (st.length + 1)) = gr := gN_n h2 hm
          have hP : va_P D vwCl [(a, .inr (4, [.ref q, .int (nI (st ++ [(b, pa, w, o, false)]).length), .int (nI (escN (st ++ [(b, pa, w, o, false)])))])), (q, .inl (ca 1, gcap 20000 (max gr (gN (st.length + 1))), .inr (.inl (vp_updL f st.length (lN (pkS (b, pa, w, o, false)))))))] H := by rw [e3, escN_app, List.length_append, List.length_singleton]; exact hP
          have hD : va_D A [(a, .inr (4, [.ref q, .int (nI (st ++ [(b, pa, w, o, false)]).length), .int (nI (escN (st ++ [(b, pa, w, o, false)])))])), (q, .inl (ca 1, gcap 20000 (max gr (gN (st.length + 1))), .inr (.inl (vp_updL f st.length (lN (pkS (b, pa, w, o, false)))))))] := by rw [e3, escN_app, List.length_append, List.length_singleton]; exact hD
          exact rw_vret (u := (q, (vp_updL f st.length (lN (pkS (b, pa, w, o, false)))))) hx hb hr hlocks (SR_app (hB) rfl) (hP.sub [0, 1] rfl) (hD.sub [0, 1] (by decide) rfl) hS (Nat.zero_le _) (Nat.zero_le _) dX5_add_114
        · exact absurd h6 (by decide)
      · subst h5
        refine lv_lconst (v := lN 1) hx hb dX5_add_79 (by decide) ?_
        refine lv_goto (tgt := 84) hx hb dX5_add_80 (by decide) ?_
        refine lv_bipush (v := nI 62) hx hb dX5_add_84 (by decide) ?_
        refine lv_lshl (v := lN (1 * 4611686018427387904)) hx hb dX5_add_86 (shl62 1) ?_
        refine lv_lor hx hb dX5_add_87 ?_
        refine tp_l (y := lN (pkS (b, pa, w, o, true))) ((g_or' (k := 62) (p := 4611686018427387904) (by decide) (by omega) (by omega)).trans (pkS_t _ _ _ _)) ?_
        refine st_l hx hb hK hP hD hS 1 1 rfl rfl (j := st.length) (h2) (by have := gcap_le 20000 (gr + 1); omega) dX5_add_88 (fun H locs hP hD hS => ?_)
        have hP : va_P D vwCl [(a, .inr (4, [.ref q, .int (nI st.length), .int (nI (escN st))])), (q, .inl (ca 1, gcap 20000 gr, .inr (.inl (vp_updL f st.length (lN (pkS (b, pa, w, o, true)))))))] H := hP
        have hD : va_D A [(a, .inr (4, [.ref q, .int (nI st.length), .int (nI (escN st))])), (q, .inl (ca 1, gcap 20000 gr, .inr (.inl (vp_updL f st.length (lN (pkS (b, pa, w, o, true)))))))] := hD
        refine lv_aload_n hx hb dX5_add_89 rfl (lv_at hl 0 rfl) ?_
        refine lv_dup hx hb dX5_add_90 rfl ?_
        refine va_get (D := D) (ci := 4) (v := .int (nI st.length)) (C := RX5) (T := TX5) (N := 3) hx hb hts hin_X5 hown hK hP 0 rfl rfl 1 (by decide) hl_15 (fun _ h9 => h9) rfl dX5_add_91 ?_
        refine lv_iconst (v := nI 1) hx hb dX5_add_94 (by decide) ?_
        refine lv_iadd hx hb dX5_add_95 ?_
        refine tp_i (y := nI (st.length + 1)) (nI_1 _) ?_
        refine va_put (D := D) (ci := 4) (v := .int (nI (st.length + 1))) (ty := .int) (C := RX5) (T := TX5) (N := 3) hx hb hts hin_X5 tyX5 tyX5_ok nmX5 hown hK hP hD hS 0 rfl rfl 1 (by decide) hl_15 (fun _ h9 => h9) rfl (by decide +kernel) rfl rfl (Nat.le_of_ble_eq_true rfl) dX5_add_96 (fun H locs hP hD hS => ?_)
        have hP : va_P D vwCl [(a, .inr (4, [.ref q, .int (nI (st.length + 1)), .int (nI (escN st))])), (q, .inl (ca 1, gcap 20000 gr, .inr (.inl (vp_updL f st.length (lN (pkS (b, pa, w, o, true)))))))] H := hP
        have hD : va_D A [(a, .inr (4, [.ref q, .int (nI (st.length + 1)), .int (nI (escN st))])), (q, .inl (ca 1, gcap 20000 gr, .inr (.inl (vp_updL f st.length (lN (pkS (b, pa, w, o, true)))))))] := hD
        refine lv_iload hx hb dX5_add_99 (lv_at hl 5 rfl) ?_
        refine bb_eq (tgt := 114) hx hb dX5_add_101 (by decide) (fun h6 => ?_) (fun h6 => ?_)
        · exact absurd h6 (by decide)
        · refine lv_aload_n hx hb dX5_add_104 rfl (lv_at hl 0 rfl) ?_
          refine lv_dup hx hb dX5_add_105 rfl ?_
          refine va_get (D := D) (ci := 4) (v := .int (nI (escN st))) (C := RX5) (T := TX5) (N := 3) hx hb hts hin_X5 hown hK hP 0 rfl rfl 2 (by decide) hl_19 (fun _ h9 => h9) rfl dX5_add_106 ?_
          refine lv_iconst (v := nI 1) hx hb dX5_add_109 (by decide) ?_
          refine lv_iadd hx hb dX5_add_110 ?_
          refine tp_i (y := nI (escN st + 1)) (nI_1 _) ?_
          refine va_put (D := D) (ci := 4) (v := .int (nI (escN st + 1))) (ty := .int) (C := RX5) (T := TX5) (N := 3) hx hb hts hin_X5 tyX5 tyX5_ok nmX5 hown hK hP hD hS 0 rfl rfl 2 (by decide) hl_19 (fun _ h9 => h9) rfl (by decide +kernel) rfl rfl (Nat.le_of_ble_eq_true rfl) dX5_add_111 (fun H locs hP hD hS => ?_)
          have hP : va_P D vwCl [(a, .inr (4, [.ref q, .int (nI (st.length + 1)), .int (nI (escN st + 1))])), (q, .inl (ca 1, gcap 20000 gr, .inr (.inl (vp_updL f st.length (lN (pkS (b, pa, w, o, true)))))))] H := hP
          have hD : va_D A [(a, .inr (4, [.ref q, .int (nI (st.length + 1)), .int (nI (escN st + 1))])), (q, .inl (ca 1, gcap 20000 gr, .inr (.inl (vp_updL f st.length (lN (pkS (b, pa, w, o, true)))))))] := hD
          have e3 : max gr (gN (st.length + 1)) = gr := gN_n h2 hm
          have hP : va_P D vwCl [(a, .inr (4, [.ref q, .int (nI (st ++ [(b, pa, w, o, true)]).length), .int (nI (escN (st ++ [(b, pa, w, o, true)])))])), (q, .inl (ca 1, gcap 20000 (max gr (gN (st.length + 1))), .inr (.inl (vp_updL f st.length (lN (pkS (b, pa, w, o, true)))))))] H := by rw [e3, escN_app, List.length_append, List.length_singleton]; exact hP
          have hD : va_D A [(a, .inr (4, [.ref q, .int (nI (st ++ [(b, pa, w, o, true)]).length), .int (nI (escN (st ++ [(b, pa, w, o, true)])))])), (q, .inl (ca 1, gcap 20000 (max gr (gN (st.length + 1))), .inr (.inl (vp_updL f st.length (lN (pkS (b, pa, w, o, true)))))))] := by rw [e3, escN_app, List.length_append, List.length_singleton]; exact hD
          exact rw_vret (u := (q, (vp_updL f st.length (lN (pkS (b, pa, w, o, true)))))) hx hb hr hlocks (SR_app (hB) rfl) (hP.sub [0, 1] rfl) (hD.sub [0, 1] (by decide) rfl) hS (Nat.zero_le _) (Nat.zero_le _) dX5_add_114
    · have e9 : max gr (gN (st.length + 1)) = gr + 1 := gN_y hL h2 hm
      refine lv_aload_n hx hb dX5_add_22 rfl (lv_at hl 0 rfl) ?_
      refine lv_aload_n hx hb dX5_add_23 rfl (lv_at hl 0 rfl) ?_
      refine va_get (D := D) (ci := 4) (v := .ref q) (C := RX5) (T := TX5) (N := 3) hx hb hts hin_X5 hown hK hP 0 rfl rfl 0 (by decide) hl_11 (fun _ h9 => h9) rfl dX5_add_24 ?_
      refine lv_aload_n hx hb dX5_add_27 rfl (lv_at hl 0 rfl) ?_
      refine va_get (D := D) (ci := 4) (v := .int (nI st.length)) (C := RX5) (T := TX5) (N := 3) hx hb hts hin_X5 hown hK hP 0 rfl rfl 1 (by decide) hl_15 (fun _ h9 => h9) rfl dX5_add_28 ?_
      refine lv_sipush (v := nI 20000) hx hb dX5_add_31 (by decide) ?_
      refine vp_callSi (va_Run.run (va_runSN (As := [.int (nI st.length), .int (nI 20000)]) (rest := [.ref q, .ref a]) ⟨hx, hb, hml, hown, hts⟩ (c_grown l D ca st.length 20000 (by omega) (by decide)) ⟨va_cnB 2 hts gX5_add_X7_grown_n22 rfl rfl rfl (nw_X5_22 hN) hw_0fc290 (by decide +kernel) ⟨Nat.le_of_ble_eq_true rfl, Nat.le_of_ble_eq_true rfl⟩, hw_fcdcae, trivial⟩ ⟨roP_blind, roP_at hK hN (hP.sub [] rfl)⟩ rfl rfl hl.1 rfl (lv_room (Nat.le_of_ble_eq_true rfl)) dX5_add_34 ⟨Nat.zero_le _, Nat.zero_le _⟩)) (fun r_1 hq => ?_)
      subst hq
      refine tp_i (y := nI (gcap 20000 (gr + 1))) (by rw [gcap_succ hL h2 hm]) ?_
      refine rw_callr (wc := [(q, .inl (ca 1, gcap 20000 gr, .inr (.inl f)))]) (wr := [(a, .inr (4, [.ref q, .int (nI st.length), .int (nI (escN st))]))]) hP hD hS hA [1] [0] rfl rfl (by decide) (by decide) (va_runS (As := [.ref q, .int (nI (gcap 20000 (gr + 1)))]) (rest := [.ref a]) ⟨hx, hb, hml, hown, hts⟩ (c_copyJ l D ca q (gcap 20000 gr) (gcap 20000 (gr + 1)) f (by omega) (by have := gcap_le 20000 (gr + 1); omega) (gcap_ne (by decide) (by omega)) s.heap.size) (va_cwS 2 hts gX5_add_J7_copyOf_c38d5 rfl rfl rfl (by decide +kernel) ⟨Nat.le_of_ble_eq_true rfl, Nat.le_of_ble_eq_true rfl⟩) ⟨rwP_blind, rwP_at hK hN (hP.sub [1] rfl) (hD.sub [1] (by decide) rfl)⟩ rfl rfl hl.1 rfl (lv_room (Nat.le_of_ble_eq_true rfl)) dX5_add_37 ⟨by show 0 + 1 ≤ max gr (gN (st.length + 1)) - gr; omega, by show 0 + 20000 ≤ 20000 * (max gr (gN (st.length + 1)) - gr); omega⟩) (fun r_2 u H locs hq hP hD hS => ?_)
      obtain ⟨q1_3, rfl⟩ : ∃ z, z = u := ⟨_, rfl⟩
      try dsimp only at hq
      have hP : va_P D vwCl [(a, .inr (4, [.ref q, .int (nI st.length), .int (nI (escN st))])), (q, .inl (ca 1, gcap 20000 gr, .inr (.inl f))), (q1_3, .inl (ca 1, gcap 20000 (gr + 1), .inr (.inl (va_cpy f (fun _ => 0) 0 0 (min (gcap 20000 gr) (gcap 20000 (gr + 1)))))))] H := hP
      have hD : va_D A [(a, .inr (4, [.ref q, .int (nI st.length), .int (nI (escN st))])), (q, .inl (ca 1, gcap 20000 gr, .inr (.inl f))), (q1_3, .inl (ca 1, gcap 20000 (gr + 1), .inr (.inl (va_cpy f (fun _ => 0) 0 0 (min (gcap 20000 gr) (gcap 20000 (gr + 1)))))))] := hD
      subst hq
      refine va_put (D := D) (ci := 4) (v := .ref r_2) (ty := (.array .long)) (C := RX5) (T := TX5) (N := 3) hx hb hts hin_X5 tyX5 tyX5_ok nmX5 hown hK hP hD hS 0 rfl rfl 0 (by decide) hl_11 (fun _ h9 => h9) rfl (by decide +kernel) rfl rfl (Nat.le_of_ble_eq_true rfl) dX5_add_40 (fun H locs hP hD hS => ?_)
      have hP : va_P D vwCl [(a, .inr (4, [.ref r_2, .int (nI st.length), .int (nI (escN st))])), (q, .inl (ca 1, gcap 20000 gr, .inr (.inl f))), (r_2, .inl (ca 1, gcap 20000 (gr + 1), .inr (.inl (va_cpy f (fun _ => 0) 0 0 (min (gcap 20000 gr) (gcap 20000 (gr + 1)))))))] H := hP
      have hD : va_D A [(a, .inr (4, [.ref r_2, .int (nI st.length), .int (nI (escN st))])), (q, .inl (ca 1, gcap 20000 gr, .inr (.inl f))), (r_2, .inl (ca 1, gcap 20000 (gr + 1), .inr (.inl (va_cpy f (fun _ => 0) 0 0 (min (gcap 20000 gr) (gcap 20000 (gr + 1)))))))] := hD
      refine lv_aload_n hx hb dX5_add_43 rfl (lv_at hl 0 rfl) ?_
      refine va_get (D := D) (ci := 4) (v := .ref r_2) (C := RX5) (T := TX5) (N := 3) hx hb hts hin_X5 hown hK hP 0 rfl rfl 0 (by decide) hl_11 (fun _ h9 => h9) rfl dX5_add_44 ?_
      refine lv_aload_n hx hb dX5_add_47 rfl (lv_at hl 0 rfl) ?_
      refine va_get (D := D) (ci := 4) (v := .int (nI st.length)) (C := RX5) (T := TX5) (N := 3) hx hb hts hin_X5 hown hK hP 0 rfl rfl 1 (by decide) hl_15 (fun _ h9 => h9) rfl dX5_add_48 ?_
      refine lv_iload_n hx hb dX5_add_51 rfl (lv_at hl 1 rfl) ?_
      refine lv_i2l (v := lN b) hx hb dX5_add_52 (nI_l (by omega)) ?_
      refine lv_iload_n hx hb dX5_add_53 rfl (lv_at hl 2 rfl) ?_
      refine lv_i2l (v := lN pa) hx hb dX5_add_54 (nI_l (by omega)) ?_
      refine lv_bipush (v := nI 20) hx hb dX5_add_55 (by decide) ?_
      refine lv_lshl (v := lN (pa * 1048576)) hx hb dX5_add_57 (shl20 pa) ?_
      refine lv_lor hx hb dX5_add_58 ?_
      refine tp_l (y := lN (b + pa * 1048576)) (g_or' (k := 20) (p := 1048576) (by decide) (by omega) (by omega)) ?_
      refine lv_iload_n hx hb dX5_add_59 rfl (lv_at hl 3 rfl) ?_
      refine lv_i2l (v := lN w) hx hb dX5_add_60 (nI_l (by omega)) ?_
      refine lv_bipush (v := nI 40) hx hb dX5_add_61 (by decide) ?_
      refine lv_lshl (v := lN (w * 1099511627776)) hx hb dX5_add_63 (shl40 w) ?_
      refine lv_lor hx hb dX5_add_64 ?_
      refine tp_l (y := lN (b + pa * 1048576 + w * 1099511627776)) (g_or' (k := 40) (p := 1099511627776) (by decide) (by omega) (by omega)) ?_
      refine lv_iload hx hb dX5_add_65 (lv_at hl 4 rfl) ?_
      refine lv_iconst (v := nI 1) hx hb dX5_add_67 (by decide) ?_
      refine lv_iadd hx hb dX5_add_68 ?_
      refine tp_i (y := nI o) (ho) ?_
      refine lv_i2l (v := lN o) hx hb dX5_add_69 (nI_l (by omega)) ?_
      refine lv_bipush (v := nI 60) hx hb dX5_add_70 (by decide) ?_
      refine lv_lshl (v := lN (o * 1152921504606846976)) hx hb dX5_add_72 (shl60 o) ?_
      refine lv_lor hx hb dX5_add_73 ?_
      refine tp_l (y := lN (b + pa * 1048576 + w * 1099511627776 + o * 1152921504606846976)) (g_or' (k := 60) (p := 1152921504606846976) (by decide) (by omega) (by omega)) ?_
      refine lv_iload hx hb dX5_add_74 (lv_at hl 5 rfl) ?_
      refine bb_eq (tgt := 83) hx hb dX5_add_76 (by decide) (fun h5 => ?_) (fun h5 => ?_)
      · subst h5
        refine lv_lconst (v := lN 0) hx hb dX5_add_83 (by decide) ?_
        refine lv_bipush (v := nI 62) hx hb dX5_add_84 (by decide) ?_
        refine lv_lshl (v := lN (0 * 4611686018427387904)) hx hb dX5_add_86 (shl62 0) ?_
        refine lv_lor hx hb dX5_add_87 ?_
        refine tp_l (y := lN (pkS (b, pa, w, o, false))) ((g_or' (k := 62) (p := 4611686018427387904) (by decide) (by omega) (by omega)).trans (pkS_f _ _ _ _)) ?_
        refine st_l hx hb hK hP hD hS 2 1 rfl rfl (j := st.length) (by have := gcap_up hL h2 hm; omega) (by have := gcap_le 20000 (gr + 1); omega) dX5_add_88 (fun H locs hP hD hS => ?_)
        have hP : va_P D vwCl [(a, .inr (4, [.ref r_2, .int (nI st.length), .int (nI (escN st))])), (q, .inl (ca 1, gcap 20000 gr, .inr (.inl f))), (r_2, .inl (ca 1, gcap 20000 (gr + 1), .inr (.inl (vp_updL (va_cpy f (fun _ => 0) 0 0 (min (gcap 20000 gr) (gcap 20000 (gr + 1)))) st.length (lN (pkS (b, pa, w, o, false)))))))] H := hP
        have hD : va_D A [(a, .inr (4, [.ref r_2, .int (nI st.length), .int (nI (escN st))])), (q, .inl (ca 1, gcap 20000 gr, .inr (.inl f))), (r_2, .inl (ca 1, gcap 20000 (gr + 1), .inr (.inl (vp_updL (va_cpy f (fun _ => 0) 0 0 (min (gcap 20000 gr) (gcap 20000 (gr + 1)))) st.length (lN (pkS (b, pa, w, o, false)))))))] := hD
        refine lv_aload_n hx hb dX5_add_89 rfl (lv_at hl 0 rfl) ?_
        refine lv_dup hx hb dX5_add_90 rfl ?_
        refine va_get (D := D) (ci := 4) (v := .int (nI st.length)) (C := RX5) (T := TX5) (N := 3) hx hb hts hin_X5 hown hK hP 0 rfl rfl 1 (by decide) hl_15 (fun _ h9 => h9) rfl dX5_add_91 ?_
        refine lv_iconst (v := nI 1) hx hb dX5_add_94 (by decide) ?_
        refine lv_iadd hx hb dX5_add_95 ?_
        refine tp_i (y := nI (st.length + 1)) (nI_1 _) ?_
        refine va_put (D := D) (ci := 4) (v := .int (nI (st.length + 1))) (ty := .int) (C := RX5) (T := TX5) (N := 3) hx hb hts hin_X5 tyX5 tyX5_ok nmX5 hown hK hP hD hS 0 rfl rfl 1 (by decide) hl_15 (fun _ h9 => h9) rfl (by decide +kernel) rfl rfl (Nat.le_of_ble_eq_true rfl) dX5_add_96 (fun H locs hP hD hS => ?_)
        have hP : va_P D vwCl [(a, .inr (4, [.ref r_2, .int (nI (st.length + 1)), .int (nI (escN st))])), (q, .inl (ca 1, gcap 20000 gr, .inr (.inl f))), (r_2, .inl (ca 1, gcap 20000 (gr + 1), .inr (.inl (vp_updL (va_cpy f (fun _ => 0) 0 0 (min (gcap 20000 gr) (gcap 20000 (gr + 1)))) st.length (lN (pkS (b, pa, w, o, false)))))))] H := hP
        have hD : va_D A [(a, .inr (4, [.ref r_2, .int (nI (st.length + 1)), .int (nI (escN st))])), (q, .inl (ca 1, gcap 20000 gr, .inr (.inl f))), (r_2, .inl (ca 1, gcap 20000 (gr + 1), .inr (.inl (vp_updL (va_cpy f (fun _ => 0) 0 0 (min (gcap 20000 gr) (gcap 20000 (gr + 1)))) st.length (lN (pkS (b, pa, w, o, false)))))))] := hD
        refine lv_iload hx hb dX5_add_99 (lv_at hl 5 rfl) ?_
        refine bb_eq (tgt := 114) hx hb dX5_add_101 (by decide) (fun h6 => ?_) (fun h6 => ?_)
        · have e3 : max gr (gN (st.length + 1)) = gr + 1 := e9
          have hP : va_P D vwCl [(a, .inr (4, [.ref r_2, .int (nI (st ++ [(b, pa, w, o, false)]).length), .int (nI (escN (st ++ [(b, pa, w, o, false)])))])), (q, .inl (ca 1, gcap 20000 gr, .inr (.inl f))), (r_2, .inl (ca 1, gcap 20000 (max gr (gN (st.length + 1))), .inr (.inl (vp_updL (va_cpy f (fun _ => 0) 0 0 (min (gcap 20000 gr) (gcap 20000 (gr + 1)))) st.length (lN (pkS (b, pa, w, o, false)))))))] H := by rw [e3, escN_app, List.length_append, List.length_singleton]; exact hP
          have hD : va_D A [(a, .inr (4, [.ref r_2, .int (nI (st ++ [(b, pa, w, o, false)]).length), .int (nI (escN (st ++ [(b, pa, w, o, false)])))])), (q, .inl (ca 1, gcap 20000 gr, .inr (.inl f))), (r_2, .inl (ca 1, gcap 20000 (max gr (gN (st.length + 1))), .inr (.inl (vp_updL (va_cpy f (fun _ => 0) 0 0 (min (gcap 20000 gr) (gcap 20000 (gr + 1)))) st.length (lN (pkS (b, pa, w, o, false)))))))] := by rw [e3, escN_app, List.length_append, List.length_singleton]; exact hD
          exact rw_vret (u := (r_2, (vp_updL (va_cpy f (fun _ => 0) 0 0 (min (gcap 20000 gr) (gcap 20000 (gr + 1)))) st.length (lN (pkS (b, pa, w, o, false)))))) hx hb hr hlocks (SR_app (SR_cpy hB (by have := gcap_up hL h2 hm; omega)) rfl) (hP.sub [0, 2] rfl) (hD.sub [0, 2] (by decide) rfl) hS (by omega) (by omega) dX5_add_114
        · exact absurd h6 (by decide)
      · subst h5
        refine lv_lconst (v := lN 1) hx hb dX5_add_79 (by decide) ?_
        refine lv_goto (tgt := 84) hx hb dX5_add_80 (by decide) ?_
        refine lv_bipush (v := nI 62) hx hb dX5_add_84 (by decide) ?_
        refine lv_lshl (v := lN (1 * 4611686018427387904)) hx hb dX5_add_86 (shl62 1) ?_
        refine lv_lor hx hb dX5_add_87 ?_
        refine tp_l (y := lN (pkS (b, pa, w, o, true))) ((g_or' (k := 62) (p := 4611686018427387904) (by decide) (by omega) (by omega)).trans (pkS_t _ _ _ _)) ?_
        refine st_l hx hb hK hP hD hS 2 1 rfl rfl (j := st.length) (by have := gcap_up hL h2 hm; omega) (by have := gcap_le 20000 (gr + 1); omega) dX5_add_88 (fun H locs hP hD hS => ?_)
        have hP : va_P D vwCl [(a, .inr (4, [.ref r_2, .int (nI st.length), .int (nI (escN st))])), (q, .inl (ca 1, gcap 20000 gr, .inr (.inl f))), (r_2, .inl (ca 1, gcap 20000 (gr + 1), .inr (.inl (vp_updL (va_cpy f (fun _ => 0) 0 0 (min (gcap 20000 gr) (gcap 20000 (gr + 1)))) st.length (lN (pkS (b, pa, w, o, true)))))))] H := hP
        have hD : va_D A [(a, .inr (4, [.ref r_2, .int (nI st.length), .int (nI (escN st))])), (q, .inl (ca 1, gcap 20000 gr, .inr (.inl f))), (r_2, .inl (ca 1, gcap 20000 (gr + 1), .inr (.inl (vp_updL (va_cpy f (fun _ => 0) 0 0 (min (gcap 20000 gr) (gcap 20000 (gr + 1)))) st.length (lN (pkS (b, pa, w, o, true)))))))] := hD
        refine lv_aload_n hx hb dX5_add_89 rfl (lv_at hl 0 rfl) ?_
        refine lv_dup hx hb dX5_add_90 rfl ?_
        refine va_get (D := D) (ci := 4) (v := .int (nI st.length)) (C := RX5) (T := TX5) (N := 3) hx hb hts hin_X5 hown hK hP 0 rfl rfl 1 (by decide) hl_15 (fun _ h9 => h9) rfl dX5_add_91 ?_
        refine lv_iconst (v := nI 1) hx hb dX5_add_94 (by decide) ?_
        refine lv_iadd hx hb dX5_add_95 ?_
        refine tp_i (y := nI (st.length + 1)) (nI_1 _) ?_
        refine va_put (D := D) (ci := 4) (v := .int (nI (st.length + 1))) (ty := .int) (C := RX5) (T := TX5) (N := 3) hx hb hts hin_X5 tyX5 tyX5_ok nmX5 hown hK hP hD hS 0 rfl rfl 1 (by decide) hl_15 (fun _ h9 => h9) rfl (by decide +kernel) rfl rfl (Nat.le_of_ble_eq_true rfl) dX5_add_96 (fun H locs hP hD hS => ?_)
        have hP : va_P D vwCl [(a, .inr (4, [.ref r_2, .int (nI (st.length + 1)), .int (nI (escN st))])), (q, .inl (ca 1, gcap 20000 gr, .inr (.inl f))), (r_2, .inl (ca 1, gcap 20000 (gr + 1), .inr (.inl (vp_updL (va_cpy f (fun _ => 0) 0 0 (min (gcap 20000 gr) (gcap 20000 (gr + 1)))) st.length (lN (pkS (b, pa, w, o, true)))))))] H := hP
        have hD : va_D A [(a, .inr (4, [.ref r_2, .int (nI (st.length + 1)), .int (nI (escN st))])), (q, .inl (ca 1, gcap 20000 gr, .inr (.inl f))), (r_2, .inl (ca 1, gcap 20000 (gr + 1), .inr (.inl (vp_updL (va_cpy f (fun _ => 0) 0 0 (min (gcap 20000 gr) (gcap 20000 (gr + 1)))) st.length (lN (pkS (b, pa, w, o, true)))))))] := hD
        refine lv_iload hx hb dX5_add_99 (lv_at hl 5 rfl) ?_
        refine bb_eq (tgt := 114) hx hb dX5_add_101 (by decide) (fun h6 => ?_) (fun h6 => ?_)
        · exact absurd h6 (by decide)
        · refine lv_aload_n hx hb dX5_add_104 rfl (lv_at hl 0 rfl) ?_
          refine lv_dup hx hb dX5_add_105 rfl ?_
          refine va_get (D := D) (ci := 4) (v := .int (nI (escN st))) (C := RX5) (T := TX5) (N := 3) hx hb hts hin_X5 hown hK hP 0 rfl rfl 2 (by decide) hl_19 (fun _ h9 => h9) rfl dX5_add_106 ?_
          refine lv_iconst (v := nI 1) hx hb dX5_add_109 (by decide) ?_
          refine lv_iadd hx hb dX5_add_110 ?_
          refine tp_i (y := nI (escN st + 1)) (nI_1 _) ?_
          refine va_put (D := D) (ci := 4) (v := .int (nI (escN st + 1))) (ty := .int) (C := RX5) (T := TX5) (N := 3) hx hb hts hin_X5 tyX5 tyX5_ok nmX5 hown hK hP hD hS 0 rfl rfl 2 (by decide) hl_19 (fun _ h9 => h9) rfl (by decide +kernel) rfl rfl (Nat.le_of_ble_eq_true rfl) dX5_add_111 (fun H locs hP hD hS => ?_)
          have hP : va_P D vwCl [(a, .inr (4, [.ref r_2, .int (nI (st.length + 1)), .int (nI (escN st + 1))])), (q, .inl (ca 1, gcap 20000 gr, .inr (.inl f))), (r_2, .inl (ca 1, gcap 20000 (gr + 1), .inr (.inl (vp_updL (va_cpy f (fun _ => 0) 0 0 (min (gcap 20000 gr) (gcap 20000 (gr + 1)))) st.length (lN (pkS (b, pa, w, o, true)))))))] H := hP
          have hD : va_D A [(a, .inr (4, [.ref r_2, .int (nI (st.length + 1)), .int (nI (escN st + 1))])), (q, .inl (ca 1, gcap 20000 gr, .inr (.inl f))), (r_2, .inl (ca 1, gcap 20000 (gr + 1), .inr (.inl (vp_updL (va_cpy f (fun _ => 0) 0 0 (min (gcap 20000 gr) (gcap 20000 (gr + 1)))) st.length (lN (pkS (b, pa, w, o, true)))))))] := hD
          have e3 : max gr (gN (st.length + 1)) = gr + 1 := e9
          have hP : va_P D vwCl [(a, .inr (4, [.ref r_2, .int (nI (st ++ [(b, pa, w, o, true)]).length), .int (nI (escN (st ++ [(b, pa, w, o, true)])))])), (q, .inl (ca 1, gcap 20000 gr, .inr (.inl f))), (r_2, .inl (ca 1, gcap 20000 (max gr (gN (st.length + 1))), .inr (.inl (vp_updL (va_cpy f (fun _ => 0) 0 0 (min (gcap 20000 gr) (gcap 20000 (gr + 1)))) st.length (lN (pkS (b, pa, w, o, true)))))))] H := by rw [e3, escN_app, List.length_append, List.length_singleton]; exact hP
          have hD : va_D A [(a, .inr (4, [.ref r_2, .int (nI (st ++ [(b, pa, w, o, true)]).length), .int (nI (escN (st ++ [(b, pa, w, o, true)])))])), (q, .inl (ca 1, gcap 20000 gr, .inr (.inl f))), (r_2, .inl (ca 1, gcap 20000 (max gr (gN (st.length + 1))), .inr (.inl (vp_updL (va_cpy f (fun _ => 0) 0 0 (min (gcap 20000 gr) (gcap 20000 (gr + 1)))) st.length (lN (pkS (b, pa, w, o, true)))))))] := by rw [e3, escN_app, List.length_append, List.length_singleton]; exact hD
          exact rw_vret (u := (r_2, (vp_updL (va_cpy f (fun _ => 0) 0 0 (min (gcap 20000 gr) (gcap 20000 (gr + 1)))) st.length (lN (pkS (b, pa, w, o, true)))))) hx hb hr hlocks (SR_app (SR_cpy hB (by have := gcap_up hL h2 hm; omega)) rfl) (hP.sub [0, 2] rfl) (hD.sub [0, 2] (by decide) rfl) hS (by omega) (by omega) dX5_add_114

set_option maxHeartbeats 4000000 in
set_option maxRecDepth 100000 in
theorem c_SR_answer (l : Launch) (D : va_G) (ca : Nat → ClassId) (a : Nat) (q : Nat) (gr : Nat) (f : Nat → Int64) (st : List Stq) (i : Int32) (w : Int32) (hB : SR f st) (hL : st.length ≤ gcap 20000 gr) (hm : st.length < 20000) (hs : ∀ x ∈ st, okS x) : Met l yX5_answer wsX5_answer { frames := 0, cells := 0, slots := 0, locals := 0 } (roP D vwCl (ATy ca) [(a, .inr (4, [.ref q, .int (nI st.length), .int (nI (escN st))])), (q, .inl (ca 1, gcap 20000 gr, .inr (.inl f)))] [.ref a, .int i, .int w]) (vp_Si (fun r : Int32 => r = stepI st i w)) 0 0 (fun _ => False) := by
  refine ro_enter (by decide) rfl (Nat.le_of_ble_eq_true rfl) ?_
  intro p e s m below meth c ls C hK hN hP hl
  obtain ⟨hx, hb, hr, hml, hown, hlocks, hts⟩ := C
  have hl : lv_has ls 5 [(0, .ref a), (1, .int i), (2, .int w)] := hl
  have hin_X5 : ∀ w ∈ wsX50, w ∈ wsX5_answer := by decide +kernel
  have hl_15 := hts (.fieldLink RX5 15 "EscapeCoder$StepRow" "made" "I") (by decide +kernel)
  have hl_11 := hts (.fieldLink RX5 11 "EscapeCoder$StepRow" "packed" "[J") (by decide +kernel)
  have hw_b5f9ee := hts (.constantLong RX5 32 (lN 1048575)) (by decide +kernel)
  have hw_4f6e2f := hts (.constantLong RX5 34 (lN 3)) (by decide +kernel)
  have hg := gcap_le 20000 gr
  refine lv_iload_n hx hb dX5_answer_0 rfl (lv_at hl 1 rfl) ?_
  refine lv_if_lt (tgt := 19) hx hb dX5_answer_1 (by decide) (fun h1 => ?_) (fun h1 => ?_)
  · refine lv_bipush (v := (-2)) hx hb dX5_answer_19 (by decide) ?_
    exact ro_iret hx hb hr hlocks ((stepI_neg h1).symm) dX5_answer_21
  · obtain ⟨j, hj, rfl⟩ := nI_of h1
    refine lv_iload_n hx hb dX5_answer_4 rfl (lv_at hl 1 rfl) ?_
    refine lv_aload_n hx hb dX5_answer_5 rfl (lv_at hl 0 rfl) ?_
    refine va_get (D := D) (ci := 4) (v := .int (nI st.length)) (C := RX5) (T := TX5) (N := 3) hx hb hts hin_X5 hown hK hP 0 rfl rfl 1 (by decide) hl_15 (fun _ h9 => h9) rfl dX5_answer_6 ?_
    refine bn_ge (tgt := 19) hx hb dX5_answer_9 (by decide) (by omega) (by omega) (fun h2 => ?_) (fun h2 => ?_)
    · refine lv_bipush (v := (-2)) hx hb dX5_answer_19 (by decide) ?_
      exact ro_iret hx hb hr hlocks ((stepI_big hj h2).symm) dX5_answer_21
    · refine lv_iload_n hx hb dX5_answer_12 rfl (lv_at hl 1 rfl) ?_
      refine lv_sipush (v := nI 20000) hx hb dX5_answer_13 (by decide) ?_
      refine bn_lt (tgt := 22) hx hb dX5_answer_16 (by decide) (by omega) (by omega) (fun h3 => ?_) (fun h3 => ?_)
      · refine lv_aload_n hx hb dX5_answer_22 rfl (lv_at hl 0 rfl) ?_
        refine va_get (D := D) (ci := 4) (v := .ref q) (C := RX5) (T := TX5) (N := 3) hx hb hts hin_X5 hown hK hP 0 rfl rfl 0 (by decide) hl_11 (fun _ h9 => h9) rfl dX5_answer_23 ?_
        refine lv_iload_n hx hb dX5_answer_26 rfl (lv_at hl 1 rfl) ?_
        refine ld_l hx hb hK hP 1 1 rfl rfl (j := j) (by omega) (by omega) dX5_answer_27 ?_
        have hx0 : okS (st.getD j sD) := hs _ (by exact getD_mem h2)
        have hlt := pkS_lt hx0
        refine tp_l (y := lN (pkS (st.getD j sD))) (hB j h2) ?_
        refine lv_lstore_n (lv' := [(3, .long (lN (pkS (st.getD j sD)))), (0, .ref a), (1, .int (nI j)), (2, .int w)]) hx hb dX5_answer_28 rfl hl (by decide) rfl (fun ls hl => ?_)
        refine lv_iload_n hx hb dX5_answer_29 rfl (lv_at hl 3 rfl) ?_
        by_cases e0 : w.toInt = 0
        · refine lv_tableIn (tgt := 64) hx hb dX5_answer_30 (by rw [e0]; decide) (by rw [e0]; decide) (by rw [e0]; rfl) (by decide) ?_
          refine lv_lload_n hx hb dX5_answer_64 rfl (lv_at hl 0 rfl) ?_
          refine lv_ldc2 (v := lN 1048575) hx hb hown hw_b5f9ee dX5_answer_65 ?_
          refine lv_land hx hb dX5_answer_68 ?_
          refine tp_l (y := lN (pkS (st.getD j sD) % 1048576)) (g_mask (s := 20) (p := 1048576) (by decide) (by decide) (by omega)) ?_
          refine lv_l2i (v := nI (pkS (st.getD j sD) % 1048576)) hx hb dX5_answer_69 (lN_i _) ?_
          exact ro_iret hx hb hr hlocks (by rw [stepI_in hj h2]; unfold stepV; rw [if_pos e0]; exact congrArg nI (pkS_0 hx0)) dX5_answer_70
        · by_cases e1 : w.toInt = 1
          · refine lv_tableIn (tgt := 71) hx hb dX5_answer_30 (by rw [e1]; decide) (by rw [e1]; decide) (by rw [e1]; rfl) (by decide) ?_
            refine lv_lload_n hx hb dX5_answer_71 rfl (lv_at hl 0 rfl) ?_
            refine lv_bipush (v := nI 20) hx hb dX5_answer_72 (by decide) ?_
            refine lv_lushr (v := lN (pkS (st.getD j sD) / 1048576)) hx hb dX5_answer_74 (shr20 (by omega)) ?_
            refine lv_ldc2 (v := lN 1048575) hx hb hown hw_b5f9ee dX5_answer_75 ?_
            refine lv_land hx hb dX5_answer_78 ?_
            refine tp_l (y := lN (pkS (st.getD j sD) / 1048576 % 1048576)) (g_mask (s := 20) (p := 1048576) (by decide) (by decide) (by omega)) ?_
            refine lv_l2i (v := nI (pkS (st.getD j sD) / 1048576 % 1048576)) hx hb dX5_answer_79 (lN_i _) ?_
            exact ro_iret hx hb hr hlocks (by rw [stepI_in hj h2]; unfold stepV; rw [if_neg e0]; rw [if_pos e1]; exact congrArg nI (pkS_1 hx0)) dX5_answer_80
          · by_cases e2 : w.toInt = 2
            · refine lv_tableIn (tgt := 81) hx hb dX5_answer_30 (by rw [e2]; decide) (by rw [e2]; decide) (by rw [e2]; rfl) (by decide) ?_
              refine lv_lload_n hx hb dX5_answer_81 rfl (lv_at hl 0 rfl) ?_
              refine lv_bipush (v := nI 40) hx hb dX5_answer_82 (by decide) ?_
              refine lv_lushr (v := lN (pkS (st.getD j sD) / 1099511627776)) hx hb dX5_answer_84 (shr40 (by omega)) ?_
              refine lv_ldc2 (v := lN 1048575) hx hb hown hw_b5f9ee dX5_answer_85 ?_
              refine lv_land hx hb dX5_answer_88 ?_
              refine tp_l (y := lN (pkS (st.getD j sD) / 1099511627776 % 1048576)) (g_mask (s := 20) (p := 1048576) (by decide) (by decide) (by omega)) ?_
              refine lv_l2i (v := nI (pkS (st.getD j sD) / 1099511627776 % 1048576)) hx hb dX5_answer_89 (lN_i _) ?_
              exact ro_iret hx hb hr hlocks (by rw [stepI_in hj h2]; unfold stepV; rw [if_neg e0]; rw [if_neg e1]; rw [if_pos e2]; exact congrArg nI (pkS_2 hx0)) dX5_answer_90
            · by_cases e3 : w.toInt = 3
              · refine lv_tableIn (tgt := 91) hx hb dX5_answer_30 (by rw [e3]; decide) (by rw [e3]; decide) (by rw [e3]; rfl) (by decide) ?_
                refine lv_lload_n hx hb dX5_answer_91 rfl (lv_at hl 0 rfl) ?_
                refine lv_bipush (v := nI 60) hx hb dX5_answer_92 (by decide) ?_
                refine lv_lushr (v := lN (pkS (st.getD j sD) / 1152921504606846976)) hx hb dX5_answer_94 (shr60 (by omega)) ?_
                refine lv_ldc2 (v := lN 3) hx hb hown hw_4f6e2f dX5_answer_95 ?_
                refine lv_land hx hb dX5_answer_98 ?_
                refine tp_l (y := lN (pkS (st.getD j sD) / 1152921504606846976 % 4)) (g_mask (s := 2) (p := 4) (by decide) (by decide) (by omega)) ?_
                refine lv_l2i (v := nI (pkS (st.getD j sD) / 1152921504606846976 % 4)) hx hb dX5_answer_99 (lN_i _) ?_
                refine lv_iconst (v := nI 1) hx hb dX5_answer_100 (by decide) ?_
                refine lv_isub hx hb dX5_answer_101 ?_
                exact ro_iret hx hb hr hlocks (by rw [stepI_in hj h2]; unfold stepV; rw [if_neg e0]; rw [if_neg e1]; rw [if_neg e2]; rw [if_pos e3]; rw [pkS_3 hx0]; rfl) dX5_answer_102
              · by_cases e4 : w.toInt = 4
                · refine lv_tableIn (tgt := 103) hx hb dX5_answer_30 (by rw [e4]; decide) (by rw [e4]; decide) (by rw [e4]; rfl) (by decide) ?_
                  refine lv_lload_n hx hb dX5_answer_103 rfl (lv_at hl 0 rfl) ?_
                  refine lv_bipush (v := nI 62) hx hb dX5_answer_104 (by decide) ?_
                  refine lv_lushr (v := lN (pkS (st.getD j sD) / 4611686018427387904)) hx hb dX5_answer_106 (shr62 (by omega)) ?_
                  refine lv_lconst (v := lN 1) hx hb dX5_answer_107 (by decide) ?_
                  refine lv_land hx hb dX5_answer_108 ?_
                  refine tp_l (y := lN (pkS (st.getD j sD) / 4611686018427387904 % 2)) (g_mask (s := 1) (p := 2) (by decide) (by decide) (by omega)) ?_
                  refine lv_l2i (v := nI (pkS (st.getD j sD) / 4611686018427387904 % 2)) hx hb dX5_answer_109 (lN_i _) ?_
                  exact ro_iret hx hb hr hlocks (by rw [stepI_in hj h2]; unfold stepV; rw [if_neg e0]; rw [if_neg e1]; rw [if_neg e2]; rw [if_neg e3]; rw [if_pos e4]; rw [pkS_4 hx0]; unfold bI; split <;> rfl) dX5_answer_110
                · refine lv_tableOut (tgt := 111) hx hb dX5_answer_30 (by omega) (by decide) ?_
                  refine lv_bipush (v := (-2)) hx hb dX5_answer_111 (by decide) ?_
                  exact ro_iret hx hb hr hlocks (by rw [stepI_in hj h2]; unfold stepV; rw [if_neg e0, if_neg e1, if_neg e2, if_neg e3, if_neg e4]) dX5_answer_113
      · exact absurd h3 (by omega)
end
section
section MinL
variable {p : Program} {l : Launch} {e : Env} {R : Room} {s : State} {m : MethodId} {args : Array Value} {below : List Frame} {meth : Method} {c : Code} {H : Heap} {locs : List Loc} {cells slots : Nat} {Q : State → Prop}
variable {cc : ByteArray} {pc : Nat} {ls : Array Slot} {rest : List Value}
theorem mnl (hexec : p.tables.exec = Jvm.exec) (hb : c.code = cc) (hml : c.maxLocals = ls.size) {own : String} {index : Nat} (hown : s.vm.findClass own = some m.cls) (hlink : (Cond.methodLink own index Lib.MathLoose.min_long.x).before args s = true) (hstat : (Cond.static Lib.MathLoose.min_long.x).before args s = true) (hini : (Cond.initialized "java/lang/Math").before args s = true) (hcode : (Cond.code Lib.MathLoose.min_long.x Lib.MathLoose.min_long.code 4 (some .long)).before args s = true)
    (hframes : 1 ≤ R.frames) (hlocals : (rest.map fun v => v.category).sum + 15 ≤ R.locals) (hc : cells ≤ R.cells) (hs : slots ≤ R.slots) {x y : Nat} (hxx : x < 2 ^ 63) (hyy : y < 2 ^ 63) (hdg : decode cc pc = .ok (.invokestatic index, 3))
    (kk : W p l e R s m args below meth c H locs cells slots Q (F0 m (pc + 3) ls (.long (lN (min x y)) :: rest))) : W p l e R s m args below meth c H locs cells slots Q (F0 m pc ls (.long (lN y) :: .long (lN x) :: rest)) := by
  refine va_mmin_long hexec hb hml hown hlink hstat hini hcode hframes hlocals hc hs hdg ?_
  have e : (if lN y < lN x then lN y else lN x) = lN (min x y) := by
    by_cases h : y < x
    · rw [if_pos ((pk_lLT hyy hxx).mpr h), Nat.min_eq_right (Nat.le_of_lt h)]
    · rw [if_neg (fun q => h ((pk_lLT hyy hxx).mp q)), Nat.min_eq_left (by omega)]
  rw [e]
  exact kk
end MinL
theorem shr16 {n : Nat} (h : n < 2 ^ 64) : ((lN n).toUInt64 >>> ((nI 16).toInt64.toUInt64 &&& Int64.toUInt64 63)).toInt64 = lN (n / 65536) := by rw [wb_shr h (by decide), show (2 : Nat) ^ 16 = 65536 by decide]
theorem shr8 {n : Nat} (h : n < 2 ^ 64) : ((lN n).toUInt64 >>> ((nI 8).toInt64.toUInt64 &&& Int64.toUInt64 63)).toInt64 = lN (n / 256) := by rw [wb_shr h (by decide), show (2 : Nat) ^ 8 = 256 by decide]
theorem shr0 {n : Nat} (h : n < 2 ^ 64) : ((lN n).toUInt64 >>> ((nI 0).toInt64.toUInt64 &&& Int64.toUInt64 63)).toInt64 = lN n := by rw [wb_shr h (by decide), show (2 : Nat) ^ 0 = 1 by decide, Nat.div_one]
theorem m32 {n : Nat} (h : n < 2 ^ 64) : lN n &&& lN 4294967295 = lN (n % 4294967296) := g_mask (s := 32) (p := 4294967296) (by decide) (by decide) h
theorem m8 {n : Nat} (h : n < 2 ^ 64) : lN n &&& lN 255 = lN (n % 256) := g_mask (s := 8) (p := 256) (by decide) (by decide) h
theorem lN_ne0 {t : Nat} (h : 1 ≤ t) (h2 : t < 2 ^ 63) : ¬ lN t = 0 := fun q => absurd ((pk_lEQ (a := t) (b := 0) h2 (by decide)).mp q) (by omega)
theorem pred_s (k : Nat) : nI (k + 1) - nI 1 = nI k := by rw [pk_sub (by omega)]; rfl
theorem pred_0 : nI 0 - nI 1 < 0 := by decide
theorem gN_mono {a b : Nat} (h : a ≤ b) : gN a ≤ gN b := (gN_iff a (gN b)).mp (Nat.le_trans h ((gN_iff b (gN b)).mpr (Nat.le_refl _)))
theorem max_gN {g a b : Nat} (h : a ≤ b) : max (max g (gN a)) (gN b) = max g (gN b) := by
  have := gN_mono h
  omega
theorem shf_up (rd : Bool) (C : List Nat) (n : Nat) (v : Iv) : v.2.2 ≤ (shf rd C n v).2.2 := by
  induction n generalizing v with
  | zero => exact Nat.le_refl _
  | succ n ih =>
    unfold shf
    split
    · have := ih (if rd = true then v.1 * 256 + C.getD (4 + v.2.2) 0 else v.1 * 256, v.2.1 * 256, v.2.2 + 1)
      dsimp only at this
      omega
    · exact Nat.le_refl _
theorem shf_up2 (rd : Bool) (C : List Nat) (n : Nat) (v : Iv) : (shf rd C n v).2.2 ≤ v.2.2 + n := by
  induction n generalizing v with
  | zero => exact Nat.le_refl _
  | succ n ih =>
    unfold shf
    split
    · have := ih (if rd = true then v.1 * 256 + C.getD (4 + v.2.2) 0 else v.1 * 256, v.2.1 * 256, v.2.2 + 1)
      dsimp only at this
      omega
    · omega
theorem addL_y {mo : Nat} {L : List Nat} {d : Nat} (h : d < 256) (h2 : L.length < mo) : addL mo L (nI d) = L ++ [d] := by
  unfold addL
  rw [if_pos (addOk_y (isB_of h) h2), nI_clamp (by omega)]
theorem grA_z {mo gr : Nat} {L : List Nat} {d : Nat} (h : d < 256) (h2 : L.length < mo) : grA mo gr L (nI d) = max gr (gN (L.length + 1)) := by
  unfold grA
  rw [if_pos (addOk_y (isB_of h) h2)]
/-- a shift of LOW -/
theorem dig_sh (n x : Nat) : dig (n + 1) (x * 256 / 4294967296) = dig n (x / 4294967296) ++ [x % 4294967296 / 16777216] := by
  have e1 : x * 256 / 4294967296 / 256 = x / 4294967296 := by omega
  have e2 : x * 256 / 4294967296 % 256 = x % 4294967296 / 16777216 := by omega
  show dig n (x * 256 / 4294967296 / 256) ++ [x * 256 / 4294967296 % 256] = _
  rw [e1, e2]
theorem dig_4 (n x : Nat) : dig (n + 4) x = dig n (x / 4294967296) ++ [x % 4294967296 / 16777216 % 256] ++ [x % 4294967296 / 65536 % 256] ++ [x % 4294967296 / 256 % 256] ++ [x % 4294967296 % 256] := by
  have e0 : dig (n + 4) x = dig n (x / 256 / 256 / 256 / 256) ++ [x / 256 / 256 / 256 % 256] ++ [x / 256 / 256 % 256] ++ [x / 256 % 256] ++ [x % 256] := rfl
  rw [e0]
  rw [show x / 256 / 256 / 256 / 256 = x / 4294967296 by omega, show x / 256 / 256 / 256 % 256 = x % 4294967296 / 16777216 % 256 by omega, show x / 256 / 256 % 256 = x % 4294967296 / 65536 % 256 by omega, show x / 256 % 256 = x % 4294967296 / 256 % 256 by omega, show x % 256 = x % 4294967296 % 256 by omega]
theorem gD_big {L : List Nat} {j : Nat} (h : L.length ≤ j) : L.getD j 0 = 0 := by simp [List.getD, List.getElem?_eq_none h]
theorem set_lt {L : List Nat} {k v : Nat} (h : ∀ j, L.getD j 0 < 256) (hv : v < 256) : ∀ j, (L.set k v).getD j 0 < 256 := by
  intro j
  have h1 := h j
  by_cases e : j = k
  · subst e
    by_cases h2 : j < L.length
    · simp [List.getD, List.getElem?_set, h2]
      exact hv
    · rw [gD_big (by simp; omega)]
      decide
  · simpa [List.getD, List.getElem?_set_ne (Ne.symm e)] using h1
theorem cryL_s (L : List Nat) (k : Nat) : cryL L (k + 1) = if L.getD k 0 < 255 then L.set k (L.getD k 0 + 1) else cryL (L.set k 0) k := rfl
theorem dec_k (k : Nat) : nI k + Int32.ofInt (-1) = nI k - nI 1 := by
  rw [show Int32.ofInt (-1) = -(nI 1) by decide]
  exact (Int32.sub_eq_add_neg _ _).symm
theorem shf_s (rd : Bool) (C : List Nat) (n : Nat) (v : Iv) : shf rd C (n + 1) v = if v.2.1 < 16777216 then shf rd C n (if rd = true then v.1 * 256 + C.getD (4 + v.2.2) 0 else v.1 * 256, v.2.1 * 256, v.2.2 + 1) else v := rfl
theorem val4_z (C : List Nat) : val4 C = (((0 * 256 + C.getD 0 0) * 256 + C.getD (0 + 1) 0) * 256 + C.getD (0 + 1 + 1) 0) * 256 + C.getD (0 + 1 + 1 + 1) 0 := by unfold val4; rw [Nat.zero_mul, Nat.zero_add]
end
section
set_option maxHeartbeats 4000000 in
set_option maxRecDepth 100000 in
theorem c_W_range (l : Launch) (D : va_G) (ca : Nat → ClassId) (a : Nat) (cb : Nat) (rg : Int64) (lo : Int64) (sv : Int32)  : Met l yX3_range wsX3_range { frames := 0, cells := 0, slots := 0, locals := 0 } (roP D vwCl (ATy ca) [(a, .inr (2, [.long rg, .int sv, .ref cb, .long lo]))] [.ref a]) (vp_Sl (fun r : Int64 => r = rg)) 0 0 (fun _ => False) := by
  refine ro_enter (by decide) rfl (Nat.le_of_ble_eq_true rfl) ?_
  intro p e s m below meth c ls C hK hN hP hl
  obtain ⟨hx, hb, hr, hml, hown, hlocks, hts⟩ := C
  have hl : lv_has ls 1 [(0, .ref a)] := hl
  have hin_X2 : ∀ w ∈ wsX20, w ∈ wsX3_range := by decide +kernel
  have hl_7 := hts (.fieldLink RX3 7 "EscapeCoder$Interval" "range" "J") (by decide +kernel)
  refine lv_aload_n hx hb dX3_range_0 rfl (lv_at hl 0 rfl) ?_
  refine va_get (D := D) (ci := 2) (v := .long rg) (C := RX2) (T := TX2) (N := 4) hx hb hts hin_X2 hown hK hP 0 rfl rfl 0 (by decide) hl_7 (fun _ h9 => h9) rfl dX3_range_1 ?_
  exact ro_lret hx hb hr hlocks (rfl) dX3_range_4

set_option maxHeartbeats 4000000 in
set_option maxRecDepth 100000 in
theorem c_W_shifts (l : Launch) (D : va_G) (ca : Nat → ClassId) (a : Nat) (cb : Nat) (rg : Int64) (lo : Int64) (sv : Int32)  : Met l yX3_shifts wsX3_shifts { frames := 0, cells := 0, slots := 0, locals := 0 } (roP D vwCl (ATy ca) [(a, .inr (2, [.long rg, .int sv, .ref cb, .long lo]))] [.ref a]) (vp_Si (fun r : Int32 => r = sv)) 0 0 (fun _ => False) := by
  refine ro_enter (by decide) rfl (Nat.le_of_ble_eq_true rfl) ?_
  intro p e s m below meth c ls C hK hN hP hl
  obtain ⟨hx, hb, hr, hml, hown, hlocks, hts⟩ := C
  have hl : lv_has ls 1 [(0, .ref a)] := hl
  have hin_X2 : ∀ w ∈ wsX20, w ∈ wsX3_shifts := by decide +kernel
  have hl_13 := hts (.fieldLink RX3 13 "EscapeCoder$Interval" "shifts" "I") (by decide +kernel)
  refine lv_aload_n hx hb dX3_shifts_0 rfl (lv_at hl 0 rfl) ?_
  refine va_get (D := D) (ci := 2) (v := .int sv) (C := RX2) (T := TX2) (N := 4) hx hb hts hin_X2 hown hK hP 0 rfl rfl 1 (by decide) hl_13 (fun _ h9 => h9) rfl dX3_shifts_1 ?_
  exact ro_iret hx hb hr hlocks (rfl) dX3_shifts_4

set_option maxHeartbeats 4000000 in
set_option maxRecDepth 100000 in
theorem c_W_widen (l : Launch) (D : va_G) (ca : Nat → ClassId) (a : Nat) (cb : Nat) (rg : Int64) (lo : Int64) (sv : Int32)  (sz : Nat) : Met l yX3_widen wsX3_widen { frames := 0, cells := 0, slots := 0, locals := 0 } (rwP D vwCl (ATy ca) [(a, .inr (2, [.long rg, .int sv, .ref cb, .long lo]))] sz [.ref a]) (va_Qv (fun (u : Unit) => True) (bB D vwCl (fun (u : Unit) => [(a, .inr (2, [.long (lN 4294967295), .int (nI 0), .ref cb, .long lo]))]) (va_A [(a, .inr (2, [.long rg, .int sv, .ref cb, .long lo]))] sz)) (va_A [(a, .inr (2, [.long rg, .int sv, .ref cb, .long lo]))] sz)) 0 0 (va_A [(a, .inr (2, [.long rg, .int sv, .ref cb, .long lo]))] sz) := by
  refine rw_enter (Q := fun A => va_Qv (fun (u : Unit) => True) (bB D vwCl (fun (u : Unit) => [(a, .inr (2, [.long (lN 4294967295), .int (nI 0), .ref cb, .long lo]))]) A) A) (by decide) rfl (Nat.le_of_ble_eq_true rfl) ?_
  intro p e s m below meth c ls A C hnm hK hN hP hD hA hl
  have hS : va_S A s.heap s.heap [] := va_S.rf
  obtain ⟨hx, hb, hr, hml, hown, hlocks, hts⟩ := C
  have hl : lv_has ls 1 [(0, .ref a)] := hl
  have hw_17170a := hts (.constantLong RX3 17 (lN 4294967295)) (by decide +kernel)
  have hin_X2 : ∀ w ∈ wsX20, w ∈ wsX3_widen := by decide +kernel
  have hl_7 := hts (.fieldLink RX3 7 "EscapeCoder$Interval" "range" "J") (by decide +kernel)
  have hl_13 := hts (.fieldLink RX3 13 "EscapeCoder$Interval" "shifts" "I") (by decide +kernel)
  refine lv_aload_n hx hb dX3_widen_0 rfl (lv_at hl 0 rfl) ?_
  refine lv_ldc2 (v := lN 4294967295) hx hb hown hw_17170a dX3_widen_1 ?_
  refine va_put (D := D) (ci := 2) (v := .long (lN 4294967295)) (ty := .long) (C := RX2) (T := TX2) (N := 4) hx hb hts hin_X2 tyX2 tyX2_ok nmX2 hown hK hP hD hS 0 rfl rfl 0 (by decide) hl_7 (fun _ h9 => h9) rfl (by decide +kernel) rfl rfl (Nat.le_of_ble_eq_true rfl) dX3_widen_4 (fun H locs hP hD hS => ?_)
  have hP : va_P D vwCl [(a, .inr (2, [.long (lN 4294967295), .int sv, .ref cb, .long lo]))] H := hP
  have hD : va_D A [(a, .inr (2, [.long (lN 4294967295), .int sv, .ref cb, .long lo]))] := hD
  refine lv_aload_n hx hb dX3_widen_7 rfl (lv_at hl 0 rfl) ?_
  refine lv_iconst (v := nI 0) hx hb dX3_widen_8 (by decide) ?_
  refine va_put (D := D) (ci := 2) (v := .int (nI 0)) (ty := .int) (C := RX2) (T := TX2) (N := 4) hx hb hts hin_X2 tyX2 tyX2_ok nmX2 hown hK hP hD hS 0 rfl rfl 1 (by decide) hl_13 (fun _ h9 => h9) rfl (by decide +kernel) rfl rfl (Nat.le_of_ble_eq_true rfl) dX3_widen_9 (fun H locs hP hD hS => ?_)
  have hP : va_P D vwCl [(a, .inr (2, [.long (lN 4294967295), .int (nI 0), .ref cb, .long lo]))] H := hP
  have hD : va_D A [(a, .inr (2, [.long (lN 4294967295), .int (nI 0), .ref cb, .long lo]))] := hD
  exact rw_vret (u := ()) hx hb hr hlocks (trivial) (hP.sub [0] rfl) (hD.sub [0] (by decide) rfl) hS (Nat.le_refl _) (Nat.le_refl _) dX3_widen_12

set_option maxHeartbeats 4000000 in
set_option maxRecDepth 100000 in
theorem c_W_init0 (l : Launch) (D : va_G) (ca : Nat → ClassId) (a : Nat) (v0 : Value) (v1 : Value) (v2 : Value) (v3 : Value)  (sz : Nat) : Met l yX3_init wsX3_init { frames := 1, cells := 0, slots := 0, locals := 20 } (rwP D vwCl (ATy ca) [(a, .inr (2, [v0, v1, v2, v3]))] sz [.ref a]) (va_Qv (fun (u : Unit) => True) (bB D vwCl (fun (u : Unit) => [(a, .inr (2, [v0, v1, v2, v3]))]) (va_A [(a, .inr (2, [v0, v1, v2, v3]))] sz)) (va_A [(a, .inr (2, [v0, v1, v2, v3]))] sz)) 0 0 (va_A [(a, .inr (2, [v0, v1, v2, v3]))] sz) := by
  refine rw_enter (Q := fun A => va_Qv (fun (u : Unit) => True) (bB D vwCl (fun (u : Unit) => [(a, .inr (2, [v0, v1, v2, v3]))]) A) A) (by decide) rfl (Nat.le_of_ble_eq_true rfl) ?_
  intro p e s m below meth c ls A C hnm hK hN hP hD hA hl
  have hS : va_S A s.heap s.heap [] := va_S.rf
  obtain ⟨hx, hb, hr, hml, hown, hlocks, hts⟩ := C
  have hl : lv_has ls 1 [(0, .ref a)] := hl
  have hw_ddb3ed := hts (.methodLink RX3 1 objectInit) (by decide +kernel)
  have hw_fba9d5 := hts (.instanceMethod objectInit) (by decide +kernel)
  have hw_9febdb := hts (.code objectInit ⟨#[0xb1]⟩ 1 none) (by decide +kernel)
  refine lv_aload_n hx hb dX3_init_0 rfl (lv_at hl 0 rfl) ?_
  refine W.objInit hx hb hown hw_ddb3ed hw_fba9d5 hw_9febdb rfl (by rw [hml]; exact hl.1) rfl dX3_init_1 (Nat.le_of_ble_eq_true rfl) (Nat.le_of_ble_eq_true rfl) ?_
  refine W.eq (g2 := F0 m 4 ls []) rfl ?_
  exact rw_vret (u := ()) hx hb hr hlocks (trivial) (hP.sub [0] rfl) (hD.sub [0] (by decide) rfl) hS (Nat.le_refl _) (Nat.le_refl _) dX3_init_4

set_option maxHeartbeats 4000000 in
set_option maxRecDepth 100000 in
theorem c_W_unit (l : Launch) (D : va_G) (ca : Nat → ClassId) (R : Nat) (t : Nat) (a : Nat) (cb : Nat) (sv : Int32) (lo : Int64) (ht : 1 ≤ t ∧ t < 2 ^ 31) (hR : R < 2 ^ 63) : Met l yX3_unitOf wsX3_unitOf { frames := 0, cells := 0, slots := 0, locals := 0 } (roP D vwCl (ATy ca) [(a, .inr (2, [.long (lN R), .int sv, .ref cb, .long lo]))] [.ref a, .int (nI t)]) (vp_Sl (fun r : Int64 => r = lN (R / t))) 0 0 (fun _ => False) := by
  refine ro_enter (by decide) rfl (Nat.le_of_ble_eq_true rfl) ?_
  intro p e s m below meth c ls C hK hN hP hl
  obtain ⟨hx, hb, hr, hml, hown, hlocks, hts⟩ := C
  have hl : lv_has ls 2 [(0, .ref a), (1, .int (nI t))] := hl
  have hin_X2 : ∀ w ∈ wsX20, w ∈ wsX3_unitOf := by decide +kernel
  have hl_7 := hts (.fieldLink RX3 7 "EscapeCoder$Interval" "range" "J") (by decide +kernel)
  refine lv_iload_n hx hb dX3_unitOf_0 rfl (lv_at hl 1 rfl) ?_
  refine lv_iconst (v := nI 1) hx hb dX3_unitOf_1 (by decide) ?_
  refine bn_ge (tgt := 12) hx hb dX3_unitOf_2 (by decide) (by omega) (by omega) (fun h1 => ?_) (fun h1 => ?_)
  · refine lv_aload_n hx hb dX3_unitOf_12 rfl (lv_at hl 0 rfl) ?_
    refine va_get (D := D) (ci := 2) (v := .long (lN R)) (C := RX2) (T := TX2) (N := 4) hx hb hts hin_X2 hown hK hP 0 rfl rfl 0 (by decide) hl_7 (fun _ h9 => h9) rfl dX3_unitOf_13 ?_
    refine lv_iload_n hx hb dX3_unitOf_16 rfl (lv_at hl 1 rfl) ?_
    refine lv_i2l (v := lN t) hx hb dX3_unitOf_17 (nI_l (by omega)) ?_
    refine lv_ldiv hx hb dX3_unitOf_18 (lN_ne0 ht.1 (by omega)) ?_
    refine tp_l (y := lN (R / t)) (pk_lDiv hR (by omega) (by omega)) ?_
    exact ro_lret hx hb hr hlocks (rfl) dX3_unitOf_19
  · exact absurd h1 (by omega)

set_option maxHeartbeats 4000000 in
set_option maxRecDepth 100000 in
theorem c_W_init (l : Launch) (D : va_G) (ca : Nat → ClassId) (a : Nat) (cb : Nat)  (sz : Nat) : Met l yX2_init wsX2_init { frames := 2, cells := 0, slots := 0, locals := 40 } (rwP D vwCl (ATy ca) [(a, .inr (2, [.long 0, .int 0, .null, .long 0]))] sz [.ref a, .ref cb]) (va_Qv (fun (u : Unit) => True) (bB D vwCl (fun (u : Unit) => [(a, .inr (2, [.long 0, .int 0, .ref cb, .long 0]))]) (va_A [(a, .inr (2, [.long 0, .int 0, .null, .long 0]))] sz)) (va_A [(a, .inr (2, [.long 0, .int 0, .null, .long 0]))] sz)) 0 0 (va_A [(a, .inr (2, [.long 0, .int 0, .null, .long 0]))] sz) := by
  refine rw_enter (Q := fun A => va_Qv (fun (u : Unit) => True) (bB D vwCl (fun (u : Unit) => [(a, .inr (2, [.long 0, .int 0, .ref cb, .long 0]))]) A) A) (by decide) rfl (Nat.le_of_ble_eq_true rfl) ?_
  intro p e s m below meth c ls A C hnm hK hN hP hD hA hl
  have hS : va_S A s.heap s.heap [] := va_S.rf
  obtain ⟨hx, hb, hr, hml, hown, hlocks, hts⟩ := C
  have hl : lv_has ls 2 [(0, .ref a), (1, .ref cb)] := hl
  have hw_7f12e8 := hts (.initialized RX3) (by decide +kernel)
  have hw_43acb9 := hts (.instanceMethod yX3_init) (by decide +kernel)
  have hin_X2 : ∀ w ∈ wsX20, w ∈ wsX2_init := by decide +kernel
  have hl_9 := hts (.fieldLink RX2 9 "EscapeCoder$CodeWriter" "code" "LEscapeCoder$ByteRow;") (by decide +kernel)
  refine lv_aload_n hx hb dX2_init_0 rfl (lv_at hl 0 rfl) ?_
  refine rw_callv (wc := [(a, .inr (2, [.long 0, .int 0, .null, .long 0]))]) (wr := []) hP hD hS hA [0] [] rfl rfl (by decide) (by decide) (va_runIN (As := []) (rest := []) ⟨hx, hb, hml, hown, hts⟩ (c_W_init0 l D ca a (.long 0) (.int 0) .null (.long 0)  s.heap.size) ⟨va_cnB 0 hts gX2_init_X3_init_n3 rfl rfl rfl (nw_X2_3 hN) hw_7f12e8 (by decide +kernel) ⟨Nat.le_of_ble_eq_true rfl, Nat.le_of_ble_eq_true rfl⟩, rfl, hw_43acb9⟩ ⟨rwP_blind, rwP_at hK hN (hP.sub [0] rfl) (hD.sub [0] (by decide) rfl)⟩ rfl rfl hl.1 rfl (lv_room (Nat.le_of_ble_eq_true rfl)) dX2_init_1 ⟨Nat.le_of_ble_eq_true rfl, Nat.le_of_ble_eq_true rfl⟩) (fun u H locs hq hP hD hS => ?_)
  try dsimp only at hq
  have hP : va_P D vwCl [(a, .inr (2, [.long 0, .int 0, .null, .long 0]))] H := hP
  have hD : va_D A [(a, .inr (2, [.long 0, .int 0, .null, .long 0]))] := hD
  refine lv_aload_n hx hb dX2_init_4 rfl (lv_at hl 0 rfl) ?_
  refine lv_aload_n hx hb dX2_init_5 rfl (lv_at hl 1 rfl) ?_
  refine va_putF (D := D) (ci := 2) (v := .ref cb) (ty := (.object "EscapeCoder$ByteRow")) (C := RX2) (T := TX2) (N := 4) hx hb hts hin_X2 tyX2 tyX2_ok nmX2 hown hK hP hD hS 0 rfl rfl 2 (by decide) hl_9 (fun _ h9 => h9) rfl hnm rfl (by decide +kernel) rfl rfl (Nat.le_of_ble_eq_true rfl) dX2_init_6 (fun H locs hP hD hS => ?_)
  have hP : va_P D vwCl [(a, .inr (2, [.long 0, .int 0, .ref cb, .long 0]))] H := hP
  have hD : va_D A [(a, .inr (2, [.long 0, .int 0, .ref cb, .long 0]))] := hD
  exact rw_vret (u := ()) hx hb hr hlocks (trivial) (hP.sub [0] rfl) (hD.sub [0] (by decide) rfl) hS (Nat.le_refl _) (Nat.le_refl _) dX2_init_9

set_option maxHeartbeats 4000000 in
set_option maxRecDepth 100000 in
theorem c_R_range (l : Launch) (D : va_G) (ca : Nat → ClassId) (a : Nat) (cb : Nat) (rg : Int64) (lo : Int64) (sv : Int32) (tk : Int32)  : Met l yX3_range wsX3_range { frames := 0, cells := 0, slots := 0, locals := 0 } (roP D vwCl (ATy ca) [(a, .inr (1, [.long rg, .int sv, .ref cb, .long lo, .int tk]))] [.ref a]) (vp_Sl (fun r : Int64 => r = rg)) 0 0 (fun _ => False) := by
  refine ro_enter (by decide) rfl (Nat.le_of_ble_eq_true rfl) ?_
  intro p e s m below meth c ls C hK hN hP hl
  obtain ⟨hx, hb, hr, hml, hown, hlocks, hts⟩ := C
  have hl : lv_has ls 1 [(0, .ref a)] := hl
  have hin_X1 : ∀ w ∈ wsX10, w ∈ wsX3_range := by decide +kernel
  have hl_7 := hts (.fieldLink RX3 7 "EscapeCoder$Interval" "range" "J") (by decide +kernel)
  refine lv_aload_n hx hb dX3_range_0 rfl (lv_at hl 0 rfl) ?_
  refine va_get (D := D) (ci := 1) (v := .long rg) (C := RX1) (T := TX1) (N := 5) hx hb hts hin_X1 hown hK hP 0 rfl rfl 0 (by decide) hl_7 (fun _ h9 => h9) rfl dX3_range_1 ?_
  exact ro_lret hx hb hr hlocks (rfl) dX3_range_4

set_option maxHeartbeats 4000000 in
set_option maxRecDepth 100000 in
theorem c_R_shifts (l : Launch) (D : va_G) (ca : Nat → ClassId) (a : Nat) (cb : Nat) (rg : Int64) (lo : Int64) (sv : Int32) (tk : Int32)  : Met l yX3_shifts wsX3_shifts { frames := 0, cells := 0, slots := 0, locals := 0 } (roP D vwCl (ATy ca) [(a, .inr (1, [.long rg, .int sv, .ref cb, .long lo, .int tk]))] [.ref a]) (vp_Si (fun r : Int32 => r = sv)) 0 0 (fun _ => False) := by
  refine ro_enter (by decide) rfl (Nat.le_of_ble_eq_true rfl) ?_
  intro p e s m below meth c ls C hK hN hP hl
  obtain ⟨hx, hb, hr, hml, hown, hlocks, hts⟩ := C
  have hl : lv_has ls 1 [(0, .ref a)] := hl
  have hin_X1 : ∀ w ∈ wsX10, w ∈ wsX3_shifts := by decide +kernel
  have hl_13 := hts (.fieldLink RX3 13 "EscapeCoder$Interval" "shifts" "I") (by decide +kernel)
  refine lv_aload_n hx hb dX3_shifts_0 rfl (lv_at hl 0 rfl) ?_
  refine va_get (D := D) (ci := 1) (v := .int sv) (C := RX1) (T := TX1) (N := 5) hx hb hts hin_X1 hown hK hP 0 rfl rfl 1 (by decide) hl_13 (fun _ h9 => h9) rfl dX3_shifts_1 ?_
  exact ro_iret hx hb hr hlocks (rfl) dX3_shifts_4

set_option maxHeartbeats 4000000 in
set_option maxRecDepth 100000 in
theorem c_R_widen (l : Launch) (D : va_G) (ca : Nat → ClassId) (a : Nat) (cb : Nat) (rg : Int64) (lo : Int64) (sv : Int32) (tk : Int32)  (sz : Nat) : Met l yX3_widen wsX3_widen { frames := 0, cells := 0, slots := 0, locals := 0 } (rwP D vwCl (ATy ca) [(a, .inr (1, [.long rg, .int sv, .ref cb, .long lo, .int tk]))] sz [.ref a]) (va_Qv (fun (u : Unit) => True) (bB D vwCl (fun (u : Unit) => [(a, .inr (1, [.long (lN 4294967295), .int (nI 0), .ref cb, .long lo, .int tk]))]) (va_A [(a, .inr (1, [.long rg, .int sv, .ref cb, .long lo, .int tk]))] sz)) (va_A [(a, .inr (1, [.long rg, .int sv, .ref cb, .long lo, .int tk]))] sz)) 0 0 (va_A [(a, .inr (1, [.long rg, .int sv, .ref cb, .long lo, .int tk]))] sz) := by
  refine rw_enter (Q := fun A => va_Qv (fun (u : Unit) => True) (bB D vwCl (fun (u : Unit) => [(a, .inr (1, [.long (lN 4294967295), .int (nI 0), .ref cb, .long lo, .int tk]))]) A) A) (by decide) rfl (Nat.le_of_ble_eq_true rfl) ?_
  intro p e s m below meth c ls A C hnm hK hN hP hD hA hl
  have hS : va_S A s.heap s.heap [] := va_S.rf
  obtain ⟨hx, hb, hr, hml, hown, hlocks, hts⟩ := C
  have hl : lv_has ls 1 [(0, .ref a)] := hl
  have hw_17170a := hts (.constantLong RX3 17 (lN 4294967295)) (by decide +kernel)
  have hin_X1 : ∀ w ∈ wsX10, w ∈ wsX3_widen := by decide +kernel
  have hl_7 := hts (.fieldLink RX3 7 "EscapeCoder$Interval" "range" "J") (by decide +kernel)
  have hl_13 := hts (.fieldLink RX3 13 "EscapeCoder$Interval" "shifts" "I") (by decide +kernel)
  refine lv_aload_n hx hb dX3_widen_0 rfl (lv_at hl 0 rfl) ?_
  refine lv_ldc2 (v := lN 4294967295) hx hb hown hw_17170a dX3_widen_1 ?_
  refine va_put (D := D) (ci := 1) (v := .long (lN 4294967295)) (ty := .long) (C := RX1) (T := TX1) (N := 5) hx hb hts hin_X1 tyX1 tyX1_ok nmX1 hown hK hP hD hS 0 rfl rfl 0 (by decide) hl_7 (fun _ h9 => h9) rfl (by decide +kernel) rfl rfl (Nat.le_of_ble_eq_true rfl) dX3_widen_4 (fun H locs hP hD hS => ?_)
  have hP : va_P D vwCl [(a, .inr (1, [.long (lN 4294967295), .int sv, .ref cb, .long lo, .int tk]))] H := hP
  have hD : va_D A [(a, .inr (1, [.long (lN 4294967295), .int sv, .ref cb, .long lo, .int tk]))] := hD
  refine lv_aload_n hx hb dX3_widen_7 rfl (lv_at hl 0 rfl) ?_
  refine lv_iconst (v := nI 0) hx hb dX3_widen_8 (by decide) ?_
  refine va_put (D := D) (ci := 1) (v := .int (nI 0)) (ty := .int) (C := RX1) (T := TX1) (N := 5) hx hb hts hin_X1 tyX1 tyX1_ok nmX1 hown hK hP hD hS 0 rfl rfl 1 (by decide) hl_13 (fun _ h9 => h9) rfl (by decide +kernel) rfl rfl (Nat.le_of_ble_eq_true rfl) dX3_widen_9 (fun H locs hP hD hS => ?_)
  have hP : va_P D vwCl [(a, .inr (1, [.long (lN 4294967295), .int (nI 0), .ref cb, .long lo, .int tk]))] H := hP
  have hD : va_D A [(a, .inr (1, [.long (lN 4294967295), .int (nI 0), .ref cb, .long lo, .int tk]))] := hD
  exact rw_vret (u := ()) hx hb hr hlocks (trivial) (hP.sub [0] rfl) (hD.sub [0] (by decide) rfl) hS (Nat.le_refl _) (Nat.le_refl _) dX3_widen_12

set_option maxHeartbeats 4000000 in
set_option maxRecDepth 100000 in
theorem c_R_init0 (l : Launch) (D : va_G) (ca : Nat → ClassId) (a : Nat) (v0 : Value) (v1 : Value) (v2 : Value) (v3 : Value) (v4 : Value)  (sz : Nat) : Met l yX3_init wsX3_init { frames := 1, cells := 0, slots := 0, locals := 20 } (rwP D vwCl (ATy ca) [(a, .inr (1, [v0, v1, v2, v3, v4]))] sz [.ref a]) (va_Qv (fun (u : Unit) => True) (bB D vwCl (fun (u : Unit) => [(a, .inr (1, [v0, v1, v2, v3, v4]))]) (va_A [(a, .inr (1, [v0, v1, v2, v3, v4]))] sz)) (va_A [(a, .inr (1, [v0, v1, v2, v3, v4]))] sz)) 0 0 (va_A [(a, .inr (1, [v0, v1, v2, v3, v4]))] sz) := by
  refine rw_enter (Q := fun A => va_Qv (fun (u : Unit) => True) (bB D vwCl (fun (u : Unit) => [(a, .inr (1, [v0, v1, v2, v3, v4]))]) A) A) (by decide) rfl (Nat.le_of_ble_eq_true rfl) ?_
  intro p e s m below meth c ls A C hnm hK hN hP hD hA hl
  have hS : va_S A s.heap s.heap [] := va_S.rf
  obtain ⟨hx, hb, hr, hml, hown, hlocks, hts⟩ := C
  have hl : lv_has ls 1 [(0, .ref a)] := hl
  have hw_ddb3ed := hts (.methodLink RX3 1 objectInit) (by decide +kernel)
  have hw_fba9d5 := hts (.instanceMethod objectInit) (by decide +kernel)
  have hw_9febdb := hts (.code objectInit ⟨#[0xb1]⟩ 1 none) (by decide +kernel)
  refine lv_aload_n hx hb dX3_init_0 rfl (lv_at hl 0 rfl) ?_
  refine W.objInit hx hb hown hw_ddb3ed hw_fba9d5 hw_9febdb rfl (by rw [hml]; exact hl.1) rfl dX3_init_1 (Nat.le_of_ble_eq_true rfl) (Nat.le_of_ble_eq_true rfl) ?_
  refine W.eq (g2 := F0 m 4 ls []) rfl ?_
  exact rw_vret (u := ()) hx hb hr hlocks (trivial) (hP.sub [0] rfl) (hD.sub [0] (by decide) rfl) hS (Nat.le_refl _) (Nat.le_refl _) dX3_init_4

set_option maxHeartbeats 4000000 in
set_option maxRecDepth 100000 in
theorem c_R_unit (l : Launch) (D : va_G) (ca : Nat → ClassId) (R : Nat) (t : Nat) (a : Nat) (cb : Nat) (sv : Int32) (tk : Int32) (lo : Int64) (ht : 1 ≤ t ∧ t < 2 ^ 31) (hR : R < 2 ^ 63) : Met l yX3_unitOf wsX3_unitOf { frames := 0, cells := 0, slots := 0, locals := 0 } (roP D vwCl (ATy ca) [(a, .inr (1, [.long (lN R), .int sv, .ref cb, .long lo, .int tk]))] [.ref a, .int (nI t)]) (vp_Sl (fun r : Int64 => r = lN (R / t))) 0 0 (fun _ => False) := by
  refine ro_enter (by decide) rfl (Nat.le_of_ble_eq_true rfl) ?_
  intro p e s m below meth c ls C hK hN hP hl
  obtain ⟨hx, hb, hr, hml, hown, hlocks, hts⟩ := C
  have hl : lv_has ls 2 [(0, .ref a), (1, .int (nI t))] := hl
  have hin_X1 : ∀ w ∈ wsX10, w ∈ wsX3_unitOf := by decide +kernel
  have hl_7 := hts (.fieldLink RX3 7 "EscapeCoder$Interval" "range" "J") (by decide +kernel)
  refine lv_iload_n hx hb dX3_unitOf_0 rfl (lv_at hl 1 rfl) ?_
  refine lv_iconst (v := nI 1) hx hb dX3_unitOf_1 (by decide) ?_
  refine bn_ge (tgt := 12) hx hb dX3_unitOf_2 (by decide) (by omega) (by omega) (fun h1 => ?_) (fun h1 => ?_)
  · refine lv_aload_n hx hb dX3_unitOf_12 rfl (lv_at hl 0 rfl) ?_
    refine va_get (D := D) (ci := 1) (v := .long (lN R)) (C := RX1) (T := TX1) (N := 5) hx hb hts hin_X1 hown hK hP 0 rfl rfl 0 (by decide) hl_7 (fun _ h9 => h9) rfl dX3_unitOf_13 ?_
    refine lv_iload_n hx hb dX3_unitOf_16 rfl (lv_at hl 1 rfl) ?_
    refine lv_i2l (v := lN t) hx hb dX3_unitOf_17 (nI_l (by omega)) ?_
    refine lv_ldiv hx hb dX3_unitOf_18 (lN_ne0 ht.1 (by omega)) ?_
    refine tp_l (y := lN (R / t)) (pk_lDiv hR (by omega) (by omega)) ?_
    exact ro_lret hx hb hr hlocks (rfl) dX3_unitOf_19
  · exact absurd h1 (by omega)

set_option maxHeartbeats 4000000 in
set_option maxRecDepth 100000 in
theorem c_R_init (l : Launch) (D : va_G) (ca : Nat → ClassId) (a : Nat) (cb : Nat)  (sz : Nat) : Met l yX1_init wsX1_init { frames := 2, cells := 0, slots := 0, locals := 40 } (rwP D vwCl (ATy ca) [(a, .inr (1, [.long 0, .int 0, .null, .long 0, .int 0]))] sz [.ref a, .ref cb]) (va_Qv (fun (u : Unit) => True) (bB D vwCl (fun (u : Unit) => [(a, .inr (1, [.long 0, .int 0, .ref cb, .long 0, .int 0]))]) (va_A [(a, .inr (1, [.long 0, .int 0, .null, .long 0, .int 0]))] sz)) (va_A [(a, .inr (1, [.long 0, .int 0, .null, .long 0, .int 0]))] sz)) 0 0 (va_A [(a, .inr (1, [.long 0, .int 0, .null, .long 0, .int 0]))] sz) := by
  refine rw_enter (Q := fun A => va_Qv (fun (u : Unit) => True) (bB D vwCl (fun (u : Unit) => [(a, .inr (1, [.long 0, .int 0, .ref cb, .long 0, .int 0]))]) A) A) (by decide) rfl (Nat.le_of_ble_eq_true rfl) ?_
  intro p e s m below meth c ls A C hnm hK hN hP hD hA hl
  have hS : va_S A s.heap s.heap [] := va_S.rf
  obtain ⟨hx, hb, hr, hml, hown, hlocks, hts⟩ := C
  have hl : lv_has ls 2 [(0, .ref a), (1, .ref cb)] := hl
  have hw_7f12e8 := hts (.initialized RX3) (by decide +kernel)
  have hw_43acb9 := hts (.instanceMethod yX3_init) (by decide +kernel)
  have hin_X1 : ∀ w ∈ wsX10, w ∈ wsX1_init := by decide +kernel
  have hl_9 := hts (.fieldLink RX1 9 "EscapeCoder$CodeReader" "code" "LEscapeCoder$ByteRow;") (by decide +kernel)
  refine lv_aload_n hx hb dX1_init_0 rfl (lv_at hl 0 rfl) ?_
  refine rw_callv (wc := [(a, .inr (1, [.long 0, .int 0, .null, .long 0, .int 0]))]) (wr := []) hP hD hS hA [0] [] rfl rfl (by decide) (by decide) (va_runIN (As := []) (rest := []) ⟨hx, hb, hml, hown, hts⟩ (c_R_init0 l D ca a (.long 0) (.int 0) .null (.long 0) (.int 0)  s.heap.size) ⟨va_cnB 0 hts gX1_init_X3_init_n3 rfl rfl rfl (nw_X1_3 hN) hw_7f12e8 (by decide +kernel) ⟨Nat.le_of_ble_eq_true rfl, Nat.le_of_ble_eq_true rfl⟩, rfl, hw_43acb9⟩ ⟨rwP_blind, rwP_at hK hN (hP.sub [0] rfl) (hD.sub [0] (by decide) rfl)⟩ rfl rfl hl.1 rfl (lv_room (Nat.le_of_ble_eq_true rfl)) dX1_init_1 ⟨Nat.le_of_ble_eq_true rfl, Nat.le_of_ble_eq_true rfl⟩) (fun u H locs hq hP hD hS => ?_)
  try dsimp only at hq
  have hP : va_P D vwCl [(a, .inr (1, [.long 0, .int 0, .null, .long 0, .int 0]))] H := hP
  have hD : va_D A [(a, .inr (1, [.long 0, .int 0, .null, .long 0, .int 0]))] := hD
  refine lv_aload_n hx hb dX1_init_4 rfl (lv_at hl 0 rfl) ?_
  refine lv_aload_n hx hb dX1_init_5 rfl (lv_at hl 1 rfl) ?_
  refine va_putF (D := D) (ci := 1) (v := .ref cb) (ty := (.object "EscapeCoder$ByteRow")) (C := RX1) (T := TX1) (N := 5) hx hb hts hin_X1 tyX1 tyX1_ok nmX1 hown hK hP hD hS 0 rfl rfl 2 (by decide) hl_9 (fun _ h9 => h9) rfl hnm rfl (by decide +kernel) rfl rfl (Nat.le_of_ble_eq_true rfl) dX1_init_6 (fun H locs hP hD hS => ?_)
  have hP : va_P D vwCl [(a, .inr (1, [.long 0, .int 0, .ref cb, .long 0, .int 0]))] H := hP
  have hD : va_D A [(a, .inr (1, [.long 0, .int 0, .ref cb, .long 0, .int 0]))] := hD
  exact rw_vret (u := ()) hx hb hr hlocks (trivial) (hP.sub [0] rfl) (hD.sub [0] (by decide) rfl) hS (Nat.le_refl _) (Nat.le_refl _) dX1_init_9

set_option maxHeartbeats 4000000 in
set_option maxRecDepth 100000 in
theorem c_W_carry (l : Launch) (D : va_G) (ca : Nat → ClassId) (a : Nat) (cb : Nat) (q : Nat) (gr : Nat) (rg : Int64) (lo : Int64) (sv : Int32) (f : Nat → Int32) (L : List Nat) (hB : BR f L) (hL : L.length ≤ gcap 8000 gr) (hy : ∀ j, L.getD j 0 < 256) (sz : Nat) : Met l yX2_carry wsX2_carry { frames := 2, cells := 0, slots := 0, locals := 42 } (rwP D vwCl (ATy ca) [(a, .inr (2, [.long rg, .int sv, .ref cb, .long lo])), (cb, .inr (0, [.int (nI 8000), .ref q, .int (nI L.length)])), (q, .inl (ca 0, gcap 8000 gr, .inl f))] sz [.ref a]) (va_Qv (fun (u : (Nat → Int32)) => BR u (cryL L L.length)) (bB D vwCl (fun (u : (Nat → Int32)) => [(a, .inr (2, [.long rg, .int sv, .ref cb, .long lo])), (cb, .inr (0, [.int (nI 8000), .ref q, .int (nI (cryL L L.length).length)])), (q, .inl (ca 0, gcap 8000 gr, .inl u))]) (va_A [(a, .inr (2, [.long rg, .int sv, .ref cb, .long lo])), (cb, .inr (0, [.int (nI 8000), .ref q, .int (nI L.length)])), (q, .inl (ca 0, gcap 8000 gr, .inl f))] sz)) (va_A [(a, .inr (2, [.long rg, .int sv, .ref cb, .long lo])), (cb, .inr (0, [.int (nI 8000), .ref q, .int (nI L.length)])), (q, .inl (ca 0, gcap 8000 gr, .inl f))] sz)) 0 0 (va_A [(a, .inr (2, [.long rg, .int sv, .ref cb, .long lo])), (cb, .inr (0, [.int (nI 8000), .ref q, .int (nI L.length)])), (q, .inl (ca 0, gcap 8000 gr, .inl f))] sz) := by
  refine rw_enter (Q := fun A => va_Qv (fun (u : (Nat → Int32)) => BR u (cryL L L.length)) (bB D vwCl (fun (u : (Nat → Int32)) => [(a, .inr (2, [.long rg, .int sv, .ref cb, .long lo])), (cb, .inr (0, [.int (nI 8000), .ref q, .int (nI (cryL L L.length).length)])), (q, .inl (ca 0, gcap 8000 gr, .inl u))]) A) A) (by decide) rfl (Nat.le_of_ble_eq_true rfl) ?_
  intro p e s m below meth c ls A C hnm hK hN hP hD hA hl
  have hS : va_S A s.heap s.heap [] := va_S.rf
  obtain ⟨hx, hb, hr, hml, hown, hlocks, hts⟩ := C
  have hl : lv_has ls 3 [(0, .ref a)] := hl
  have hin_X2 : ∀ w ∈ wsX20, w ∈ wsX2_carry := by decide +kernel
  have hl_9 := hts (.fieldLink RX2 9 "EscapeCoder$CodeWriter" "code" "LEscapeCoder$ByteRow;") (by decide +kernel)
  have hg := gcap_le 8000 gr
  have hlo : ∀ (k : Nat) (L1 : List Nat) (f1 : Nat → Int32), (BR f1 L1) → (L1.length = L.length) → (k ≤ L1.length) → (∀ j, L1.getD j 0 < 256) → (cryL L1 k = cryL L L.length) → ∀ (H : Heap) (locs : List Loc), va_P D vwCl [(a, .inr (2, [.long rg, .int sv, .ref cb, .long lo])), (cb, .inr (0, [.int (nI 8000), .ref q, .int (nI L1.length)])), (q, .inl (ca 0, gcap 8000 gr, .inl f1))] H → va_D A [(a, .inr (2, [.long rg, .int sv, .ref cb, .long lo])), (cb, .inr (0, [.int (nI 8000), .ref q, .int (nI L1.length)])), (q, .inl (ca 0, gcap 8000 gr, .inl f1))] → va_S A s.heap H locs → ∀ (ls : Array Slot), lv_has ls 3 [(1, .int (nI k - nI 1)), (0, .ref a)] → W p l e ({ frames := 2, cells := 0, slots := 0, locals := 42 } : Room) s m ([.ref a] : List Value).toArray below meth c H locs 0 0 (MQ below (va_Qv (fun (u : (Nat → Int32)) => BR u (cryL L L.length)) (bB D vwCl (fun (u : (Nat → Int32)) => [(a, .inr (2, [.long rg, .int sv, .ref cb, .long lo])), (cb, .inr (0, [.int (nI 8000), .ref q, .int (nI (cryL L L.length).length)])), (q, .inl (ca 0, gcap 8000 gr, .inl u))]) A) A) ([.ref a] : List Value).toArray s 0 0 A) (F0 m 10 ls []) := by
    intro k
    induction k with
    | zero =>
      intro L1 f1 hB1 hl1 hk hy1 hE H locs hP hD hS ls hl
      refine lv_iload_n hx hb dX2_carry_10 rfl (lv_at hl 0 rfl) ?_
      refine lv_if_lt (tgt := 59) hx hb dX2_carry_11 (by decide) (fun h1 => ?_) (fun h1 => ?_)
      · have hE1 : L1 = cryL L L.length := hE
        have hP : va_P D vwCl [(a, .inr (2, [.long rg, .int sv, .ref cb, .long lo])), (cb, .inr (0, [.int (nI 8000), .ref q, .int (nI (cryL L L.length).length)])), (q, .inl (ca 0, gcap 8000 gr, .inl f1))] H := by rw [← hE1]; exact hP
        have hD : va_D A [(a, .inr (2, [.long rg, .int sv, .ref cb, .long lo])), (cb, .inr (0, [.int (nI 8000), .ref q, .int (nI (cryL L L.length).length)])), (q, .inl (ca 0, gcap 8000 gr, .inl f1))] := by rw [← hE1]; exact hD
        exact rw_vret (u := f1) hx hb hr hlocks (hE1 ▸ hB1) (hP.sub [0, 1, 2] rfl) (hD.sub [0, 1, 2] (by decide) rfl) hS (Nat.le_refl _) (Nat.le_refl _) dX2_carry_59
      · exact absurd pred_0 h1
    | succ k ih =>
      intro L1 f1 hB1 hl1 hk hy1 hE H locs hP hD hS ls hl
      rw [pred_s] at hl
      refine lv_iload_n hx hb dX2_carry_10 rfl (lv_at hl 0 rfl) ?_
      refine lv_if_lt (tgt := 59) hx hb dX2_carry_11 (by decide) (fun h1 => ?_) (fun h1 => ?_)
      · exact absurd h1 (nI_pos (by omega))
      · refine lv_aload_n hx hb dX2_carry_14 rfl (lv_at hl 1 rfl) ?_
        refine va_get (D := D) (ci := 2) (v := .ref cb) (C := RX2) (T := TX2) (N := 4) hx hb hts hin_X2 hown hK hP 0 rfl rfl 2 (by decide) hl_9 (fun _ h9 => h9) rfl dX2_carry_15 ?_
        refine lv_iload_n hx hb dX2_carry_18 rfl (lv_at hl 0 rfl) ?_
        refine vp_callSi (va_Run.run (va_runV (As := [.int (nI k)]) (rest := []) ⟨hx, hb, hml, hown, hts⟩ (c_BR_byteAt l D ca cb q 8000 gr f1 L1 (nI k) (hB1) (by omega) (by decide)) (cwV 1 hts gX2_carry_X0_byteAt rfl rfl rfl (by decide +kernel) ⟨Nat.le_of_ble_eq_true rfl, Nat.le_of_ble_eq_true rfl⟩) ⟨roP_blind, va_recv hK hP (ci := 0) (q0 := 1) rfl rfl, roP_at hK hN (hP.sub [1, 2] rfl)⟩ rfl rfl hl.1 rfl (lv_room (Nat.le_of_ble_eq_true rfl)) dX2_carry_19 ⟨Nat.le_of_ble_eq_true rfl, Nat.le_of_ble_eq_true rfl⟩)) (fun r_1 hq => ?_)
        have hv : atI L1 (nI k) = nI (L1.getD k 0) := by unfold atI; rw [inL_nI (by omega), if_pos (by simp; omega), nI_clamp (by omega)]
        rw [hv] at hq
        subst hq
        have hk2 := hy1 k
        refine lv_istore_n (lv' := [(2, .int (nI (L1.getD k 0))), (1, .int (nI k)), (0, .ref a)]) hx hb dX2_carry_22 rfl hl (by decide) rfl (fun ls hl => ?_)
        refine lv_iload_n hx hb dX2_carry_23 rfl (lv_at hl 0 rfl) ?_
        refine lv_sipush (v := nI 255) hx hb dX2_carry_24 (by decide) ?_
        refine bn_ge (tgt := 43) hx hb dX2_carry_27 (by decide) (by omega) (by omega) (fun h2 => ?_) (fun h2 => ?_)
        · refine lv_aload_n hx hb dX2_carry_43 rfl (lv_at hl 2 rfl) ?_
          refine va_get (D := D) (ci := 2) (v := .ref cb) (C := RX2) (T := TX2) (N := 4) hx hb hts hin_X2 hown hK hP 0 rfl rfl 2 (by decide) hl_9 (fun _ h9 => h9) rfl dX2_carry_44 ?_
          refine lv_iload_n hx hb dX2_carry_47 rfl (lv_at hl 1 rfl) ?_
          refine lv_iconst (v := nI 0) hx hb dX2_carry_48 (by decide) ?_
          refine rw_calli (wc := [(cb, .inr (0, [.int (nI 8000), .ref q, .int (nI L1.length)])), (q, .inl (ca 0, gcap 8000 gr, .inl f1))]) (wr := [(a, .inr (2, [.long rg, .int sv, .ref cb, .long lo]))]) hP hD hS hA [1, 2] [0] rfl rfl (by decide) (by decide) (va_runV (As := [.int (nI k), .int (nI 0)]) (rest := []) ⟨hx, hb, hml, hown, hts⟩ (c_BR_put l D ca cb q 8000 gr f1 L1 (nI k) (nI 0) (hB1) (by omega) (by decide) H.size) (cwV 2 hts gX2_carry_X0_put rfl rfl rfl (by decide +kernel) ⟨Nat.le_of_ble_eq_true rfl, Nat.le_of_ble_eq_true rfl⟩) ⟨rwP_blind, va_recv hK hP (ci := 0) (q0 := 1) rfl rfl, rwP_at hK hN (hP.sub [1, 2] rfl) (hD.sub [1, 2] (by decide) rfl)⟩ rfl rfl hl.1 rfl (lv_room (Nat.le_of_ble_eq_true rfl)) dX2_carry_49 ⟨Nat.le_of_ble_eq_true rfl, Nat.le_of_ble_eq_true rfl⟩) (fun r_2 u H locs hq hP hD hS => ?_)
          obtain ⟨f1_3, rfl⟩ : ∃ z, z = u := ⟨_, rfl⟩
          try dsimp only at hq
          have hP : va_P D vwCl [(a, .inr (2, [.long rg, .int sv, .ref cb, .long lo])), (cb, .inr (0, [.int (nI 8000), .ref q, .int (nI (putL L1 (nI k) (nI 0)).length)])), (q, .inl (ca 0, gcap 8000 gr, .inl f1_3))] H := hP
          have hD : va_D A [(a, .inr (2, [.long rg, .int sv, .ref cb, .long lo])), (cb, .inr (0, [.int (nI 8000), .ref q, .int (nI (putL L1 (nI k) (nI 0)).length)])), (q, .inl (ca 0, gcap 8000 gr, .inl f1_3))] := hD
          obtain ⟨hq1, hq2⟩ := hq
          have e5 : putL L1 (nI k) (nI 0) = L1.set k 0 := by unfold putL putOk; rw [inL_nI (by omega), isB_of (by decide), if_pos (by simp; omega), nI_clamp (by omega), nI_clamp (by decide)]
          have hP : va_P D vwCl [(a, .inr (2, [.long rg, .int sv, .ref cb, .long lo])), (cb, .inr (0, [.int (nI 8000), .ref q, .int (nI (L1.set k 0).length)])), (q, .inl (ca 0, gcap 8000 gr, .inl f1_3))] H := by rw [← e5]; exact hP
          have hD : va_D A [(a, .inr (2, [.long rg, .int sv, .ref cb, .long lo])), (cb, .inr (0, [.int (nI 8000), .ref q, .int (nI (L1.set k 0).length)])), (q, .inl (ca 0, gcap 8000 gr, .inl f1_3))] := by rw [← e5]; exact hD
          rw [e5] at hq2
          refine lv_pop hx hb dX2_carry_52 rfl ?_
          refine lv_iinc (v := nI k - nI 1) (lv' := [(1, .int (nI k - nI 1)), (2, .int (nI (L1.getD k 0))), (0, .ref a)]) hx hb dX2_carry_53 hl (k := 1) rfl (dec_k k) (by decide) rfl (fun ls hl => ?_)
          refine lv_goto (tgt := 10) hx hb dX2_carry_56 (by decide) ?_
          exact ih (L1.set k 0) f1_3 hq2 (by simp [hl1]) (by simp; omega) (set_lt hy1 (by decide)) (by rw [← hE, cryL_s, if_neg (by omega)]) H locs hP hD hS _ (lv_sub hl [0, 2] rfl)
        · refine lv_aload_n hx hb dX2_carry_30 rfl (lv_at hl 2 rfl) ?_
          refine va_get (D := D) (ci := 2) (v := .ref cb) (C := RX2) (T := TX2) (N := 4) hx hb hts hin_X2 hown hK hP 0 rfl rfl 2 (by decide) hl_9 (fun _ h9 => h9) rfl dX2_carry_31 ?_
          refine lv_iload_n hx hb dX2_carry_34 rfl (lv_at hl 1 rfl) ?_
          refine lv_iload_n hx hb dX2_carry_35 rfl (lv_at hl 0 rfl) ?_
          refine lv_iconst (v := nI 1) hx hb dX2_carry_36 (by decide) ?_
          refine lv_iadd hx hb dX2_carry_37 ?_
          refine tp_i (y := nI (L1.getD k 0 + 1)) (nI_1 _) ?_
          refine rw_calli (wc := [(cb, .inr (0, [.int (nI 8000), .ref q, .int (nI L1.length)])), (q, .inl (ca 0, gcap 8000 gr, .inl f1))]) (wr := [(a, .inr (2, [.long rg, .int sv, .ref cb, .long lo]))]) hP hD hS hA [1, 2] [0] rfl rfl (by decide) (by decide) (va_runV (As := [.int (nI k), .int (nI (L1.getD k 0 + 1))]) (rest := []) ⟨hx, hb, hml, hown, hts⟩ (c_BR_put l D ca cb q 8000 gr f1 L1 (nI k) (nI (L1.getD k 0 + 1)) (hB1) (by omega) (by decide) H.size) (cwV 2 hts gX2_carry_X0_put rfl rfl rfl (by decide +kernel) ⟨Nat.le_of_ble_eq_true rfl, Nat.le_of_ble_eq_true rfl⟩) ⟨rwP_blind, va_recv hK hP (ci := 0) (q0 := 1) rfl rfl, rwP_at hK hN (hP.sub [1, 2] rfl) (hD.sub [1, 2] (by decide) rfl)⟩ rfl rfl hl.1 rfl (lv_room (Nat.le_of_ble_eq_true rfl)) dX2_carry_38 ⟨Nat.le_of_ble_eq_true rfl, Nat.le_of_ble_eq_true rfl⟩) (fun r_4 u H locs hq hP hD hS => ?_)
          obtain ⟨f1_5, rfl⟩ : ∃ z, z = u := ⟨_, rfl⟩
          try dsimp only at hq
          have hP : va_P D vwCl [(a, .inr (2, [.long rg, .int sv, .ref cb, .long lo])), (cb, .inr (0, [.int (nI 8000), .ref q, .int (nI (putL L1 (nI k) (nI (L1.getD k 0 + 1))).length)])), (q, .inl (ca 0, gcap 8000 gr, .inl f1_5))] H := hP
          have hD : va_D A [(a, .inr (2, [.long rg, .int sv, .ref cb, .long lo])), (cb, .inr (0, [.int (nI 8000), .ref q, .int (nI (putL L1 (nI k) (nI (L1.getD k 0 + 1))).length)])), (q, .inl (ca 0, gcap 8000 gr, .inl f1_5))] := hD
          obtain ⟨hq1, hq2⟩ := hq
          have e5 : putL L1 (nI k) (nI (L1.getD k 0 + 1)) = cryL L L.length := by rw [← hE, cryL_s, if_pos (by omega)]; unfold putL putOk; rw [inL_nI (by omega), isB_of (by omega), if_pos (by simp; omega), nI_clamp (by omega), nI_clamp (by omega)]
          refine lv_pop hx hb dX2_carry_41 rfl ?_
          have hP : va_P D vwCl [(a, .inr (2, [.long rg, .int sv, .ref cb, .long lo])), (cb, .inr (0, [.int (nI 8000), .ref q, .int (nI (cryL L L.length).length)])), (q, .inl (ca 0, gcap 8000 gr, .inl f1_5))] H := by rw [← e5]; exact hP
          have hD : va_D A [(a, .inr (2, [.long rg, .int sv, .ref cb, .long lo])), (cb, .inr (0, [.int (nI 8000), .ref q, .int (nI (cryL L L.length).length)])), (q, .inl (ca 0, gcap 8000 gr, .inl f1_5))] := by rw [← e5]; exact hD
          exact rw_vret (u := f1_5) hx hb hr hlocks (e5 ▸ hq2) (hP.sub [0, 1, 2] rfl) (hD.sub [0, 1, 2] (by decide) rfl) hS (Nat.le_refl _) (Nat.le_refl _) dX2_carry_42
  refine lv_aload_n hx hb dX2_carry_0 rfl (lv_at hl 0 rfl) ?_
  refine va_get (D := D) (ci := 2) (v := .ref cb) (C := RX2) (T := TX2) (N := 4) hx hb hts hin_X2 hown hK hP 0 rfl rfl 2 (by decide) hl_9 (fun _ h9 => h9) rfl dX2_carry_1 ?_
  refine vp_callSi (va_Run.run (va_runV (As := []) (rest := []) ⟨hx, hb, hml, hown, hts⟩ (c_BR_length l D ca cb q 8000 gr f L ) (cwV 0 hts gX2_carry_X0_length rfl rfl rfl (by decide +kernel) ⟨Nat.le_of_ble_eq_true rfl, Nat.le_of_ble_eq_true rfl⟩) ⟨roP_blind, va_recv hK hP (ci := 0) (q0 := 1) rfl rfl, roP_at hK hN (hP.sub [1, 2] rfl)⟩ rfl rfl hl.1 rfl (lv_room (Nat.le_of_ble_eq_true rfl)) dX2_carry_4 ⟨Nat.le_of_ble_eq_true rfl, Nat.le_of_ble_eq_true rfl⟩)) (fun r_6 hq => ?_)
  subst hq
  refine lv_iconst (v := nI 1) hx hb dX2_carry_7 (by decide) ?_
  refine lv_isub hx hb dX2_carry_8 ?_
  refine lv_istore_n (lv' := [(1, .int ((nI L.length) - (nI 1))), (0, .ref a)]) hx hb dX2_carry_9 rfl hl (by decide) rfl (fun ls hl => ?_)
  exact hlo L.length L f hB rfl (Nat.le_refl _) hy rfl s.heap [] hP hD hS _ hl
end
section
set_option maxHeartbeats 4000000 in
set_option maxRecDepth 100000 in
theorem c_W_raise (l : Launch) (D : va_G) (ca : Nat → ClassId) (a : Nat) (cb : Nat) (q : Nat) (gr : Nat) (R : Nat) (sh : Nat) (x : Nat) (n : Nat) (f : Nat → Int32) (by_ : Nat) (hB : BR f (dig n (x / 4294967296))) (hL : n ≤ gcap 8000 gr) (hby : by_ < 4294967296) (sz : Nat) : Met l yX2_raiseLow wsX2_raiseLow { frames := 3, cells := 0, slots := 0, locals := 64 } (rwP D vwCl (ATy ca) [(a, .inr (2, [.long (lN R), .int (nI sh), .ref cb, .long (lN (x % 4294967296))])), (cb, .inr (0, [.int (nI 8000), .ref q, .int (nI (dig n (x / 4294967296)).length)])), (q, .inl (ca 0, gcap 8000 gr, .inl f))] sz [.ref a, .long (lN by_)]) (va_Qv (fun (u : (Nat → Int32)) => BR u (dig n ((x + by_) / 4294967296))) (bB D vwCl (fun (u : (Nat → Int32)) => [(a, .inr (2, [.long (lN R), .int (nI sh), .ref cb, .long (lN ((x + by_) % 4294967296))])), (cb, .inr (0, [.int (nI 8000), .ref q, .int (nI (dig n ((x + by_) / 4294967296)).length)])), (q, .inl (ca 0, gcap 8000 gr, .inl u))]) (va_A [(a, .inr (2, [.long (lN R), .int (nI sh), .ref cb, .long (lN (x % 4294967296))])), (cb, .inr (0, [.int (nI 8000), .ref q, .int (nI (dig n (x / 4294967296)).length)])), (q, .inl (ca 0, gcap 8000 gr, .inl f))] sz)) (va_A [(a, .inr (2, [.long (lN R), .int (nI sh), .ref cb, .long (lN (x % 4294967296))])), (cb, .inr (0, [.int (nI 8000), .ref q, .int (nI (dig n (x / 4294967296)).length)])), (q, .inl (ca 0, gcap 8000 gr, .inl f))] sz)) 0 0 (va_A [(a, .inr (2, [.long (lN R), .int (nI sh), .ref cb, .long (lN (x % 4294967296))])), (cb, .inr (0, [.int (nI 8000), .ref q, .int (nI (dig n (x / 4294967296)).length)])), (q, .inl (ca 0, gcap 8000 gr, .inl f))] sz) := by
  refine rw_enter (Q := fun A => va_Qv (fun (u : (Nat → Int32)) => BR u (dig n ((x + by_) / 4294967296))) (bB D vwCl (fun (u : (Nat → Int32)) => [(a, .inr (2, [.long (lN R), .int (nI sh), .ref cb, .long (lN ((x + by_) % 4294967296))])), (cb, .inr (0, [.int (nI 8000), .ref q, .int (nI (dig n ((x + by_) / 4294967296)).length)])), (q, .inl (ca 0, gcap 8000 gr, .inl u))]) A) A) (by decide) rfl (Nat.le_of_ble_eq_true rfl) ?_
  intro p e s m below meth c ls A C hnm hK hN hP hD hA hl
  have hS : va_S A s.heap s.heap [] := va_S.rf
  obtain ⟨hx, hb, hr, hml, hown, hlocks, hts⟩ := C
  have hl : lv_has ls 3 [(0, .ref a), (1, .long (lN by_))] := hl
  have hin_X2 : ∀ w ∈ wsX20, w ∈ wsX2_raiseLow := by decide +kernel
  have hl_23 := hts (.fieldLink RX2 23 "EscapeCoder$CodeWriter" "low" "J") (by decide +kernel)
  have hw_774d20 := hts (.constantLong RX2 27 (lN 4294967295)) (by decide +kernel)
  refine lv_aload_n hx hb dX2_raiseLow_0 rfl (lv_at hl 0 rfl) ?_
  refine lv_dup hx hb dX2_raiseLow_1 rfl ?_
  refine va_get (D := D) (ci := 2) (v := .long (lN (x % 4294967296))) (C := RX2) (T := TX2) (N := 4) hx hb hts hin_X2 hown hK hP 0 rfl rfl 3 (by decide) hl_23 (fun _ h9 => h9) rfl dX2_raiseLow_2 ?_
  refine lv_lload_n hx hb dX2_raiseLow_5 rfl (lv_at hl 1 rfl) ?_
  refine lv_ladd hx hb dX2_raiseLow_6 ?_
  refine tp_l (y := lN (x % 4294967296 + by_)) (lN_add _ _) ?_
  refine va_put (D := D) (ci := 2) (v := .long (lN (x % 4294967296 + by_))) (ty := .long) (C := RX2) (T := TX2) (N := 4) hx hb hts hin_X2 tyX2 tyX2_ok nmX2 hown hK hP hD hS 0 rfl rfl 3 (by decide) hl_23 (fun _ h9 => h9) rfl (by decide +kernel) rfl rfl (Nat.le_of_ble_eq_true rfl) dX2_raiseLow_7 (fun H locs hP hD hS => ?_)
  have hP : va_P D vwCl [(a, .inr (2, [.long (lN R), .int (nI sh), .ref cb, .long (lN (x % 4294967296 + by_))])), (cb, .inr (0, [.int (nI 8000), .ref q, .int (nI (dig n (x / 4294967296)).length)])), (q, .inl (ca 0, gcap 8000 gr, .inl f))] H := hP
  have hD : va_D A [(a, .inr (2, [.long (lN R), .int (nI sh), .ref cb, .long (lN (x % 4294967296 + by_))])), (cb, .inr (0, [.int (nI 8000), .ref q, .int (nI (dig n (x / 4294967296)).length)])), (q, .inl (ca 0, gcap 8000 gr, .inl f))] := hD
  refine lv_aload_n hx hb dX2_raiseLow_10 rfl (lv_at hl 0 rfl) ?_
  refine va_get (D := D) (ci := 2) (v := .long (lN (x % 4294967296 + by_))) (C := RX2) (T := TX2) (N := 4) hx hb hts hin_X2 hown hK hP 0 rfl rfl 3 (by decide) hl_23 (fun _ h9 => h9) rfl dX2_raiseLow_11 ?_
  refine lv_ldc2 (v := lN 4294967295) hx hb hown hw_774d20 dX2_raiseLow_14 ?_
  refine W.lcmp hx hb dX2_raiseLow_17 ?_
  refine bl_le (tgt := 37) hx hb dX2_raiseLow_18 (by decide) (by omega) (by omega) (fun h1 => ?_) (fun h1 => ?_)
  · have e1 : (x + by_) % 4294967296 = x % 4294967296 + by_ := by omega
    have e2 : (x + by_) / 4294967296 = x / 4294967296 := by omega
    have hP : va_P D vwCl [(a, .inr (2, [.long (lN R), .int (nI sh), .ref cb, .long (lN ((x + by_) % 4294967296))])), (cb, .inr (0, [.int (nI 8000), .ref q, .int (nI (dig n ((x + by_) / 4294967296)).length)])), (q, .inl (ca 0, gcap 8000 gr, .inl f))] H := by rw [e1, e2]; exact hP
    have hD : va_D A [(a, .inr (2, [.long (lN R), .int (nI sh), .ref cb, .long (lN ((x + by_) % 4294967296))])), (cb, .inr (0, [.int (nI 8000), .ref q, .int (nI (dig n ((x + by_) / 4294967296)).length)])), (q, .inl (ca 0, gcap 8000 gr, .inl f))] := by rw [e1, e2]; exact hD
    exact rw_vret (u := f) hx hb hr hlocks (e2 ▸ hB) (hP.sub [0, 1, 2] rfl) (hD.sub [0, 1, 2] (by decide) rfl) hS (Nat.le_refl _) (Nat.le_refl _) dX2_raiseLow_37
  · refine lv_aload_n hx hb dX2_raiseLow_21 rfl (lv_at hl 0 rfl) ?_
    refine lv_dup hx hb dX2_raiseLow_22 rfl ?_
    refine va_get (D := D) (ci := 2) (v := .long (lN (x % 4294967296 + by_))) (C := RX2) (T := TX2) (N := 4) hx hb hts hin_X2 hown hK hP 0 rfl rfl 3 (by decide) hl_23 (fun _ h9 => h9) rfl dX2_raiseLow_23 ?_
    refine lv_ldc2 (v := lN 4294967295) hx hb hown hw_774d20 dX2_raiseLow_26 ?_
    refine lv_land hx hb dX2_raiseLow_29 ?_
    refine tp_l (y := lN ((x % 4294967296 + by_) % 4294967296)) (m32 (by omega)) ?_
    refine va_put (D := D) (ci := 2) (v := .long (lN ((x % 4294967296 + by_) % 4294967296))) (ty := .long) (C := RX2) (T := TX2) (N := 4) hx hb hts hin_X2 tyX2 tyX2_ok nmX2 hown hK hP hD hS 0 rfl rfl 3 (by decide) hl_23 (fun _ h9 => h9) rfl (by decide +kernel) rfl rfl (Nat.le_of_ble_eq_true rfl) dX2_raiseLow_30 (fun H locs hP hD hS => ?_)
    have hP : va_P D vwCl [(a, .inr (2, [.long (lN R), .int (nI sh), .ref cb, .long (lN ((x % 4294967296 + by_) % 4294967296))])), (cb, .inr (0, [.int (nI 8000), .ref q, .int (nI (dig n (x / 4294967296)).length)])), (q, .inl (ca 0, gcap 8000 gr, .inl f))] H := hP
    have hD : va_D A [(a, .inr (2, [.long (lN R), .int (nI sh), .ref cb, .long (lN ((x % 4294967296 + by_) % 4294967296))])), (cb, .inr (0, [.int (nI 8000), .ref q, .int (nI (dig n (x / 4294967296)).length)])), (q, .inl (ca 0, gcap 8000 gr, .inl f))] := hD
    refine lv_aload_n hx hb dX2_raiseLow_33 rfl (lv_at hl 0 rfl) ?_
    refine rw_callv (wc := [(a, .inr (2, [.long (lN R), .int (nI sh), .ref cb, .long (lN ((x % 4294967296 + by_) % 4294967296))])), (cb, .inr (0, [.int (nI 8000), .ref q, .int (nI (dig n (x / 4294967296)).length)])), (q, .inl (ca 0, gcap 8000 gr, .inl f))]) (wr := []) hP hD hS hA [0, 1, 2] [] rfl rfl (by decide) (by decide) (va_runV (As := []) (rest := []) ⟨hx, hb, hml, hown, hts⟩ (c_W_carry l D ca a cb q gr (lN R) (lN ((x % 4294967296 + by_) % 4294967296)) (nI sh) f (dig n (x / 4294967296)) (hB) (by rw [dig_len]; exact hL) (dig_lt _ _) H.size) (cwV 0 hts gX2_raiseLow_X2_carry rfl rfl rfl (by decide +kernel) ⟨Nat.le_of_ble_eq_true rfl, Nat.le_of_ble_eq_true rfl⟩) ⟨rwP_blind, va_recv hK hP (ci := 2) (q0 := 0) rfl rfl, rwP_at hK hN (hP.sub [0, 1, 2] rfl) (hD.sub [0, 1, 2] (by decide) rfl)⟩ rfl rfl hl.1 rfl (lv_room (Nat.le_of_ble_eq_true rfl)) dX2_raiseLow_34 ⟨Nat.le_of_ble_eq_true rfl, Nat.le_of_ble_eq_true rfl⟩) (fun u H locs hq hP hD hS => ?_)
    obtain ⟨f1_2, rfl⟩ : ∃ z, z = u := ⟨_, rfl⟩
    try dsimp only at hq
    have hP : va_P D vwCl [(a, .inr (2, [.long (lN R), .int (nI sh), .ref cb, .long (lN ((x % 4294967296 + by_) % 4294967296))])), (cb, .inr (0, [.int (nI 8000), .ref q, .int (nI (cryL (dig n (x / 4294967296)) (dig n (x / 4294967296)).length).length)])), (q, .inl (ca 0, gcap 8000 gr, .inl f1_2))] H := hP
    have hD : va_D A [(a, .inr (2, [.long (lN R), .int (nI sh), .ref cb, .long (lN ((x % 4294967296 + by_) % 4294967296))])), (cb, .inr (0, [.int (nI 8000), .ref q, .int (nI (cryL (dig n (x / 4294967296)) (dig n (x / 4294967296)).length).length)])), (q, .inl (ca 0, gcap 8000 gr, .inl f1_2))] := hD
    have e1 : (x + by_) % 4294967296 = (x % 4294967296 + by_) % 4294967296 := by omega
    have e2 : cryL (dig n (x / 4294967296)) (dig n (x / 4294967296)).length = dig n ((x + by_) / 4294967296) := by
      have h3 := cryL_dig n (x / 4294967296) []
      rw [List.append_nil, List.append_nil] at h3
      rw [dig_len, h3, show x / 4294967296 + 1 = (x + by_) / 4294967296 by omega]
    have hP : va_P D vwCl [(a, .inr (2, [.long (lN R), .int (nI sh), .ref cb, .long (lN ((x + by_) % 4294967296))])), (cb, .inr (0, [.int (nI 8000), .ref q, .int (nI (dig n ((x + by_) / 4294967296)).length)])), (q, .inl (ca 0, gcap 8000 gr, .inl f1_2))] H := by rw [← e2, e1]; exact hP
    have hD : va_D A [(a, .inr (2, [.long (lN R), .int (nI sh), .ref cb, .long (lN ((x + by_) % 4294967296))])), (cb, .inr (0, [.int (nI 8000), .ref q, .int (nI (dig n ((x + by_) / 4294967296)).length)])), (q, .inl (ca 0, gcap 8000 gr, .inl f1_2))] := by rw [← e2, e1]; exact hD
    exact rw_vret (u := f1_2) hx hb hr hlocks (e2 ▸ hq) (hP.sub [0, 1, 2] rfl) (hD.sub [0, 1, 2] (by decide) rfl) hS (Nat.le_refl _) (Nat.le_refl _) dX2_raiseLow_37

set_option maxHeartbeats 4000000 in
set_option maxRecDepth 100000 in
theorem c_W_shift (l : Launch) (D : va_G) (ca : Nat → ClassId) (a : Nat) (cb : Nat) (q : Nat) (gr : Nat) (R : Nat) (sh : Nat) (x : Nat) (n : Nat) (f : Nat → Int32) (hB : BR f (dig n (x / 4294967296))) (hL : n ≤ gcap 8000 gr) (hn : n < 8000) (sz : Nat) : Met l yX2_shiftOnce wsX2_shiftOnce { frames := 3, cells := max gr (gN (n + 1)) - gr, slots := 20000 * (max gr (gN (n + 1)) - gr), locals := 69 } (rwP D vwCl (ATy ca) [(a, .inr (2, [.long (lN R), .int (nI sh), .ref cb, .long (lN (x % 4294967296))])), (cb, .inr (0, [.int (nI 8000), .ref q, .int (nI (dig n (x / 4294967296)).length)])), (q, .inl (ca 0, gcap 8000 gr, .inl f))] sz [.ref a]) (va_Qv (fun (u : Nat × (Nat → Int32)) => BR u.2 (dig (n + 1) (x * 256 / 4294967296))) (bB D vwCl (fun (u : Nat × (Nat → Int32)) => [(a, .inr (2, [.long (lN R), .int (nI sh), .ref cb, .long (lN ((x * 256) % 4294967296))])), (cb, .inr (0, [.int (nI 8000), .ref u.1, .int (nI (dig (n + 1) ((x * 256) / 4294967296)).length)])), (u.1, .inl (ca 0, gcap 8000 (max gr (gN (n + 1))), .inl u.2))]) (va_A [(a, .inr (2, [.long (lN R), .int (nI sh), .ref cb, .long (lN (x % 4294967296))])), (cb, .inr (0, [.int (nI 8000), .ref q, .int (nI (dig n (x / 4294967296)).length)])), (q, .inl (ca 0, gcap 8000 gr, .inl f))] sz)) (va_A [(a, .inr (2, [.long (lN R), .int (nI sh), .ref cb, .long (lN (x % 4294967296))])), (cb, .inr (0, [.int (nI 8000), .ref q, .int (nI (dig n (x / 4294967296)).length)])), (q, .inl (ca 0, gcap 8000 gr, .inl f))] sz)) (max gr (gN (n + 1)) - gr) (20000 * (max gr (gN (n + 1)) - gr)) (va_A [(a, .inr (2, [.long (lN R), .int (nI sh), .ref cb, .long (lN (x % 4294967296))])), (cb, .inr (0, [.int (nI 8000), .ref q, .int (nI (dig n (x / 4294967296)).length)])), (q, .inl (ca 0, gcap 8000 gr, .inl f))] sz) := by
  refine rw_enter (Q := fun A => va_Qv (fun (u : Nat × (Nat → Int32)) => BR u.2 (dig (n + 1) (x * 256 / 4294967296))) (bB D vwCl (fun (u : Nat × (Nat → Int32)) => [(a, .inr (2, [.long (lN R), .int (nI sh), .ref cb, .long (lN ((x * 256) % 4294967296))])), (cb, .inr (0, [.int (nI 8000), .ref u.1, .int (nI (dig (n + 1) ((x * 256) / 4294967296)).length)])), (u.1, .inl (ca 0, gcap 8000 (max gr (gN (n + 1))), .inl u.2))]) A) A) (by decide) rfl (Nat.le_of_ble_eq_true rfl) ?_
  intro p e s m below meth c ls A C hnm hK hN hP hD hA hl
  have hS : va_S A s.heap s.heap [] := va_S.rf
  obtain ⟨hx, hb, hr, hml, hown, hlocks, hts⟩ := C
  have hl : lv_has ls 1 [(0, .ref a)] := hl
  have hin_X2 : ∀ w ∈ wsX20, w ∈ wsX2_shiftOnce := by decide +kernel
  have hl_9 := hts (.fieldLink RX2 9 "EscapeCoder$CodeWriter" "code" "LEscapeCoder$ByteRow;") (by decide +kernel)
  have hl_23 := hts (.fieldLink RX2 23 "EscapeCoder$CodeWriter" "low" "J") (by decide +kernel)
  have hw_774d20 := hts (.constantLong RX2 27 (lN 4294967295)) (by decide +kernel)
  have hd : x % 4294967296 / 16777216 < 256 := by omega
  have e0 : (dig n (x / 4294967296)).length = n := dig_len _ _
  have e3 : grA 8000 gr (dig n (x / 4294967296)) (nI (x % 4294967296 / 16777216)) = max gr (gN (n + 1)) := by rw [grA_z hd (by omega), e0]
  have e4 : addL 8000 (dig n (x / 4294967296)) (nI (x % 4294967296 / 16777216)) = dig (n + 1) (x * 256 / 4294967296) := by rw [addL_y hd (by omega), dig_sh]
  refine lv_aload_n hx hb dX2_shiftOnce_0 rfl (lv_at hl 0 rfl) ?_
  refine va_get (D := D) (ci := 2) (v := .ref cb) (C := RX2) (T := TX2) (N := 4) hx hb hts hin_X2 hown hK hP 0 rfl rfl 2 (by decide) hl_9 (fun _ h9 => h9) rfl dX2_shiftOnce_1 ?_
  refine lv_aload_n hx hb dX2_shiftOnce_4 rfl (lv_at hl 0 rfl) ?_
  refine va_get (D := D) (ci := 2) (v := .long (lN (x % 4294967296))) (C := RX2) (T := TX2) (N := 4) hx hb hts hin_X2 hown hK hP 0 rfl rfl 3 (by decide) hl_23 (fun _ h9 => h9) rfl dX2_shiftOnce_5 ?_
  refine lv_bipush (v := nI 24) hx hb dX2_shiftOnce_8 (by decide) ?_
  refine lv_lushr (v := lN (x % 4294967296 / 16777216)) hx hb dX2_shiftOnce_10 (shr24 (by omega)) ?_
  refine lv_l2i (v := nI (x % 4294967296 / 16777216)) hx hb dX2_shiftOnce_11 (lN_i _) ?_
  refine rw_calli (wc := [(cb, .inr (0, [.int (nI 8000), .ref q, .int (nI (dig n (x / 4294967296)).length)])), (q, .inl (ca 0, gcap 8000 gr, .inl f))]) (wr := [(a, .inr (2, [.long (lN R), .int (nI sh), .ref cb, .long (lN (x % 4294967296))]))]) hP hD hS hA [1, 2] [0] rfl rfl (by decide) (by decide) (va_runV (As := [.int (nI (x % 4294967296 / 16777216))]) (rest := []) ⟨hx, hb, hml, hown, hts⟩ (c_BR_add l D ca cb q 8000 gr f (dig n (x / 4294967296)) (nI (x % 4294967296 / 16777216)) (hB) (by rw [e0]; exact hL) (by decide) s.heap.size) (cwV 1 hts gX2_shiftOnce_X0_add rfl rfl rfl (by decide +kernel) ⟨Nat.le_of_ble_eq_true rfl, Nat.le_of_ble_eq_true rfl⟩) ⟨rwP_blind, va_recv hK hP (ci := 0) (q0 := 1) rfl rfl, rwP_at hK hN (hP.sub [1, 2] rfl) (hD.sub [1, 2] (by decide) rfl)⟩ rfl rfl hl.1 rfl (lv_room (Nat.le_of_ble_eq_true rfl)) dX2_shiftOnce_12 ⟨by show 0 + _ ≤ max gr (gN (n + 1)) - gr; rw [e3]; omega, by show 0 + _ ≤ 20000 * (max gr (gN (n + 1)) - gr); rw [e3]; omega⟩) (fun r_1 u H locs hq hP hD hS => ?_)
  obtain ⟨q1_2, f1_3⟩ := u
  try dsimp only at hq
  have hP : va_P D vwCl [(a, .inr (2, [.long (lN R), .int (nI sh), .ref cb, .long (lN (x % 4294967296))])), (cb, .inr (0, [.int (nI 8000), .ref q1_2, .int (nI (addL 8000 (dig n (x / 4294967296)) (nI (x % 4294967296 / 16777216))).length)])), (q1_2, .inl (ca 0, gcap 8000 (grA 8000 gr (dig n (x / 4294967296)) (nI (x % 4294967296 / 16777216))), .inl f1_3))] H := hP
  have hD : va_D A [(a, .inr (2, [.long (lN R), .int (nI sh), .ref cb, .long (lN (x % 4294967296))])), (cb, .inr (0, [.int (nI 8000), .ref q1_2, .int (nI (addL 8000 (dig n (x / 4294967296)) (nI (x % 4294967296 / 16777216))).length)])), (q1_2, .inl (ca 0, gcap 8000 (grA 8000 gr (dig n (x / 4294967296)) (nI (x % 4294967296 / 16777216))), .inl f1_3))] := hD
  refine W.widen (k := max gr (gN (n + 1)) - gr) (n := 20000 * (max gr (gN (n + 1)) - gr)) (by rw [e3]; omega) (by rw [e3]; omega) ?_
  obtain ⟨hq1, hq2, hq3⟩ := hq
  rw [e4] at hq2
  refine lv_pop hx hb dX2_shiftOnce_15 rfl ?_
  refine lv_aload_n hx hb dX2_shiftOnce_16 rfl (lv_at hl 0 rfl) ?_
  refine lv_aload_n hx hb dX2_shiftOnce_17 rfl (lv_at hl 0 rfl) ?_
  refine va_get (D := D) (ci := 2) (v := .long (lN (x % 4294967296))) (C := RX2) (T := TX2) (N := 4) hx hb hts hin_X2 hown hK hP 0 rfl rfl 3 (by decide) hl_23 (fun _ h9 => h9) rfl dX2_shiftOnce_18 ?_
  refine lv_bipush (v := nI 8) hx hb dX2_shiftOnce_21 (by decide) ?_
  refine lv_lshl (v := lN (x % 4294967296 * 256)) hx hb dX2_shiftOnce_23 (shl8 _) ?_
  refine lv_ldc2 (v := lN 4294967295) hx hb hown hw_774d20 dX2_shiftOnce_24 ?_
  refine lv_land hx hb dX2_shiftOnce_27 ?_
  refine tp_l (y := lN (x * 256 % 4294967296)) ((m32 (by omega)).trans (congrArg lN (by omega))) ?_
  refine va_put (D := D) (ci := 2) (v := .long (lN (x * 256 % 4294967296))) (ty := .long) (C := RX2) (T := TX2) (N := 4) hx hb hts hin_X2 tyX2 tyX2_ok nmX2 hown hK hP hD hS 0 rfl rfl 3 (by decide) hl_23 (fun _ h9 => h9) rfl (by decide +kernel) rfl rfl (Nat.le_of_ble_eq_true rfl) dX2_shiftOnce_28 (fun H locs hP hD hS => ?_)
  have hP : va_P D vwCl [(a, .inr (2, [.long (lN R), .int (nI sh), .ref cb, .long (lN (x * 256 % 4294967296))])), (cb, .inr (0, [.int (nI 8000), .ref q1_2, .int (nI (addL 8000 (dig n (x / 4294967296)) (nI (x % 4294967296 / 16777216))).length)])), (q1_2, .inl (ca 0, gcap 8000 (grA 8000 gr (dig n (x / 4294967296)) (nI (x % 4294967296 / 16777216))), .inl f1_3))] H := hP
  have hD : va_D A [(a, .inr (2, [.long (lN R), .int (nI sh), .ref cb, .long (lN (x * 256 % 4294967296))])), (cb, .inr (0, [.int (nI 8000), .ref q1_2, .int (nI (addL 8000 (dig n (x / 4294967296)) (nI (x % 4294967296 / 16777216))).length)])), (q1_2, .inl (ca 0, gcap 8000 (grA 8000 gr (dig n (x / 4294967296)) (nI (x % 4294967296 / 16777216))), .inl f1_3))] := hD
  have hP : va_P D vwCl [(a, .inr (2, [.long (lN R), .int (nI sh), .ref cb, .long (lN (x * 256 % 4294967296))])), (cb, .inr (0, [.int (nI 8000), .ref q1_2, .int (nI (dig (n + 1) ((x * 256) / 4294967296)).length)])), (q1_2, .inl (ca 0, gcap 8000 (max gr (gN (n + 1))), .inl f1_3))] H := by rw [← e3, ← e4]; exact hP
  have hD : va_D A [(a, .inr (2, [.long (lN R), .int (nI sh), .ref cb, .long (lN (x * 256 % 4294967296))])), (cb, .inr (0, [.int (nI 8000), .ref q1_2, .int (nI (dig (n + 1) ((x * 256) / 4294967296)).length)])), (q1_2, .inl (ca 0, gcap 8000 (max gr (gN (n + 1))), .inl f1_3))] := by rw [← e3, ← e4]; exact hD
  exact rw_vret (u := (q1_2, f1_3)) hx hb hr hlocks (hq2) (hP.sub [0, 1, 2] rfl) (hD.sub [0, 1, 2] (by decide) rfl) hS (Nat.le_refl _) (Nat.le_refl _) dX2_shiftOnce_31

set_option maxHeartbeats 4000000 in
set_option maxRecDepth 100000 in
theorem c_W_place (l : Launch) (D : va_G) (ca : Nat → ClassId) (a : Nat) (cb : Nat) (rg : Int64) (lo : Int64) (sv : Int32) (t : Int32) (w : Int32)  : Met l yX2_placeIn wsX2_placeIn { frames := 0, cells := 0, slots := 0, locals := 0 } (roP D vwCl (ATy ca) [(a, .inr (2, [.long rg, .int sv, .ref cb, .long lo]))] [.ref a, .int t, .int w]) (vp_Si (fun r : Int32 => r = w)) 0 0 (fun _ => False) := by
  refine ro_enter (by decide) rfl (Nat.le_of_ble_eq_true rfl) ?_
  intro p e s m below meth c ls C hK hN hP hl
  obtain ⟨hx, hb, hr, hml, hown, hlocks, hts⟩ := C
  have hl : lv_has ls 3 [(0, .ref a), (1, .int t), (2, .int w)] := hl
  refine lv_iload_n hx hb dX2_placeIn_0 rfl (lv_at hl 2 rfl) ?_
  exact ro_iret hx hb hr hlocks (rfl) dX2_placeIn_1

set_option maxHeartbeats 4000000 in
set_option maxRecDepth 100000 in
theorem c_W_restart (l : Launch) (D : va_G) (ca : Nat → ClassId) (a : Nat) (cb : Nat) (q : Nat) (gr : Nat) (rg : Int64) (lo : Int64) (sv : Int32) (f : Nat → Int32) (L : List Nat)  (sz : Nat) : Met l yX2_restart wsX2_restart { frames := 1, cells := 0, slots := 0, locals := 20 } (rwP D vwCl (ATy ca) [(a, .inr (2, [.long rg, .int sv, .ref cb, .long lo])), (cb, .inr (0, [.int (nI 8000), .ref q, .int (nI L.length)])), (q, .inl (ca 0, gcap 8000 gr, .inl f))] sz [.ref a]) (va_Qv (fun (u : Unit) => True) (bB D vwCl (fun (u : Unit) => [(a, .inr (2, [.long (lN 4294967295), .int (nI 0), .ref cb, .long (lN (0 % 4294967296))])), (cb, .inr (0, [.int (nI 8000), .ref q, .int (nI (dig 0 (0 / 4294967296)).length)])), (q, .inl (ca 0, gcap 8000 gr, .inl f))]) (va_A [(a, .inr (2, [.long rg, .int sv, .ref cb, .long lo])), (cb, .inr (0, [.int (nI 8000), .ref q, .int (nI L.length)])), (q, .inl (ca 0, gcap 8000 gr, .inl f))] sz)) (va_A [(a, .inr (2, [.long rg, .int sv, .ref cb, .long lo])), (cb, .inr (0, [.int (nI 8000), .ref q, .int (nI L.length)])), (q, .inl (ca 0, gcap 8000 gr, .inl f))] sz)) 0 0 (va_A [(a, .inr (2, [.long rg, .int sv, .ref cb, .long lo])), (cb, .inr (0, [.int (nI 8000), .ref q, .int (nI L.length)])), (q, .inl (ca 0, gcap 8000 gr, .inl f))] sz) := by
  refine rw_enter (Q := fun A => va_Qv (fun (u : Unit) => True) (bB D vwCl (fun (u : Unit) => [(a, .inr (2, [.long (lN 4294967295), .int (nI 0), .ref cb, .long (lN (0 % 4294967296))])), (cb, .inr (0, [.int (nI 8000), .ref q, .int (nI (dig 0 (0 / 4294967296)).length)])), (q, .inl (ca 0, gcap 8000 gr, .inl f))]) A) A) (by decide) rfl (Nat.le_of_ble_eq_true rfl) ?_
  intro p e s m below meth c ls A C hnm hK hN hP hD hA hl
  have hS : va_S A s.heap s.heap [] := va_S.rf
  obtain ⟨hx, hb, hr, hml, hown, hlocks, hts⟩ := C
  have hl : lv_has ls 1 [(0, .ref a)] := hl
  have hin_X2 : ∀ w ∈ wsX20, w ∈ wsX2_restart := by decide +kernel
  have hl_9 := hts (.fieldLink RX2 9 "EscapeCoder$CodeWriter" "code" "LEscapeCoder$ByteRow;") (by decide +kernel)
  have hl_23 := hts (.fieldLink RX2 23 "EscapeCoder$CodeWriter" "low" "J") (by decide +kernel)
  refine lv_aload_n hx hb dX2_restart_0 rfl (lv_at hl 0 rfl) ?_
  refine rw_callv (wc := [(a, .inr (2, [.long rg, .int sv, .ref cb, .long lo]))]) (wr := [(cb, .inr (0, [.int (nI 8000), .ref q, .int (nI L.length)])), (q, .inl (ca 0, gcap 8000 gr, .inl f))]) hP hD hS hA [0] [1, 2] rfl rfl (by decide) (by decide) (va_runU (As := []) (rest := []) ⟨hx, hb, hml, hown, hts⟩ (c_W_widen l D ca a cb rg lo sv  s.heap.size) (va_cwU 0 hts gX2_restart_X3_widen_u15X2 rfl rfl rfl rfl (by decide +kernel) ⟨Nat.le_of_ble_eq_true rfl, Nat.le_of_ble_eq_true rfl⟩) ⟨rwP_blind, va_recv hK hP (ci := 2) (q0 := 0) rfl rfl, rwP_at hK hN (hP.sub [0] rfl) (hD.sub [0] (by decide) rfl)⟩ rfl rfl hl.1 rfl (lv_room (Nat.le_of_ble_eq_true rfl)) dX2_restart_1 ⟨Nat.le_of_ble_eq_true rfl, Nat.le_of_ble_eq_true rfl⟩) (fun u H locs hq hP hD hS => ?_)
  try dsimp only at hq
  have hP : va_P D vwCl [(cb, .inr (0, [.int (nI 8000), .ref q, .int (nI L.length)])), (q, .inl (ca 0, gcap 8000 gr, .inl f)), (a, .inr (2, [.long (lN 4294967295), .int (nI 0), .ref cb, .long lo]))] H := hP
  have hD : va_D A [(cb, .inr (0, [.int (nI 8000), .ref q, .int (nI L.length)])), (q, .inl (ca 0, gcap 8000 gr, .inl f)), (a, .inr (2, [.long (lN 4294967295), .int (nI 0), .ref cb, .long lo]))] := hD
  refine lv_aload_n hx hb dX2_restart_4 rfl (lv_at hl 0 rfl) ?_
  refine va_get (D := D) (ci := 2) (v := .ref cb) (C := RX2) (T := TX2) (N := 4) hx hb hts hin_X2 hown hK hP 2 rfl rfl 2 (by decide) hl_9 (fun _ h9 => h9) rfl dX2_restart_5 ?_
  refine rw_callv (wc := [(cb, .inr (0, [.int (nI 8000), .ref q, .int (nI L.length)])), (q, .inl (ca 0, gcap 8000 gr, .inl f))]) (wr := [(a, .inr (2, [.long (lN 4294967295), .int (nI 0), .ref cb, .long lo]))]) hP hD hS hA [0, 1] [2] rfl rfl (by decide) (by decide) (va_runV (As := []) (rest := []) ⟨hx, hb, hml, hown, hts⟩ (c_BR_clear l D ca cb q 8000 gr f L  H.size) (cwV 0 hts gX2_restart_X0_clear rfl rfl rfl (by decide +kernel) ⟨Nat.le_of_ble_eq_true rfl, Nat.le_of_ble_eq_true rfl⟩) ⟨rwP_blind, va_recv hK hP (ci := 0) (q0 := 0) rfl rfl, rwP_at hK hN (hP.sub [0, 1] rfl) (hD.sub [0, 1] (by decide) rfl)⟩ rfl rfl hl.1 rfl (lv_room (Nat.le_of_ble_eq_true rfl)) dX2_restart_8 ⟨Nat.le_of_ble_eq_true rfl, Nat.le_of_ble_eq_true rfl⟩) (fun u H locs hq hP hD hS => ?_)
  try dsimp only at hq
  have hP : va_P D vwCl [(a, .inr (2, [.long (lN 4294967295), .int (nI 0), .ref cb, .long lo])), (cb, .inr (0, [.int (nI 8000), .ref q, .int (nI ([] : List Nat).length)])), (q, .inl (ca 0, gcap 8000 gr, .inl f))] H := hP
  have hD : va_D A [(a, .inr (2, [.long (lN 4294967295), .int (nI 0), .ref cb, .long lo])), (cb, .inr (0, [.int (nI 8000), .ref q, .int (nI ([] : List Nat).length)])), (q, .inl (ca 0, gcap 8000 gr, .inl f))] := hD
  refine lv_aload_n hx hb dX2_restart_11 rfl (lv_at hl 0 rfl) ?_
  refine lv_lconst (v := lN 0) hx hb dX2_restart_12 (by decide) ?_
  refine va_put (D := D) (ci := 2) (v := .long (lN 0)) (ty := .long) (C := RX2) (T := TX2) (N := 4) hx hb hts hin_X2 tyX2 tyX2_ok nmX2 hown hK hP hD hS 0 rfl rfl 3 (by decide) hl_23 (fun _ h9 => h9) rfl (by decide +kernel) rfl rfl (Nat.le_of_ble_eq_true rfl) dX2_restart_13 (fun H locs hP hD hS => ?_)
  have hP : va_P D vwCl [(a, .inr (2, [.long (lN 4294967295), .int (nI 0), .ref cb, .long (lN 0)])), (cb, .inr (0, [.int (nI 8000), .ref q, .int (nI ([] : List Nat).length)])), (q, .inl (ca 0, gcap 8000 gr, .inl f))] H := hP
  have hD : va_D A [(a, .inr (2, [.long (lN 4294967295), .int (nI 0), .ref cb, .long (lN 0)])), (cb, .inr (0, [.int (nI 8000), .ref q, .int (nI ([] : List Nat).length)])), (q, .inl (ca 0, gcap 8000 gr, .inl f))] := hD
  exact rw_vret (u := ()) hx hb hr hlocks (trivial) (hP.sub [0, 1, 2] rfl) (hD.sub [0, 1, 2] (by decide) rfl) hS (Nat.le_refl _) (Nat.le_refl _) dX2_restart_16

set_option maxHeartbeats 4000000 in
set_option maxRecDepth 100000 in
theorem c_W_finish (l : Launch) (D : va_G) (ca : Nat → ClassId) (a : Nat) (cb : Nat) (q : Nat) (gr : Nat) (R : Nat) (sh : Nat) (x : Nat) (f : Nat → Int32) (hB : BR f (dig sh (x / 4294967296))) (hL : sh ≤ gcap 8000 gr) (hn : sh + 4 ≤ 8000) (sz : Nat) : Met l yX2_finish wsX2_finish { frames := 3, cells := max gr (gN (sh + 4)) - gr, slots := 20000 * (max gr (gN (sh + 4)) - gr), locals := 69 } (rwP D vwCl (ATy ca) [(a, .inr (2, [.long (lN R), .int (nI sh), .ref cb, .long (lN (x % 4294967296))])), (cb, .inr (0, [.int (nI 8000), .ref q, .int (nI (dig sh (x / 4294967296)).length)])), (q, .inl (ca 0, gcap 8000 gr, .inl f))] sz [.ref a]) (va_Qi (fun (r : Int32) (u : Nat × (Nat → Int32)) => r = bI true ∧ BR u.2 (dig (sh + 4) x)) (bB D vwCl (fun (u : Nat × (Nat → Int32)) => [(a, .inr (2, [.long (lN R), .int (nI sh), .ref cb, .long (lN (x % 4294967296))])), (cb, .inr (0, [.int (nI 8000), .ref u.1, .int (nI (dig (sh + 4) x).length)])), (u.1, .inl (ca 0, gcap 8000 (max gr (gN (sh + 4))), .inl u.2))]) (va_A [(a, .inr (2, [.long (lN R), .int (nI sh), .ref cb, .long (lN (x % 4294967296))])), (cb, .inr (0, [.int (nI 8000), .ref q, .int (nI (dig sh (x / 4294967296)).length)])), (q, .inl (ca 0, gcap 8000 gr, .inl f))] sz)) (va_A [(a, .inr (2, [.long (lN R), .int (nI sh), .ref cb, .long (lN (x % 4294967296))])), (cb, .inr (0, [.int (nI 8000), .ref q, .int (nI (dig sh (x / 4294967296)).length)])), (q, .inl (ca 0, gcap 8000 gr, .inl f))] sz)) (max gr (gN (sh + 4)) - gr) (20000 * (max gr (gN (sh + 4)) - gr)) (va_A [(a, .inr (2, [.long (lN R), .int (nI sh), .ref cb, .long (lN (x % 4294967296))])), (cb, .inr (0, [.int (nI 8000), .ref q, .int (nI (dig sh (x / 4294967296)).length)])), (q, .inl (ca 0, gcap 8000 gr, .inl f))] sz) := by
  refine rw_enter (Q := fun A => va_Qi (fun (r : Int32) (u : Nat × (Nat → Int32)) => r = bI true ∧ BR u.2 (dig (sh + 4) x)) (bB D vwCl (fun (u : Nat × (Nat → Int32)) => [(a, .inr (2, [.long (lN R), .int (nI sh), .ref cb, .long (lN (x % 4294967296))])), (cb, .inr (0, [.int (nI 8000), .ref u.1, .int (nI (dig (sh + 4) x).length)])), (u.1, .inl (ca 0, gcap 8000 (max gr (gN (sh + 4))), .inl u.2))]) A) A) (by decide) rfl (Nat.le_of_ble_eq_true rfl) ?_
  intro p e s m below meth c ls A C hnm hK hN hP hD hA hl
  have hS : va_S A s.heap s.heap [] := va_S.rf
  obtain ⟨hx, hb, hr, hml, hown, hlocks, hts⟩ := C
  have hl : lv_has ls 2 [(0, .ref a)] := hl
  have hin_X2 : ∀ w ∈ wsX20, w ∈ wsX2_finish := by decide +kernel
  have hl_9 := hts (.fieldLink RX2 9 "EscapeCoder$CodeWriter" "code" "LEscapeCoder$ByteRow;") (by decide +kernel)
  have hl_23 := hts (.fieldLink RX2 23 "EscapeCoder$CodeWriter" "low" "J") (by decide +kernel)
  have hw_e97b26 := hts (.constantLong RX2 40 (lN 255)) (by decide +kernel)
  refine lv_aload_n hx hb dX2_finish_0 rfl (lv_at hl 0 rfl) ?_
  refine vp_callSi (va_Run.run (va_runU (As := []) (rest := []) ⟨hx, hb, hml, hown, hts⟩ (c_W_shifts l D ca a cb (lN R) (lN (x % 4294967296)) (nI sh) ) (va_cwU 0 hts gX2_finish_X3_shifts_u36X2 rfl rfl rfl rfl (by decide +kernel) ⟨Nat.le_of_ble_eq_true rfl, Nat.le_of_ble_eq_true rfl⟩) ⟨roP_blind, va_recv hK hP (ci := 2) (q0 := 0) rfl rfl, roP_at hK hN (hP.sub [0] rfl)⟩ rfl rfl hl.1 rfl (lv_room (Nat.le_of_ble_eq_true rfl)) dX2_finish_1 ⟨Nat.zero_le _, Nat.zero_le _⟩)) (fun r_1 hq => ?_)
  subst hq
  refine lv_iconst (v := nI 4) hx hb dX2_finish_4 (by decide) ?_
  refine lv_iadd hx hb dX2_finish_5 ?_
  refine tp_i (y := nI (sh + 4)) (nI_add sh 4) ?_
  refine lv_sipush (v := nI 8000) hx hb dX2_finish_6 (by decide) ?_
  refine bn_le (tgt := 21) hx hb dX2_finish_9 (by decide) (by omega) (by omega) (fun h1 => ?_) (fun h1 => ?_)
  · refine lv_bipush (v := nI 24) hx hb dX2_finish_21 (by decide) ?_
    refine lv_istore_n (lv' := [(1, .int (nI 24)), (0, .ref a)]) hx hb dX2_finish_23 rfl hl (by decide) rfl (fun ls hl => ?_)
    refine lv_iload_n hx hb dX2_finish_24 rfl (lv_at hl 0 rfl) ?_
    have e0 : (dig sh (x / 4294967296)).length = sh := dig_len _ _
    refine lv_if_lt (tgt := 53) hx hb dX2_finish_25 (by decide) (fun hh => ?_) (fun hh => ?_)
    · exact absurd hh (by decide)
    · refine lv_aload_n hx hb dX2_finish_28 rfl (lv_at hl 1 rfl) ?_
      refine va_get (D := D) (ci := 2) (v := .ref cb) (C := RX2) (T := TX2) (N := 4) hx hb hts hin_X2 hown hK hP 0 rfl rfl 2 (by decide) hl_9 (fun _ h9 => h9) rfl dX2_finish_29 ?_
      refine lv_aload_n hx hb dX2_finish_32 rfl (lv_at hl 1 rfl) ?_
      refine va_get (D := D) (ci := 2) (v := .long (lN (x % 4294967296))) (C := RX2) (T := TX2) (N := 4) hx hb hts hin_X2 hown hK hP 0 rfl rfl 3 (by decide) hl_23 (fun _ h9 => h9) rfl dX2_finish_33 ?_
      refine lv_iload_n hx hb dX2_finish_36 rfl (lv_at hl 0 rfl) ?_
      refine lv_lushr (v := lN (x % 4294967296 / 16777216)) hx hb dX2_finish_37 (shr24 (by omega)) ?_
      refine lv_ldc2 (v := lN 255) hx hb hown hw_e97b26 dX2_finish_38 ?_
      refine lv_land hx hb dX2_finish_41 ?_
      refine tp_l (y := lN (x % 4294967296 / 16777216 % 256)) (m8 (by omega)) ?_
      refine lv_l2i (v := nI (x % 4294967296 / 16777216 % 256)) hx hb dX2_finish_42 (lN_i _) ?_
      have d1 : x % 4294967296 / 16777216 % 256 < 256 := by omega
      have l1 : (dig sh (x / 4294967296)).length = sh + 0 := by simp [e0]
      have g1 : grA 8000 gr (dig sh (x / 4294967296)) (nI (x % 4294967296 / 16777216 % 256)) = max gr (gN (sh + 1)) := by rw [grA_z d1 (by omega), l1]
      have a1 : addL 8000 (dig sh (x / 4294967296)) (nI (x % 4294967296 / 16777216 % 256)) = dig sh (x / 4294967296) ++ [x % 4294967296 / 16777216 % 256] := addL_y d1 (by omega)
      refine rw_calli (wc := [(cb, .inr (0, [.int (nI 8000), .ref q, .int (nI (dig sh (x / 4294967296)).length)])), (q, .inl (ca 0, gcap 8000 gr, .inl f))]) (wr := [(a, .inr (2, [.long (lN R), .int (nI sh), .ref cb, .long (lN (x % 4294967296))]))]) hP hD hS hA [1, 2] [0] rfl rfl (by decide) (by decide) (va_runV (As := [.int (nI (x % 4294967296 / 16777216 % 256))]) (rest := []) ⟨hx, hb, hml, hown, hts⟩ (c_BR_add l D ca cb q 8000 gr f (dig sh (x / 4294967296)) (nI (x % 4294967296 / 16777216 % 256)) (hB) (by rw [l1]; exact hL) (by decide) s.heap.size) (cwV 1 hts gX2_finish_X0_add rfl rfl rfl (by decide +kernel) ⟨Nat.le_of_ble_eq_true rfl, Nat.le_of_ble_eq_true rfl⟩) ⟨rwP_blind, va_recv hK hP (ci := 0) (q0 := 1) rfl rfl, rwP_at hK hN (hP.sub [1, 2] rfl) (hD.sub [1, 2] (by decide) rfl)⟩ rfl rfl hl.1 rfl (lv_room (Nat.le_of_ble_eq_true rfl)) dX2_finish_43 ⟨by show _ + _ ≤ max gr (gN (sh + 4)) - gr; rw [g1]; have m1 := gN_mono (show sh + 1 ≤ sh + 4 by omega); omega, by show _ + _ ≤ 20000 * (max gr (gN (sh + 4)) - gr); rw [g1]; have m1 := gN_mono (show sh + 1 ≤ sh + 4 by omega); omega⟩) (fun r_2 u H locs hq hP hD hS => ?_)
      obtain ⟨q1_3, f1_4⟩ := u
      try dsimp only at hq
      have hP : va_P D vwCl [(a, .inr (2, [.long (lN R), .int (nI sh), .ref cb, .long (lN (x % 4294967296))])), (cb, .inr (0, [.int (nI 8000), .ref q1_3, .int (nI (addL 8000 (dig sh (x / 4294967296)) (nI (x % 4294967296 / 16777216 % 256))).length)])), (q1_3, .inl (ca 0, gcap 8000 (grA 8000 gr (dig sh (x / 4294967296)) (nI (x % 4294967296 / 16777216 % 256))), .inl f1_4))] H := hP
      have hD : va_D A [(a, .inr (2, [.long (lN R), .int (nI sh), .ref cb, .long (lN (x % 4294967296))])), (cb, .inr (0, [.int (nI 8000), .ref q1_3, .int (nI (addL 8000 (dig sh (x / 4294967296)) (nI (x % 4294967296 / 16777216 % 256))).length)])), (q1_3, .inl (ca 0, gcap 8000 (grA 8000 gr (dig sh (x / 4294967296)) (nI (x % 4294967296 / 16777216 % 256))), .inl f1_4))] := hD
      refine W.widen (k := max gr (gN (sh + 1)) - gr) (n := 20000 * (max gr (gN (sh + 1)) - gr)) (by rw [g1]; omega) (by rw [g1]; omega) ?_
      obtain ⟨hq1, hb1, hz1⟩ := hq
      rw [a1] at hb1
      rw [a1, g1] at hz1
      have hP : va_P D vwCl [(a, .inr (2, [.long (lN R), .int (nI sh), .ref cb, .long (lN (x % 4294967296))])), (cb, .inr (0, [.int (nI 8000), .ref q1_3, .int (nI (dig sh (x / 4294967296) ++ [x % 4294967296 / 16777216 % 256]).length)])), (q1_3, .inl (ca 0, gcap 8000 (max gr (gN (sh + 1))), .inl f1_4))] H := by rw [← a1, ← g1]; exact hP
      have hD : va_D A [(a, .inr (2, [.long (lN R), .int (nI sh), .ref cb, .long (lN (x % 4294967296))])), (cb, .inr (0, [.int (nI 8000), .ref q1_3, .int (nI (dig sh (x / 4294967296) ++ [x % 4294967296 / 16777216 % 256]).length)])), (q1_3, .inl (ca 0, gcap 8000 (max gr (gN (sh + 1))), .inl f1_4))] := by rw [← a1, ← g1]; exact hD
      refine lv_pop hx hb dX2_finish_46 rfl ?_
      refine lv_iinc (v := nI 16) (lv' := [(1, .int (nI 16)), (0, .ref a)]) hx hb dX2_finish_47 hl (k := 0) rfl (by decide) (by decide) rfl (fun ls hl => ?_)
      refine lv_goto (tgt := 24) hx hb dX2_finish_50 (by decide) ?_
      refine lv_iload_n hx hb dX2_finish_24 rfl (lv_at hl 0 rfl) ?_
      refine lv_if_lt (tgt := 53) hx hb dX2_finish_25 (by decide) (fun hh => ?_) (fun hh => ?_)
      · exact absurd hh (by decide)
      · refine lv_aload_n hx hb dX2_finish_28 rfl (lv_at hl 1 rfl) ?_
        refine va_get (D := D) (ci := 2) (v := .ref cb) (C := RX2) (T := TX2) (N := 4) hx hb hts hin_X2 hown hK hP 0 rfl rfl 2 (by decide) hl_9 (fun _ h9 => h9) rfl dX2_finish_29 ?_
        refine lv_aload_n hx hb dX2_finish_32 rfl (lv_at hl 1 rfl) ?_
        refine va_get (D := D) (ci := 2) (v := .long (lN (x % 4294967296))) (C := RX2) (T := TX2) (N := 4) hx hb hts hin_X2 hown hK hP 0 rfl rfl 3 (by decide) hl_23 (fun _ h9 => h9) rfl dX2_finish_33 ?_
        refine lv_iload_n hx hb dX2_finish_36 rfl (lv_at hl 0 rfl) ?_
        refine lv_lushr (v := lN (x % 4294967296 / 65536)) hx hb dX2_finish_37 (shr16 (by omega)) ?_
        refine lv_ldc2 (v := lN 255) hx hb hown hw_e97b26 dX2_finish_38 ?_
        refine lv_land hx hb dX2_finish_41 ?_
        refine tp_l (y := lN (x % 4294967296 / 65536 % 256)) (m8 (by omega)) ?_
        refine lv_l2i (v := nI (x % 4294967296 / 65536 % 256)) hx hb dX2_finish_42 (lN_i _) ?_
        have d2 : x % 4294967296 / 65536 % 256 < 256 := by omega
        have l2 : (dig sh (x / 4294967296) ++ [x % 4294967296 / 16777216 % 256]).length = sh + 1 := by simp [e0]
        have g2 : grA 8000 (max gr (gN (sh + 1))) (dig sh (x / 4294967296) ++ [x % 4294967296 / 16777216 % 256]) (nI (x % 4294967296 / 65536 % 256)) = max gr (gN (sh + 2)) := by rw [grA_z d2 (by omega), l2]; exact max_gN (by omega)
        have a2 : addL 8000 (dig sh (x / 4294967296) ++ [x % 4294967296 / 16777216 % 256]) (nI (x % 4294967296 / 65536 % 256)) = dig sh (x / 4294967296) ++ [x % 4294967296 / 16777216 % 256] ++ [x % 4294967296 / 65536 % 256] := addL_y d2 (by omega)
        refine rw_calli (wc := [(cb, .inr (0, [.int (nI 8000), .ref q1_3, .int (nI (dig sh (x / 4294967296) ++ [x % 4294967296 / 16777216 % 256]).length)])), (q1_3, .inl (ca 0, gcap 8000 (max gr (gN (sh + 1))), .inl f1_4))]) (wr := [(a, .inr (2, [.long (lN R), .int (nI sh), .ref cb, .long (lN (x % 4294967296))]))]) hP hD hS hA [1, 2] [0] rfl rfl (by decide) (by decide) (va_runV (As := [.int (nI (x % 4294967296 / 65536 % 256))]) (rest := []) ⟨hx, hb, hml, hown, hts⟩ (c_BR_add l D ca cb q1_3 8000 (max gr (gN (sh + 1))) f1_4 (dig sh (x / 4294967296) ++ [x % 4294967296 / 16777216 % 256]) (nI (x % 4294967296 / 65536 % 256)) (hb1) (by rw [l2]; have := hz1; rw [l2] at this; exact this) (by decide) H.size) (cwV 1 hts gX2_finish_X0_add rfl rfl rfl (by decide +kernel) ⟨Nat.le_of_ble_eq_true rfl, Nat.le_of_ble_eq_true rfl⟩) ⟨rwP_blind, va_recv hK hP (ci := 0) (q0 := 1) rfl rfl, rwP_at hK hN (hP.sub [1, 2] rfl) (hD.sub [1, 2] (by decide) rfl)⟩ rfl rfl hl.1 rfl (lv_room (Nat.le_of_ble_eq_true rfl)) dX2_finish_43 ⟨by show _ + _ ≤ max gr (gN (sh + 4)) - gr; rw [g2]; have m0 := gN_mono (show sh + 1 ≤ sh + 2 by omega); have m1 := gN_mono (show sh + 2 ≤ sh + 4 by omega); omega, by show _ + _ ≤ 20000 * (max gr (gN (sh + 4)) - gr); rw [g2]; have m0 := gN_mono (show sh + 1 ≤ sh + 2 by omega); have m1 := gN_mono (show sh + 2 ≤ sh + 4 by omega); omega⟩) (fun r_5 u H locs hq hP hD hS => ?_)
        obtain ⟨q1_6, f1_7⟩ := u
        try dsimp only at hq
        have hP : va_P D vwCl [(a, .inr (2, [.long (lN R), .int (nI sh), .ref cb, .long (lN (x % 4294967296))])), (cb, .inr (0, [.int (nI 8000), .ref q1_6, .int (nI (addL 8000 (dig sh (x / 4294967296) ++ [x % 4294967296 / 16777216 % 256]) (nI (x % 4294967296 / 65536 % 256))).length)])), (q1_6, .inl (ca 0, gcap 8000 (grA 8000 (max gr (gN (sh + 1))) (dig sh (x / 4294967296) ++ [x % 4294967296 / 16777216 % 256]) (nI (x % 4294967296 / 65536 % 256))), .inl f1_7))] H := hP
        have hD : va_D A [(a, .inr (2, [.long (lN R), .int (nI sh), .ref cb, .long (lN (x % 4294967296))])), (cb, .inr (0, [.int (nI 8000), .ref q1_6, .int (nI (addL 8000 (dig sh (x / 4294967296) ++ [x % 4294967296 / 16777216 % 256]) (nI (x % 4294967296 / 65536 % 256))).length)])), (q1_6, .inl (ca 0, gcap 8000 (grA 8000 (max gr (gN (sh + 1))) (dig sh (x / 4294967296) ++ [x % 4294967296 / 16777216 % 256]) (nI (x % 4294967296 / 65536 % 256))), .inl f1_7))] := hD
        refine W.widen (k := max gr (gN (sh + 2)) - gr) (n := 20000 * (max gr (gN (sh + 2)) - gr)) (by rw [g2]; have m0 := gN_mono (show sh + 1 ≤ sh + 2 by omega); omega) (by rw [g2]; have m0 := gN_mono (show sh + 1 ≤ sh + 2 by omega); omega) ?_
        obtain ⟨hq1, hb2, hz2⟩ := hq
        rw [a2] at hb2
        rw [a2, g2] at hz2
        have hP : va_P D vwCl [(a, .inr (2, [.long (lN R), .int (nI sh), .ref cb, .long (lN (x % 4294967296))])), (cb, .inr (0, [.int (nI 8000), .ref q1_6, .int (nI (dig sh (x / 4294967296) ++ [x % 4294967296 / 16777216 % 256] ++ [x % 4294967296 / 65536 % 256]).length)])), (q1_6, .inl (ca 0, gcap 8000 (max gr (gN (sh + 2))), .inl f1_7))] H := by rw [← a2, ← g2]; exact hP
        have hD : va_D A [(a, .inr (2, [.long (lN R), .int (nI sh), .ref cb, .long (lN (x % 4294967296))])), (cb, .inr (0, [.int (nI 8000), .ref q1_6, .int (nI (dig sh (x / 4294967296) ++ [x % 4294967296 / 16777216 % 256] ++ [x % 4294967296 / 65536 % 256]).length)])), (q1_6, .inl (ca 0, gcap 8000 (max gr (gN (sh + 2))), .inl f1_7))] := by rw [← a2, ← g2]; exact hD
        refine lv_pop hx hb dX2_finish_46 rfl ?_
        refine lv_iinc (v := nI 8) (lv' := [(1, .int (nI 8)), (0, .ref a)]) hx hb dX2_finish_47 hl (k := 0) rfl (by decide) (by decide) rfl (fun ls hl => ?_)
        refine lv_goto (tgt := 24) hx hb dX2_finish_50 (by decide) ?_
        refine lv_iload_n hx hb dX2_finish_24 rfl (lv_at hl 0 rfl) ?_
        refine lv_if_lt (tgt := 53) hx hb dX2_finish_25 (by decide) (fun hh => ?_) (fun hh => ?_)
        · exact absurd hh (by decide)
        · refine lv_aload_n hx hb dX2_finish_28 rfl (lv_at hl 1 rfl) ?_
          refine va_get (D := D) (ci := 2) (v := .ref cb) (C := RX2) (T := TX2) (N := 4) hx hb hts hin_X2 hown hK hP 0 rfl rfl 2 (by decide) hl_9 (fun _ h9 => h9) rfl dX2_finish_29 ?_
          refine lv_aload_n hx hb dX2_finish_32 rfl (lv_at hl 1 rfl) ?_
          refine va_get (D := D) (ci := 2) (v := .long (lN (x % 4294967296))) (C := RX2) (T := TX2) (N := 4) hx hb hts hin_X2 hown hK hP 0 rfl rfl 3 (by decide) hl_23 (fun _ h9 => h9) rfl dX2_finish_33 ?_
          refine lv_iload_n hx hb dX2_finish_36 rfl (lv_at hl 0 rfl) ?_
          refine lv_lushr (v := lN (x % 4294967296 / 256)) hx hb dX2_finish_37 (shr8 (by omega)) ?_
          refine lv_ldc2 (v := lN 255) hx hb hown hw_e97b26 dX2_finish_38 ?_
          refine lv_land hx hb dX2_finish_41 ?_
          refine tp_l (y := lN (x % 4294967296 / 256 % 256)) (m8 (by omega)) ?_
          refine lv_l2i (v := nI (x % 4294967296 / 256 % 256)) hx hb dX2_finish_42 (lN_i _) ?_
          have d3 : x % 4294967296 / 256 % 256 < 256 := by omega
          have l3 : (dig sh (x / 4294967296) ++ [x % 4294967296 / 16777216 % 256] ++ [x % 4294967296 / 65536 % 256]).length = sh + 2 := by simp [e0]
          have g3 : grA 8000 (max gr (gN (sh + 2))) (dig sh (x / 4294967296) ++ [x % 4294967296 / 16777216 % 256] ++ [x % 4294967296 / 65536 % 256]) (nI (x % 4294967296 / 256 % 256)) = max gr (gN (sh + 3)) := by rw [grA_z d3 (by omega), l3]; exact max_gN (by omega)
          have a3 : addL 8000 (dig sh (x / 4294967296) ++ [x % 4294967296 / 16777216 % 256] ++ [x % 4294967296 / 65536 % 256]) (nI (x % 4294967296 / 256 % 256)) = dig sh (x / 4294967296) ++ [x % 4294967296 / 16777216 % 256] ++ [x % 4294967296 / 65536 % 256] ++ [x % 4294967296 / 256 % 256] := addL_y d3 (by omega)
          refine rw_calli (wc := [(cb, .inr (0, [.int (nI 8000), .ref q1_6, .int (nI (dig sh (x / 4294967296) ++ [x % 4294967296 / 16777216 % 256] ++ [x % 4294967296 / 65536 % 256]).length)])), (q1_6, .inl (ca 0, gcap 8000 (max gr (gN (sh + 2))), .inl f1_7))]) (wr := [(a, .inr (2, [.long (lN R), .int (nI sh), .ref cb, .long (lN (x % 4294967296))]))]) hP hD hS hA [1, 2] [0] rfl rfl (by decide) (by decide) (va_runV (As := [.int (nI (x % 4294967296 / 256 % 256))]) (rest := []) ⟨hx, hb, hml, hown, hts⟩ (c_BR_add l D ca cb q1_6 8000 (max gr (gN (sh + 2))) f1_7 (dig sh (x / 4294967296) ++ [x % 4294967296 / 16777216 % 256] ++ [x % 4294967296 / 65536 % 256]) (nI (x % 4294967296 / 256 % 256)) (hb2) (by rw [l3]; have := hz2; rw [l3] at this; exact this) (by decide) H.size) (cwV 1 hts gX2_finish_X0_add rfl rfl rfl (by decide +kernel) ⟨Nat.le_of_ble_eq_true rfl, Nat.le_of_ble_eq_true rfl⟩) ⟨rwP_blind, va_recv hK hP (ci := 0) (q0 := 1) rfl rfl, rwP_at hK hN (hP.sub [1, 2] rfl) (hD.sub [1, 2] (by decide) rfl)⟩ rfl rfl hl.1 rfl (lv_room (Nat.le_of_ble_eq_true rfl)) dX2_finish_43 ⟨by show _ + _ ≤ max gr (gN (sh + 4)) - gr; rw [g3]; have m0 := gN_mono (show sh + 2 ≤ sh + 3 by omega); have m1 := gN_mono (show sh + 3 ≤ sh + 4 by omega); omega, by show _ + _ ≤ 20000 * (max gr (gN (sh + 4)) - gr); rw [g3]; have m0 := gN_mono (show sh + 2 ≤ sh + 3 by omega); have m1 := gN_mono (show sh + 3 ≤ sh + 4 by omega); omega⟩) (fun r_8 u H locs hq hP hD hS => ?_)
          obtain ⟨q1_9, f1_10⟩ := u
          try dsimp only at hq
          have hP : va_P D vwCl [(a, .inr (2, [.long (lN R), .int (nI sh), .ref cb, .long (lN (x % 4294967296))])), (cb, .inr (0, [.int (nI 8000), .ref q1_9, .int (nI (addL 8000 (dig sh (x / 4294967296) ++ [x % 4294967296 / 16777216 % 256] ++ [x % 4294967296 / 65536 % 256]) (nI (x % 4294967296 / 256 % 256))).length)])), (q1_9, .inl (ca 0, gcap 8000 (grA 8000 (max gr (gN (sh + 2))) (dig sh (x / 4294967296) ++ [x % 4294967296 / 16777216 % 256] ++ [x % 4294967296 / 65536 % 256]) (nI (x % 4294967296 / 256 % 256))), .inl f1_10))] H := hP
          have hD : va_D A [(a, .inr (2, [.long (lN R), .int (nI sh), .ref cb, .long (lN (x % 4294967296))])), (cb, .inr (0, [.int (nI 8000), .ref q1_9, .int (nI (addL 8000 (dig sh (x / 4294967296) ++ [x % 4294967296 / 16777216 % 256] ++ [x % 4294967296 / 65536 % 256]) (nI (x % 4294967296 / 256 % 256))).length)])), (q1_9, .inl (ca 0, gcap 8000 (grA 8000 (max gr (gN (sh + 2))) (dig sh (x / 4294967296) ++ [x % 4294967296 / 16777216 % 256] ++ [x % 4294967296 / 65536 % 256]) (nI (x % 4294967296 / 256 % 256))), .inl f1_10))] := hD
          refine W.widen (k := max gr (gN (sh + 3)) - gr) (n := 20000 * (max gr (gN (sh + 3)) - gr)) (by rw [g3]; have m0 := gN_mono (show sh + 2 ≤ sh + 3 by omega); omega) (by rw [g3]; have m0 := gN_mono (show sh + 2 ≤ sh + 3 by omega); omega) ?_
          obtain ⟨hq1, hb3, hz3⟩ := hq
          rw [a3] at hb3
          rw [a3, g3] at hz3
          have hP : va_P D vwCl [(a, .inr (2, [.long (lN R), .int (nI sh), .ref cb, .long (lN (x % 4294967296))])), (cb, .inr (0, [.int (nI 8000), .ref q1_9, .int (nI (dig sh (x / 4294967296) ++ [x % 4294967296 / 16777216 % 256] ++ [x % 4294967296 / 65536 % 256] ++ [x % 4294967296 / 256 % 256]).length)])), (q1_9, .inl (ca 0, gcap 8000 (max gr (gN (sh + 3))), .inl f1_10))] H := by rw [← a3, ← g3]; exact hP
          have hD : va_D A [(a, .inr (2, [.long (lN R), .int (nI sh), .ref cb, .long (lN (x % 4294967296))])), (cb, .inr (0, [.int (nI 8000), .ref q1_9, .int (nI (dig sh (x / 4294967296) ++ [x % 4294967296 / 16777216 % 256] ++ [x % 4294967296 / 65536 % 256] ++ [x % 4294967296 / 256 % 256]).length)])), (q1_9, .inl (ca 0, gcap 8000 (max gr (gN (sh + 3))), .inl f1_10))] := by rw [← a3, ← g3]; exact hD
          refine lv_pop hx hb dX2_finish_46 rfl ?_
          refine lv_iinc (v := nI 0) (lv' := [(1, .int (nI 0)), (0, .ref a)]) hx hb dX2_finish_47 hl (k := 0) rfl (by decide) (by decide) rfl (fun ls hl => ?_)
          refine lv_goto (tgt := 24) hx hb dX2_finish_50 (by decide) ?_
          refine lv_iload_n hx hb dX2_finish_24 rfl (lv_at hl 0 rfl) ?_
          refine lv_if_lt (tgt := 53) hx hb dX2_finish_25 (by decide) (fun hh => ?_) (fun hh => ?_)
          · exact absurd hh (by decide)
          · refine lv_aload_n hx hb dX2_finish_28 rfl (lv_at hl 1 rfl) ?_
            refine va_get (D := D) (ci := 2) (v := .ref cb) (C := RX2) (T := TX2) (N := 4) hx hb hts hin_X2 hown hK hP 0 rfl rfl 2 (by decide) hl_9 (fun _ h9 => h9) rfl dX2_finish_29 ?_
            refine lv_aload_n hx hb dX2_finish_32 rfl (lv_at hl 1 rfl) ?_
            refine va_get (D := D) (ci := 2) (v := .long (lN (x % 4294967296))) (C := RX2) (T := TX2) (N := 4) hx hb hts hin_X2 hown hK hP 0 rfl rfl 3 (by decide) hl_23 (fun _ h9 => h9) rfl dX2_finish_33 ?_
            refine lv_iload_n hx hb dX2_finish_36 rfl (lv_at hl 0 rfl) ?_
            refine lv_lushr (v := lN (x % 4294967296)) hx hb dX2_finish_37 (shr0 (by omega)) ?_
            refine lv_ldc2 (v := lN 255) hx hb hown hw_e97b26 dX2_finish_38 ?_
            refine lv_land hx hb dX2_finish_41 ?_
            refine tp_l (y := lN (x % 4294967296 % 256)) (m8 (by omega)) ?_
            refine lv_l2i (v := nI (x % 4294967296 % 256)) hx hb dX2_finish_42 (lN_i _) ?_
            have d4 : x % 4294967296 % 256 < 256 := by omega
            have l4 : (dig sh (x / 4294967296) ++ [x % 4294967296 / 16777216 % 256] ++ [x % 4294967296 / 65536 % 256] ++ [x % 4294967296 / 256 % 256]).length = sh + 3 := by simp [e0]
            have g4 : grA 8000 (max gr (gN (sh + 3))) (dig sh (x / 4294967296) ++ [x % 4294967296 / 16777216 % 256] ++ [x % 4294967296 / 65536 % 256] ++ [x % 4294967296 / 256 % 256]) (nI (x % 4294967296 % 256)) = max gr (gN (sh + 4)) := by rw [grA_z d4 (by omega), l4]; exact max_gN (by omega)
            have a4 : addL 8000 (dig sh (x / 4294967296) ++ [x % 4294967296 / 16777216 % 256] ++ [x % 4294967296 / 65536 % 256] ++ [x % 4294967296 / 256 % 256]) (nI (x % 4294967296 % 256)) = dig sh (x / 4294967296) ++ [x % 4294967296 / 16777216 % 256] ++ [x % 4294967296 / 65536 % 256] ++ [x % 4294967296 / 256 % 256] ++ [x % 4294967296 % 256] := addL_y d4 (by omega)
            refine rw_calli (wc := [(cb, .inr (0, [.int (nI 8000), .ref q1_9, .int (nI (dig sh (x / 4294967296) ++ [x % 4294967296 / 16777216 % 256] ++ [x % 4294967296 / 65536 % 256] ++ [x % 4294967296 / 256 % 256]).length)])), (q1_9, .inl (ca 0, gcap 8000 (max gr (gN (sh + 3))), .inl f1_10))]) (wr := [(a, .inr (2, [.long (lN R), .int (nI sh), .ref cb, .long (lN (x % 4294967296))]))]) hP hD hS hA [1, 2] [0] rfl rfl (by decide) (by decide) (va_runV (As := [.int (nI (x % 4294967296 % 256))]) (rest := []) ⟨hx, hb, hml, hown, hts⟩ (c_BR_add l D ca cb q1_9 8000 (max gr (gN (sh + 3))) f1_10 (dig sh (x / 4294967296) ++ [x % 4294967296 / 16777216 % 256] ++ [x % 4294967296 / 65536 % 256] ++ [x % 4294967296 / 256 % 256]) (nI (x % 4294967296 % 256)) (hb3) (by rw [l4]; have := hz3; rw [l4] at this; exact this) (by decide) H.size) (cwV 1 hts gX2_finish_X0_add rfl rfl rfl (by decide +kernel) ⟨Nat.le_of_ble_eq_true rfl, Nat.le_of_ble_eq_true rfl⟩) ⟨rwP_blind, va_recv hK hP (ci := 0) (q0 := 1) rfl rfl, rwP_at hK hN (hP.sub [1, 2] rfl) (hD.sub [1, 2] (by decide) rfl)⟩ rfl rfl hl.1 rfl (lv_room (Nat.le_of_ble_eq_true rfl)) dX2_finish_43 ⟨by show _ + _ ≤ max gr (gN (sh + 4)) - gr; rw [g4]; have m0 := gN_mono (show sh + 3 ≤ sh + 4 by omega); have m1 := gN_mono (show sh + 4 ≤ sh + 4 by omega); omega, by show _ + _ ≤ 20000 * (max gr (gN (sh + 4)) - gr); rw [g4]; have m0 := gN_mono (show sh + 3 ≤ sh + 4 by omega); have m1 := gN_mono (show sh + 4 ≤ sh + 4 by omega); omega⟩) (fun r_11 u H locs hq hP hD hS => ?_)
            obtain ⟨q1_12, f1_13⟩ := u
            try dsimp only at hq
            have hP : va_P D vwCl [(a, .inr (2, [.long (lN R), .int (nI sh), .ref cb, .long (lN (x % 4294967296))])), (cb, .inr (0, [.int (nI 8000), .ref q1_12, .int (nI (addL 8000 (dig sh (x / 4294967296) ++ [x % 4294967296 / 16777216 % 256] ++ [x % 4294967296 / 65536 % 256] ++ [x % 4294967296 / 256 % 256]) (nI (x % 4294967296 % 256))).length)])), (q1_12, .inl (ca 0, gcap 8000 (grA 8000 (max gr (gN (sh + 3))) (dig sh (x / 4294967296) ++ [x % 4294967296 / 16777216 % 256] ++ [x % 4294967296 / 65536 % 256] ++ [x % 4294967296 / 256 % 256]) (nI (x % 4294967296 % 256))), .inl f1_13))] H := hP
            have hD : va_D A [(a, .inr (2, [.long (lN R), .int (nI sh), .ref cb, .long (lN (x % 4294967296))])), (cb, .inr (0, [.int (nI 8000), .ref q1_12, .int (nI (addL 8000 (dig sh (x / 4294967296) ++ [x % 4294967296 / 16777216 % 256] ++ [x % 4294967296 / 65536 % 256] ++ [x % 4294967296 / 256 % 256]) (nI (x % 4294967296 % 256))).length)])), (q1_12, .inl (ca 0, gcap 8000 (grA 8000 (max gr (gN (sh + 3))) (dig sh (x / 4294967296) ++ [x % 4294967296 / 16777216 % 256] ++ [x % 4294967296 / 65536 % 256] ++ [x % 4294967296 / 256 % 256]) (nI (x % 4294967296 % 256))), .inl f1_13))] := hD
            refine W.widen (k := max gr (gN (sh + 4)) - gr) (n := 20000 * (max gr (gN (sh + 4)) - gr)) (by rw [g4]; have m0 := gN_mono (show sh + 3 ≤ sh + 4 by omega); omega) (by rw [g4]; have m0 := gN_mono (show sh + 3 ≤ sh + 4 by omega); omega) ?_
            obtain ⟨hq1, hb4, hz4⟩ := hq
            rw [a4] at hb4
            rw [a4, g4] at hz4
            have hP : va_P D vwCl [(a, .inr (2, [.long (lN R), .int (nI sh), .ref cb, .long (lN (x % 4294967296))])), (cb, .inr (0, [.int (nI 8000), .ref q1_12, .int (nI (dig sh (x / 4294967296) ++ [x % 4294967296 / 16777216 % 256] ++ [x % 4294967296 / 65536 % 256] ++ [x % 4294967296 / 256 % 256] ++ [x % 4294967296 % 256]).length)])), (q1_12, .inl (ca 0, gcap 8000 (max gr (gN (sh + 4))), .inl f1_13))] H := by rw [← a4, ← g4]; exact hP
            have hD : va_D A [(a, .inr (2, [.long (lN R), .int (nI sh), .ref cb, .long (lN (x % 4294967296))])), (cb, .inr (0, [.int (nI 8000), .ref q1_12, .int (nI (dig sh (x / 4294967296) ++ [x % 4294967296 / 16777216 % 256] ++ [x % 4294967296 / 65536 % 256] ++ [x % 4294967296 / 256 % 256] ++ [x % 4294967296 % 256]).length)])), (q1_12, .inl (ca 0, gcap 8000 (max gr (gN (sh + 4))), .inl f1_13))] := by rw [← a4, ← g4]; exact hD
            refine lv_pop hx hb dX2_finish_46 rfl ?_
            refine lv_iinc (v := (-8)) (lv' := [(1, .int (-8)), (0, .ref a)]) hx hb dX2_finish_47 hl (k := 0) rfl (by decide) (by decide) rfl (fun ls hl => ?_)
            refine lv_goto (tgt := 24) hx hb dX2_finish_50 (by decide) ?_
            refine lv_iload_n hx hb dX2_finish_24 rfl (lv_at hl 0 rfl) ?_
            refine lv_if_lt (tgt := 53) hx hb dX2_finish_25 (by decide) (fun hh => ?_) (fun hh => ?_)
            · refine lv_iconst (v := nI 1) hx hb dX2_finish_53 (by decide) ?_
              have hP : va_P D vwCl [(a, .inr (2, [.long (lN R), .int (nI sh), .ref cb, .long (lN (x % 4294967296))])), (cb, .inr (0, [.int (nI 8000), .ref q1_12, .int (nI (dig (sh + 4) x).length)])), (q1_12, .inl (ca 0, gcap 8000 (max gr (gN (sh + 4))), .inl f1_13))] H := by rw [dig_4]; exact hP
              have hD : va_D A [(a, .inr (2, [.long (lN R), .int (nI sh), .ref cb, .long (lN (x % 4294967296))])), (cb, .inr (0, [.int (nI 8000), .ref q1_12, .int (nI (dig (sh + 4) x).length)])), (q1_12, .inl (ca 0, gcap 8000 (max gr (gN (sh + 4))), .inl f1_13))] := by rw [dig_4]; exact hD
              exact rw_zret (u := (q1_12, f1_13)) hx hb hr hlocks (by decide) (⟨rfl, by rw [dig_4]; exact hb4⟩) (hP.sub [0, 1, 2] rfl) (hD.sub [0, 1, 2] (by decide) rfl) hS (Nat.le_refl _) (Nat.le_refl _) dX2_finish_54
            · exact absurd (by decide) hh
  · exact absurd h1 (by omega)
end
section
set_option maxHeartbeats 4000000 in
set_option maxRecDepth 100000 in
theorem c_R_raise (l : Launch) (D : va_G) (ca : Nat → ClassId) (a : Nat) (cb : Nat) (rg : Int64) (sv : Int32) (tk : Int32) (x : Nat) (by_ : Nat) (hby : by_ ≤ x) (sz : Nat) : Met l yX1_raiseLow wsX1_raiseLow { frames := 0, cells := 0, slots := 0, locals := 0 } (rwP D vwCl (ATy ca) [(a, .inr (1, [.long rg, .int sv, .ref cb, .long (lN x), .int tk]))] sz [.ref a, .long (lN by_)]) (va_Qv (fun (u : Unit) => True) (bB D vwCl (fun (u : Unit) => [(a, .inr (1, [.long rg, .int sv, .ref cb, .long (lN (x - by_)), .int tk]))]) (va_A [(a, .inr (1, [.long rg, .int sv, .ref cb, .long (lN x), .int tk]))] sz)) (va_A [(a, .inr (1, [.long rg, .int sv, .ref cb, .long (lN x), .int tk]))] sz)) 0 0 (va_A [(a, .inr (1, [.long rg, .int sv, .ref cb, .long (lN x), .int tk]))] sz) := by
  refine rw_enter (Q := fun A => va_Qv (fun (u : Unit) => True) (bB D vwCl (fun (u : Unit) => [(a, .inr (1, [.long rg, .int sv, .ref cb, .long (lN (x - by_)), .int tk]))]) A) A) (by decide) rfl (Nat.le_of_ble_eq_true rfl) ?_
  intro p e s m below meth c ls A C hnm hK hN hP hD hA hl
  have hS : va_S A s.heap s.heap [] := va_S.rf
  obtain ⟨hx, hb, hr, hml, hown, hlocks, hts⟩ := C
  have hl : lv_has ls 3 [(0, .ref a), (1, .long (lN by_))] := hl
  have hin_X1 : ∀ w ∈ wsX10, w ∈ wsX1_raiseLow := by decide +kernel
  have hl_18 := hts (.fieldLink RX1 18 "EscapeCoder$CodeReader" "ahead" "J") (by decide +kernel)
  refine lv_aload_n hx hb dX1_raiseLow_0 rfl (lv_at hl 0 rfl) ?_
  refine lv_dup hx hb dX1_raiseLow_1 rfl ?_
  refine va_get (D := D) (ci := 1) (v := .long (lN x)) (C := RX1) (T := TX1) (N := 5) hx hb hts hin_X1 hown hK hP 0 rfl rfl 3 (by decide) hl_18 (fun _ h9 => h9) rfl dX1_raiseLow_2 ?_
  refine lv_lload_n hx hb dX1_raiseLow_5 rfl (lv_at hl 1 rfl) ?_
  refine lv_lsub hx hb dX1_raiseLow_6 ?_
  refine tp_l (y := lN (x - by_)) (lN_sub hby) ?_
  refine va_put (D := D) (ci := 1) (v := .long (lN (x - by_))) (ty := .long) (C := RX1) (T := TX1) (N := 5) hx hb hts hin_X1 tyX1 tyX1_ok nmX1 hown hK hP hD hS 0 rfl rfl 3 (by decide) hl_18 (fun _ h9 => h9) rfl (by decide +kernel) rfl rfl (Nat.le_of_ble_eq_true rfl) dX1_raiseLow_7 (fun H locs hP hD hS => ?_)
  have hP : va_P D vwCl [(a, .inr (1, [.long rg, .int sv, .ref cb, .long (lN (x - by_)), .int tk]))] H := hP
  have hD : va_D A [(a, .inr (1, [.long rg, .int sv, .ref cb, .long (lN (x - by_)), .int tk]))] := hD
  exact rw_vret (u := ()) hx hb hr hlocks (trivial) (hP.sub [0] rfl) (hD.sub [0] (by decide) rfl) hS (Nat.le_refl _) (Nat.le_refl _) dX1_raiseLow_10

set_option maxHeartbeats 4000000 in
set_option maxRecDepth 100000 in
theorem c_R_shift (l : Launch) (D : va_G) (ca : Nat → ClassId) (a : Nat) (cb : Nat) (q : Nat) (gr : Nat) (rg : Int64) (sv : Int32) (x : Nat) (k : Nat) (f : Nat → Int32) (Cd : List Nat) (hB : BR f Cd) (hL : Cd.length ≤ gcap 8000 gr) (hy : ∀ j, Cd.getD j 0 < 256) (hk : k < 2 ^ 30) (sz : Nat) : Met l yX1_shiftOnce wsX1_shiftOnce { frames := 1, cells := 0, slots := 0, locals := 21 } (rwP D vwCl (ATy ca) [(a, .inr (1, [.long rg, .int sv, .ref cb, .long (lN x), .int (nI k)])), (cb, .inr (0, [.int (nI 8000), .ref q, .int (nI Cd.length)])), (q, .inl (ca 0, gcap 8000 gr, .inl f))] sz [.ref a]) (va_Qv (fun (u : Unit) => True) (bB D vwCl (fun (u : Unit) => [(a, .inr (1, [.long rg, .int sv, .ref cb, .long (lN (x * 256 + Cd.getD k 0)), .int (nI (k + 1))])), (cb, .inr (0, [.int (nI 8000), .ref q, .int (nI Cd.length)])), (q, .inl (ca 0, gcap 8000 gr, .inl f))]) (va_A [(a, .inr (1, [.long rg, .int sv, .ref cb, .long (lN x), .int (nI k)])), (cb, .inr (0, [.int (nI 8000), .ref q, .int (nI Cd.length)])), (q, .inl (ca 0, gcap 8000 gr, .inl f))] sz)) (va_A [(a, .inr (1, [.long rg, .int sv, .ref cb, .long (lN x), .int (nI k)])), (cb, .inr (0, [.int (nI 8000), .ref q, .int (nI Cd.length)])), (q, .inl (ca 0, gcap 8000 gr, .inl f))] sz)) 0 0 (va_A [(a, .inr (1, [.long rg, .int sv, .ref cb, .long (lN x), .int (nI k)])), (cb, .inr (0, [.int (nI 8000), .ref q, .int (nI Cd.length)])), (q, .inl (ca 0, gcap 8000 gr, .inl f))] sz) := by
  refine rw_enter (Q := fun A => va_Qv (fun (u : Unit) => True) (bB D vwCl (fun (u : Unit) => [(a, .inr (1, [.long rg, .int sv, .ref cb, .long (lN (x * 256 + Cd.getD k 0)), .int (nI (k + 1))])), (cb, .inr (0, [.int (nI 8000), .ref q, .int (nI Cd.length)])), (q, .inl (ca 0, gcap 8000 gr, .inl f))]) A) A) (by decide) rfl (Nat.le_of_ble_eq_true rfl) ?_
  intro p e s m below meth c ls A C hnm hK hN hP hD hA hl
  have hS : va_S A s.heap s.heap [] := va_S.rf
  obtain ⟨hx, hb, hr, hml, hown, hlocks, hts⟩ := C
  have hl : lv_has ls 1 [(0, .ref a)] := hl
  have hin_X1 : ∀ w ∈ wsX10, w ∈ wsX1_shiftOnce := by decide +kernel
  have hl_18 := hts (.fieldLink RX1 18 "EscapeCoder$CodeReader" "ahead" "J") (by decide +kernel)
  have hw_b07acf := hts (.constantLong RX1 39 (lN 256)) (by decide +kernel)
  have hl_22 := hts (.fieldLink RX1 22 "EscapeCoder$CodeReader" "taken" "I") (by decide +kernel)
  have hl_9 := hts (.fieldLink RX1 9 "EscapeCoder$CodeReader" "code" "LEscapeCoder$ByteRow;") (by decide +kernel)
  have hg := gcap_le 8000 gr
  have hyk := hy k
  refine lv_aload_n hx hb dX1_shiftOnce_0 rfl (lv_at hl 0 rfl) ?_
  refine lv_aload_n hx hb dX1_shiftOnce_1 rfl (lv_at hl 0 rfl) ?_
  refine va_get (D := D) (ci := 1) (v := .long (lN x)) (C := RX1) (T := TX1) (N := 5) hx hb hts hin_X1 hown hK hP 0 rfl rfl 3 (by decide) hl_18 (fun _ h9 => h9) rfl dX1_shiftOnce_2 ?_
  refine lv_ldc2 (v := lN 256) hx hb hown hw_b07acf dX1_shiftOnce_5 ?_
  refine lv_lmul hx hb dX1_shiftOnce_8 ?_
  refine tp_l (y := lN (x * 256)) (lN_mul x 256) ?_
  refine lv_aload_n hx hb dX1_shiftOnce_9 rfl (lv_at hl 0 rfl) ?_
  refine va_get (D := D) (ci := 1) (v := .int (nI k)) (C := RX1) (T := TX1) (N := 5) hx hb hts hin_X1 hown hK hP 0 rfl rfl 4 (by decide) hl_22 (fun _ h9 => h9) rfl dX1_shiftOnce_10 ?_
  refine lv_aload_n hx hb dX1_shiftOnce_13 rfl (lv_at hl 0 rfl) ?_
  refine va_get (D := D) (ci := 1) (v := .ref cb) (C := RX1) (T := TX1) (N := 5) hx hb hts hin_X1 hown hK hP 0 rfl rfl 2 (by decide) hl_9 (fun _ h9 => h9) rfl dX1_shiftOnce_14 ?_
  refine vp_callSi (va_Run.run (va_runV (As := []) (rest := [.int (nI k), .long (lN (x * 256)), .ref a]) ⟨hx, hb, hml, hown, hts⟩ (c_BR_length l D ca cb q 8000 gr f Cd ) (cwV 0 hts gX1_shiftOnce_X0_length rfl rfl rfl (by decide +kernel) ⟨Nat.le_of_ble_eq_true rfl, Nat.le_of_ble_eq_true rfl⟩) ⟨roP_blind, va_recv hK hP (ci := 0) (q0 := 1) rfl rfl, roP_at hK hN (hP.sub [1, 2] rfl)⟩ rfl rfl hl.1 rfl (lv_room (Nat.le_of_ble_eq_true rfl)) dX1_shiftOnce_17 ⟨Nat.le_of_ble_eq_true rfl, Nat.le_of_ble_eq_true rfl⟩)) (fun r_1 hq => ?_)
  subst hq
  refine bn_ge (tgt := 37) hx hb dX1_shiftOnce_20 (by decide) (by omega) (by omega) (fun h1 => ?_) (fun h1 => ?_)
  · refine lv_iconst (v := nI 0) hx hb dX1_shiftOnce_37 (by decide) ?_
    refine lv_i2l (v := lN (Cd.getD k 0)) hx hb dX1_shiftOnce_38 (by rw [gD_big h1]; rfl) ?_
    refine lv_ladd hx hb dX1_shiftOnce_39 ?_
    refine tp_l (y := lN (x * 256 + Cd.getD k 0)) (lN_add _ _) ?_
    refine va_put (D := D) (ci := 1) (v := .long (lN (x * 256 + Cd.getD k 0))) (ty := .long) (C := RX1) (T := TX1) (N := 5) hx hb hts hin_X1 tyX1 tyX1_ok nmX1 hown hK hP hD hS 0 rfl rfl 3 (by decide) hl_18 (fun _ h9 => h9) rfl (by decide +kernel) rfl rfl (Nat.le_of_ble_eq_true rfl) dX1_shiftOnce_40 (fun H locs hP hD hS => ?_)
    have hP : va_P D vwCl [(a, .inr (1, [.long rg, .int sv, .ref cb, .long (lN (x * 256 + Cd.getD k 0)), .int (nI k)])), (cb, .inr (0, [.int (nI 8000), .ref q, .int (nI Cd.length)])), (q, .inl (ca 0, gcap 8000 gr, .inl f))] H := hP
    have hD : va_D A [(a, .inr (1, [.long rg, .int sv, .ref cb, .long (lN (x * 256 + Cd.getD k 0)), .int (nI k)])), (cb, .inr (0, [.int (nI 8000), .ref q, .int (nI Cd.length)])), (q, .inl (ca 0, gcap 8000 gr, .inl f))] := hD
    refine lv_aload_n hx hb dX1_shiftOnce_43 rfl (lv_at hl 0 rfl) ?_
    refine lv_dup hx hb dX1_shiftOnce_44 rfl ?_
    refine va_get (D := D) (ci := 1) (v := .int (nI k)) (C := RX1) (T := TX1) (N := 5) hx hb hts hin_X1 hown hK hP 0 rfl rfl 4 (by decide) hl_22 (fun _ h9 => h9) rfl dX1_shiftOnce_45 ?_
    refine lv_iconst (v := nI 1) hx hb dX1_shiftOnce_48 (by decide) ?_
    refine lv_iadd hx hb dX1_shiftOnce_49 ?_
    refine tp_i (y := nI (k + 1)) (nI_1 _) ?_
    refine va_put (D := D) (ci := 1) (v := .int (nI (k + 1))) (ty := .int) (C := RX1) (T := TX1) (N := 5) hx hb hts hin_X1 tyX1 tyX1_ok nmX1 hown hK hP hD hS 0 rfl rfl 4 (by decide) hl_22 (fun _ h9 => h9) rfl (by decide +kernel) rfl rfl (Nat.le_of_ble_eq_true rfl) dX1_shiftOnce_50 (fun H locs hP hD hS => ?_)
    have hP : va_P D vwCl [(a, .inr (1, [.long rg, .int sv, .ref cb, .long (lN (x * 256 + Cd.getD k 0)), .int (nI (k + 1))])), (cb, .inr (0, [.int (nI 8000), .ref q, .int (nI Cd.length)])), (q, .inl (ca 0, gcap 8000 gr, .inl f))] H := hP
    have hD : va_D A [(a, .inr (1, [.long rg, .int sv, .ref cb, .long (lN (x * 256 + Cd.getD k 0)), .int (nI (k + 1))])), (cb, .inr (0, [.int (nI 8000), .ref q, .int (nI Cd.length)])), (q, .inl (ca 0, gcap 8000 gr, .inl f))] := hD
    exact rw_vret (u := ()) hx hb hr hlocks (trivial) (hP.sub [0, 1, 2] rfl) (hD.sub [0, 1, 2] (by decide) rfl) hS (Nat.le_refl _) (Nat.le_refl _) dX1_shiftOnce_53
  · refine lv_aload_n hx hb dX1_shiftOnce_23 rfl (lv_at hl 0 rfl) ?_
    refine va_get (D := D) (ci := 1) (v := .ref cb) (C := RX1) (T := TX1) (N := 5) hx hb hts hin_X1 hown hK hP 0 rfl rfl 2 (by decide) hl_9 (fun _ h9 => h9) rfl dX1_shiftOnce_24 ?_
    refine lv_aload_n hx hb dX1_shiftOnce_27 rfl (lv_at hl 0 rfl) ?_
    refine va_get (D := D) (ci := 1) (v := .int (nI k)) (C := RX1) (T := TX1) (N := 5) hx hb hts hin_X1 hown hK hP 0 rfl rfl 4 (by decide) hl_22 (fun _ h9 => h9) rfl dX1_shiftOnce_28 ?_
    refine vp_callSi (va_Run.run (va_runV (As := [.int (nI k)]) (rest := [.long (lN (x * 256)), .ref a]) ⟨hx, hb, hml, hown, hts⟩ (c_BR_byteAt l D ca cb q 8000 gr f Cd (nI k) (hB) (hL) (by decide)) (cwV 1 hts gX1_shiftOnce_X0_byteAt rfl rfl rfl (by decide +kernel) ⟨Nat.le_of_ble_eq_true rfl, Nat.le_of_ble_eq_true rfl⟩) ⟨roP_blind, va_recv hK hP (ci := 0) (q0 := 1) rfl rfl, roP_at hK hN (hP.sub [1, 2] rfl)⟩ rfl rfl hl.1 rfl (lv_room (Nat.le_of_ble_eq_true rfl)) dX1_shiftOnce_31 ⟨Nat.le_of_ble_eq_true rfl, Nat.le_of_ble_eq_true rfl⟩)) (fun r_2 hq => ?_)
    have hv : atI Cd (nI k) = nI (Cd.getD k 0) := by unfold atI; rw [inL_nI (by omega), if_pos (by simp; omega), nI_clamp (by omega)]
    rw [hv] at hq
    subst hq
    refine lv_goto (tgt := 38) hx hb dX1_shiftOnce_34 (by decide) ?_
    refine lv_i2l (v := lN (Cd.getD k 0)) hx hb dX1_shiftOnce_38 (nI_l (by omega)) ?_
    refine lv_ladd hx hb dX1_shiftOnce_39 ?_
    refine tp_l (y := lN (x * 256 + Cd.getD k 0)) (lN_add _ _) ?_
    refine va_put (D := D) (ci := 1) (v := .long (lN (x * 256 + Cd.getD k 0))) (ty := .long) (C := RX1) (T := TX1) (N := 5) hx hb hts hin_X1 tyX1 tyX1_ok nmX1 hown hK hP hD hS 0 rfl rfl 3 (by decide) hl_18 (fun _ h9 => h9) rfl (by decide +kernel) rfl rfl (Nat.le_of_ble_eq_true rfl) dX1_shiftOnce_40 (fun H locs hP hD hS => ?_)
    have hP : va_P D vwCl [(a, .inr (1, [.long rg, .int sv, .ref cb, .long (lN (x * 256 + Cd.getD k 0)), .int (nI k)])), (cb, .inr (0, [.int (nI 8000), .ref q, .int (nI Cd.length)])), (q, .inl (ca 0, gcap 8000 gr, .inl f))] H := hP
    have hD : va_D A [(a, .inr (1, [.long rg, .int sv, .ref cb, .long (lN (x * 256 + Cd.getD k 0)), .int (nI k)])), (cb, .inr (0, [.int (nI 8000), .ref q, .int (nI Cd.length)])), (q, .inl (ca 0, gcap 8000 gr, .inl f))] := hD
    refine lv_aload_n hx hb dX1_shiftOnce_43 rfl (lv_at hl 0 rfl) ?_
    refine lv_dup hx hb dX1_shiftOnce_44 rfl ?_
    refine va_get (D := D) (ci := 1) (v := .int (nI k)) (C := RX1) (T := TX1) (N := 5) hx hb hts hin_X1 hown hK hP 0 rfl rfl 4 (by decide) hl_22 (fun _ h9 => h9) rfl dX1_shiftOnce_45 ?_
    refine lv_iconst (v := nI 1) hx hb dX1_shiftOnce_48 (by decide) ?_
    refine lv_iadd hx hb dX1_shiftOnce_49 ?_
    refine tp_i (y := nI (k + 1)) (nI_1 _) ?_
    refine va_put (D := D) (ci := 1) (v := .int (nI (k + 1))) (ty := .int) (C := RX1) (T := TX1) (N := 5) hx hb hts hin_X1 tyX1 tyX1_ok nmX1 hown hK hP hD hS 0 rfl rfl 4 (by decide) hl_22 (fun _ h9 => h9) rfl (by decide +kernel) rfl rfl (Nat.le_of_ble_eq_true rfl) dX1_shiftOnce_50 (fun H locs hP hD hS => ?_)
    have hP : va_P D vwCl [(a, .inr (1, [.long rg, .int sv, .ref cb, .long (lN (x * 256 + Cd.getD k 0)), .int (nI (k + 1))])), (cb, .inr (0, [.int (nI 8000), .ref q, .int (nI Cd.length)])), (q, .inl (ca 0, gcap 8000 gr, .inl f))] H := hP
    have hD : va_D A [(a, .inr (1, [.long rg, .int sv, .ref cb, .long (lN (x * 256 + Cd.getD k 0)), .int (nI (k + 1))])), (cb, .inr (0, [.int (nI 8000), .ref q, .int (nI Cd.length)])), (q, .inl (ca 0, gcap 8000 gr, .inl f))] := hD
    exact rw_vret (u := ()) hx hb hr hlocks (trivial) (hP.sub [0, 1, 2] rfl) (hD.sub [0, 1, 2] (by decide) rfl) hS (Nat.le_refl _) (Nat.le_refl _) dX1_shiftOnce_53

set_option maxHeartbeats 4000000 in
set_option maxRecDepth 100000 in
theorem c_R_place (l : Launch) (D : va_G) (ca : Nat → ClassId) (a : Nat) (cb : Nat) (R : Nat) (t : Nat) (x : Nat) (sv : Int32) (tk : Int32) (w : Int32) (ht : 1 ≤ t ∧ t < 2 ^ 31) (hR : R < 2 ^ 63) (hx2 : x < 2 ^ 63) (hu : 1 ≤ R / t) : Met l yX1_placeIn wsX1_placeIn { frames := 1, cells := 0, slots := 0, locals := 23 } (roP D vwCl (ATy ca) [(a, .inr (1, [.long (lN R), .int sv, .ref cb, .long (lN x), .int tk]))] [.ref a, .int (nI t), .int w]) (vp_Si (fun r : Int32 => r = nI (plc (x, R, 0) t))) 0 0 (fun _ => False) := by
  refine ro_enter (by decide) rfl (Nat.le_of_ble_eq_true rfl) ?_
  intro p e s m below meth c ls C hK hN hP hl
  obtain ⟨hx, hb, hr, hml, hown, hlocks, hts⟩ := C
  have hl : lv_has ls 5 [(0, .ref a), (1, .int (nI t)), (2, .int w)] := hl
  have hin_X1 : ∀ w ∈ wsX10, w ∈ wsX1_placeIn := by decide +kernel
  have hl_18 := hts (.fieldLink RX1 18 "EscapeCoder$CodeReader" "ahead" "J") (by decide +kernel)
  have hw_1ab7cb := hts (.methodLink RX1 33 Lib.MathLoose.min_long.x) (by decide +kernel)
  have hw_07670a := hts (.static Lib.MathLoose.min_long.x) (by decide +kernel)
  have hw_868a92 := hts (.initialized "java/lang/Math") (by decide +kernel)
  have hw_c0acf8 := hts (.code Lib.MathLoose.min_long.x Lib.MathLoose.min_long.code 4 (some .long)) (by decide +kernel)
  refine lv_aload_n hx hb dX1_placeIn_0 rfl (lv_at hl 0 rfl) ?_
  refine lv_iload_n hx hb dX1_placeIn_1 rfl (lv_at hl 1 rfl) ?_
  refine vp_callSl (va_Run.run (va_runU (As := [.int (nI t)]) (rest := []) ⟨hx, hb, hml, hown, hts⟩ (c_R_unit l D ca R t a cb sv tk (lN x) (ht) (hR)) (va_cwU 1 hts gX1_placeIn_X3_unitOf_u29X1 rfl rfl rfl rfl (by decide +kernel) ⟨Nat.le_of_ble_eq_true rfl, Nat.le_of_ble_eq_true rfl⟩) ⟨roP_blind, va_recv hK hP (ci := 1) (q0 := 0) rfl rfl, roP_at hK hN (hP.sub [0] rfl)⟩ rfl rfl hl.1 rfl (lv_room (Nat.le_of_ble_eq_true rfl)) dX1_placeIn_2 ⟨Nat.le_of_ble_eq_true rfl, Nat.le_of_ble_eq_true rfl⟩)) (fun r_1 hq => ?_)
  subst hq
  refine lv_lstore_n (lv' := [(3, .long (lN (R / t))), (0, .ref a), (1, .int (nI t)), (2, .int w)]) hx hb dX1_placeIn_5 rfl hl (by decide) rfl (fun ls hl => ?_)
  refine lv_lload_n hx hb dX1_placeIn_6 rfl (lv_at hl 0 rfl) ?_
  refine lv_lconst (v := lN 1) hx hb dX1_placeIn_7 (by decide) ?_
  refine W.lcmp hx hb dX1_placeIn_8 ?_
  have hRt : R / t ≤ R := Nat.div_le_self _ _
  refine bl_ge (tgt := 16) hx hb dX1_placeIn_9 (by decide) (by omega) (by omega) (fun h1 => ?_) (fun h1 => ?_)
  · refine lv_aload_n hx hb dX1_placeIn_16 rfl (lv_at hl 1 rfl) ?_
    refine va_get (D := D) (ci := 1) (v := .long (lN x)) (C := RX1) (T := TX1) (N := 5) hx hb hts hin_X1 hown hK hP 0 rfl rfl 3 (by decide) hl_18 (fun _ h9 => h9) rfl dX1_placeIn_17 ?_
    refine lv_lload_n hx hb dX1_placeIn_20 rfl (lv_at hl 0 rfl) ?_
    refine lv_ldiv hx hb dX1_placeIn_21 (lN_ne0 hu (by omega)) ?_
    refine tp_l (y := lN (x / (R / t))) (pk_lDiv hx2 (by omega) (by omega)) ?_
    refine lv_iload_n hx hb dX1_placeIn_22 rfl (lv_at hl 2 rfl) ?_
    refine lv_iconst (v := nI 1) hx hb dX1_placeIn_23 (by decide) ?_
    refine lv_isub hx hb dX1_placeIn_24 ?_
    refine tp_i (y := nI (t - 1)) (pk_sub ht.1) ?_
    refine lv_i2l (v := lN (t - 1)) hx hb dX1_placeIn_25 (nI_l (by omega)) ?_
    have hxq : x / (R / t) ≤ x := Nat.div_le_self _ _
    refine mnl (x := x / (R / t)) (y := t - 1) hx hb (hml.trans hl.1.symm) hown hw_1ab7cb hw_07670a hw_868a92 hw_c0acf8 (Nat.le_of_ble_eq_true rfl) (Nat.le_of_ble_eq_true rfl) (Nat.zero_le _) (Nat.zero_le _) (by omega) (by omega) dX1_placeIn_26 ?_
    refine lv_l2i (v := nI (min (x / (R / t)) (t - 1))) hx hb dX1_placeIn_29 (lN_i _) ?_
    exact ro_iret hx hb hr hlocks (rfl) dX1_placeIn_30
  · exact absurd h1 (by omega)

set_option maxHeartbeats 4000000 in
set_option maxRecDepth 100000 in
theorem c_R_restart (l : Launch) (D : va_G) (ca : Nat → ClassId) (a : Nat) (cb : Nat) (q : Nat) (gr : Nat) (rg : Int64) (lo : Int64) (sv : Int32) (tk : Int32) (f : Nat → Int32) (Cd : List Nat) (hB : BR f Cd) (hL : Cd.length ≤ gcap 8000 gr) (hy : ∀ j, Cd.getD j 0 < 256) (sz : Nat) : Met l yX1_restart wsX1_restart { frames := 2, cells := 0, slots := 0, locals := 41 } (rwP D vwCl (ATy ca) [(a, .inr (1, [.long rg, .int sv, .ref cb, .long lo, .int tk])), (cb, .inr (0, [.int (nI 8000), .ref q, .int (nI Cd.length)])), (q, .inl (ca 0, gcap 8000 gr, .inl f))] sz [.ref a]) (va_Qv (fun (u : Unit) => True) (bB D vwCl (fun (u : Unit) => [(a, .inr (1, [.long (lN 4294967295), .int (nI 0), .ref cb, .long (lN (val4 Cd)), .int (nI (4 + 0))])), (cb, .inr (0, [.int (nI 8000), .ref q, .int (nI Cd.length)])), (q, .inl (ca 0, gcap 8000 gr, .inl f))]) (va_A [(a, .inr (1, [.long rg, .int sv, .ref cb, .long lo, .int tk])), (cb, .inr (0, [.int (nI 8000), .ref q, .int (nI Cd.length)])), (q, .inl (ca 0, gcap 8000 gr, .inl f))] sz)) (va_A [(a, .inr (1, [.long rg, .int sv, .ref cb, .long lo, .int tk])), (cb, .inr (0, [.int (nI 8000), .ref q, .int (nI Cd.length)])), (q, .inl (ca 0, gcap 8000 gr, .inl f))] sz)) 0 0 (va_A [(a, .inr (1, [.long rg, .int sv, .ref cb, .long lo, .int tk])), (cb, .inr (0, [.int (nI 8000), .ref q, .int (nI Cd.length)])), (q, .inl (ca 0, gcap 8000 gr, .inl f))] sz) := by
  refine rw_enter (Q := fun A => va_Qv (fun (u : Unit) => True) (bB D vwCl (fun (u : Unit) => [(a, .inr (1, [.long (lN 4294967295), .int (nI 0), .ref cb, .long (lN (val4 Cd)), .int (nI (4 + 0))])), (cb, .inr (0, [.int (nI 8000), .ref q, .int (nI Cd.length)])), (q, .inl (ca 0, gcap 8000 gr, .inl f))]) A) A) (by decide) rfl (Nat.le_of_ble_eq_true rfl) ?_
  intro p e s m below meth c ls A C hnm hK hN hP hD hA hl
  have hS : va_S A s.heap s.heap [] := va_S.rf
  obtain ⟨hx, hb, hr, hml, hown, hlocks, hts⟩ := C
  have hl : lv_has ls 2 [(0, .ref a)] := hl
  have hin_X1 : ∀ w ∈ wsX10, w ∈ wsX1_restart := by decide +kernel
  have hl_18 := hts (.fieldLink RX1 18 "EscapeCoder$CodeReader" "ahead" "J") (by decide +kernel)
  have hl_22 := hts (.fieldLink RX1 22 "EscapeCoder$CodeReader" "taken" "I") (by decide +kernel)
  refine lv_aload_n hx hb dX1_restart_0 rfl (lv_at hl 0 rfl) ?_
  refine rw_callv (wc := [(a, .inr (1, [.long rg, .int sv, .ref cb, .long lo, .int tk]))]) (wr := [(cb, .inr (0, [.int (nI 8000), .ref q, .int (nI Cd.length)])), (q, .inl (ca 0, gcap 8000 gr, .inl f))]) hP hD hS hA [0] [1, 2] rfl rfl (by decide) (by decide) (va_runU (As := []) (rest := []) ⟨hx, hb, hml, hown, hts⟩ (c_R_widen l D ca a cb rg lo sv tk  s.heap.size) (va_cwU 0 hts gX1_restart_X3_widen_u15X1 rfl rfl rfl rfl (by decide +kernel) ⟨Nat.le_of_ble_eq_true rfl, Nat.le_of_ble_eq_true rfl⟩) ⟨rwP_blind, va_recv hK hP (ci := 1) (q0 := 0) rfl rfl, rwP_at hK hN (hP.sub [0] rfl) (hD.sub [0] (by decide) rfl)⟩ rfl rfl hl.1 rfl (lv_room (Nat.le_of_ble_eq_true rfl)) dX1_restart_1 ⟨Nat.le_of_ble_eq_true rfl, Nat.le_of_ble_eq_true rfl⟩) (fun u H locs hq hP hD hS => ?_)
  try dsimp only at hq
  have hP : va_P D vwCl [(cb, .inr (0, [.int (nI 8000), .ref q, .int (nI Cd.length)])), (q, .inl (ca 0, gcap 8000 gr, .inl f)), (a, .inr (1, [.long (lN 4294967295), .int (nI 0), .ref cb, .long lo, .int tk]))] H := hP
  have hD : va_D A [(cb, .inr (0, [.int (nI 8000), .ref q, .int (nI Cd.length)])), (q, .inl (ca 0, gcap 8000 gr, .inl f)), (a, .inr (1, [.long (lN 4294967295), .int (nI 0), .ref cb, .long lo, .int tk]))] := hD
  refine lv_aload_n hx hb dX1_restart_4 rfl (lv_at hl 0 rfl) ?_
  refine lv_lconst (v := lN 0) hx hb dX1_restart_5 (by decide) ?_
  refine va_put (D := D) (ci := 1) (v := .long (lN 0)) (ty := .long) (C := RX1) (T := TX1) (N := 5) hx hb hts hin_X1 tyX1 tyX1_ok nmX1 hown hK hP hD hS 2 rfl rfl 3 (by decide) hl_18 (fun _ h9 => h9) rfl (by decide +kernel) rfl rfl (Nat.le_of_ble_eq_true rfl) dX1_restart_6 (fun H locs hP hD hS => ?_)
  have hP : va_P D vwCl [(cb, .inr (0, [.int (nI 8000), .ref q, .int (nI Cd.length)])), (q, .inl (ca 0, gcap 8000 gr, .inl f)), (a, .inr (1, [.long (lN 4294967295), .int (nI 0), .ref cb, .long (lN 0), .int tk]))] H := hP
  have hD : va_D A [(cb, .inr (0, [.int (nI 8000), .ref q, .int (nI Cd.length)])), (q, .inl (ca 0, gcap 8000 gr, .inl f)), (a, .inr (1, [.long (lN 4294967295), .int (nI 0), .ref cb, .long (lN 0), .int tk]))] := hD
  refine lv_aload_n hx hb dX1_restart_9 rfl (lv_at hl 0 rfl) ?_
  refine lv_iconst (v := nI 0) hx hb dX1_restart_10 (by decide) ?_
  refine va_put (D := D) (ci := 1) (v := .int (nI 0)) (ty := .int) (C := RX1) (T := TX1) (N := 5) hx hb hts hin_X1 tyX1 tyX1_ok nmX1 hown hK hP hD hS 2 rfl rfl 4 (by decide) hl_22 (fun _ h9 => h9) rfl (by decide +kernel) rfl rfl (Nat.le_of_ble_eq_true rfl) dX1_restart_11 (fun H locs hP hD hS => ?_)
  have hP : va_P D vwCl [(cb, .inr (0, [.int (nI 8000), .ref q, .int (nI Cd.length)])), (q, .inl (ca 0, gcap 8000 gr, .inl f)), (a, .inr (1, [.long (lN 4294967295), .int (nI 0), .ref cb, .long (lN 0), .int (nI 0)]))] H := hP
  have hD : va_D A [(cb, .inr (0, [.int (nI 8000), .ref q, .int (nI Cd.length)])), (q, .inl (ca 0, gcap 8000 gr, .inl f)), (a, .inr (1, [.long (lN 4294967295), .int (nI 0), .ref cb, .long (lN 0), .int (nI 0)]))] := hD
  refine lv_iconst (v := nI 0) hx hb dX1_restart_14 (by decide) ?_
  refine lv_istore_n (lv' := [(1, .int (nI 0)), (0, .ref a)]) hx hb dX1_restart_15 rfl hl (by decide) rfl (fun ls hl => ?_)
  refine lv_iload_n hx hb dX1_restart_16 rfl (lv_at hl 0 rfl) ?_
  refine lv_iconst (v := nI 4) hx hb dX1_restart_17 (by decide) ?_
  refine bn_ge (tgt := 31) hx hb dX1_restart_18 (by decide) (by omega) (by omega) (fun hh => ?_) (fun hh => ?_)
  · exact absurd hh (by decide)
  · refine lv_aload_n hx hb dX1_restart_21 rfl (lv_at hl 1 rfl) ?_
    refine rw_callv (wc := [(a, .inr (1, [.long (lN 4294967295), .int (nI 0), .ref cb, .long (lN 0), .int (nI 0)])), (cb, .inr (0, [.int (nI 8000), .ref q, .int (nI Cd.length)])), (q, .inl (ca 0, gcap 8000 gr, .inl f))]) (wr := []) hP hD hS hA [2, 0, 1] [] rfl rfl (by decide) (by decide) (va_runV (As := []) (rest := []) ⟨hx, hb, hml, hown, hts⟩ (c_R_shift l D ca a cb q gr (lN 4294967295) (nI 0) 0 0 f Cd (hB) (hL) (hy) (by decide) H.size) (cwV 0 hts gX1_restart_X1_shiftOnce rfl rfl rfl (by decide +kernel) ⟨Nat.le_of_ble_eq_true rfl, Nat.le_of_ble_eq_true rfl⟩) ⟨rwP_blind, va_recv hK hP (ci := 1) (q0 := 2) rfl rfl, rwP_at hK hN (hP.sub [2, 0, 1] rfl) (hD.sub [2, 0, 1] (by decide) rfl)⟩ rfl rfl hl.1 rfl (lv_room (Nat.le_of_ble_eq_true rfl)) dX1_restart_22 ⟨Nat.le_of_ble_eq_true rfl, Nat.le_of_ble_eq_true rfl⟩) (fun u H locs hq hP hD hS => ?_)
    try dsimp only at hq
    have hP : va_P D vwCl [(a, .inr (1, [.long (lN 4294967295), .int (nI 0), .ref cb, .long (lN (0 * 256 + Cd.getD 0 0)), .int (nI (0 + 1))])), (cb, .inr (0, [.int (nI 8000), .ref q, .int (nI Cd.length)])), (q, .inl (ca 0, gcap 8000 gr, .inl f))] H := hP
    have hD : va_D A [(a, .inr (1, [.long (lN 4294967295), .int (nI 0), .ref cb, .long (lN (0 * 256 + Cd.getD 0 0)), .int (nI (0 + 1))])), (cb, .inr (0, [.int (nI 8000), .ref q, .int (nI Cd.length)])), (q, .inl (ca 0, gcap 8000 gr, .inl f))] := hD
    refine lv_iinc (v := nI 1) (lv' := [(1, .int (nI 1)), (0, .ref a)]) hx hb dX1_restart_25 hl (k := 0) rfl (by decide) (by decide) rfl (fun ls hl => ?_)
    refine lv_goto (tgt := 16) hx hb dX1_restart_28 (by decide) ?_
    refine lv_iload_n hx hb dX1_restart_16 rfl (lv_at hl 0 rfl) ?_
    refine lv_iconst (v := nI 4) hx hb dX1_restart_17 (by decide) ?_
    refine bn_ge (tgt := 31) hx hb dX1_restart_18 (by decide) (by omega) (by omega) (fun hh => ?_) (fun hh => ?_)
    · exact absurd hh (by decide)
    · refine lv_aload_n hx hb dX1_restart_21 rfl (lv_at hl 1 rfl) ?_
      refine rw_callv (wc := [(a, .inr (1, [.long (lN 4294967295), .int (nI 0), .ref cb, .long (lN (0 * 256 + Cd.getD 0 0)), .int (nI (0 + 1))])), (cb, .inr (0, [.int (nI 8000), .ref q, .int (nI Cd.length)])), (q, .inl (ca 0, gcap 8000 gr, .inl f))]) (wr := []) hP hD hS hA [0, 1, 2] [] rfl rfl (by decide) (by decide) (va_runV (As := []) (rest := []) ⟨hx, hb, hml, hown, hts⟩ (c_R_shift l D ca a cb q gr (lN 4294967295) (nI 0) (0 * 256 + Cd.getD 0 0) (0 + 1) f Cd (hB) (hL) (hy) (by decide) H.size) (cwV 0 hts gX1_restart_X1_shiftOnce rfl rfl rfl (by decide +kernel) ⟨Nat.le_of_ble_eq_true rfl, Nat.le_of_ble_eq_true rfl⟩) ⟨rwP_blind, va_recv hK hP (ci := 1) (q0 := 0) rfl rfl, rwP_at hK hN (hP.sub [0, 1, 2] rfl) (hD.sub [0, 1, 2] (by decide) rfl)⟩ rfl rfl hl.1 rfl (lv_room (Nat.le_of_ble_eq_true rfl)) dX1_restart_22 ⟨Nat.le_of_ble_eq_true rfl, Nat.le_of_ble_eq_true rfl⟩) (fun u H locs hq hP hD hS => ?_)
      try dsimp only at hq
      have hP : va_P D vwCl [(a, .inr (1, [.long (lN 4294967295), .int (nI 0), .ref cb, .long (lN ((0 * 256 + Cd.getD 0 0) * 256 + Cd.getD (0 + 1) 0)), .int (nI ((0 + 1) + 1))])), (cb, .inr (0, [.int (nI 8000), .ref q, .int (nI Cd.length)])), (q, .inl (ca 0, gcap 8000 gr, .inl f))] H := hP
      have hD : va_D A [(a, .inr (1, [.long (lN 4294967295), .int (nI 0), .ref cb, .long (lN ((0 * 256 + Cd.getD 0 0) * 256 + Cd.getD (0 + 1) 0)), .int (nI ((0 + 1) + 1))])), (cb, .inr (0, [.int (nI 8000), .ref q, .int (nI Cd.length)])), (q, .inl (ca 0, gcap 8000 gr, .inl f))] := hD
      refine lv_iinc (v := nI 2) (lv' := [(1, .int (nI 2)), (0, .ref a)]) hx hb dX1_restart_25 hl (k := 0) rfl (by decide) (by decide) rfl (fun ls hl => ?_)
      refine lv_goto (tgt := 16) hx hb dX1_restart_28 (by decide) ?_
      refine lv_iload_n hx hb dX1_restart_16 rfl (lv_at hl 0 rfl) ?_
      refine lv_iconst (v := nI 4) hx hb dX1_restart_17 (by decide) ?_
      refine bn_ge (tgt := 31) hx hb dX1_restart_18 (by decide) (by omega) (by omega) (fun hh => ?_) (fun hh => ?_)
      · exact absurd hh (by decide)
      · refine lv_aload_n hx hb dX1_restart_21 rfl (lv_at hl 1 rfl) ?_
        refine rw_callv (wc := [(a, .inr (1, [.long (lN 4294967295), .int (nI 0), .ref cb, .long (lN ((0 * 256 + Cd.getD 0 0) * 256 + Cd.getD (0 + 1) 0)), .int (nI ((0 + 1) + 1))])), (cb, .inr (0, [.int (nI 8000), .ref q, .int (nI Cd.length)])), (q, .inl (ca 0, gcap 8000 gr, .inl f))]) (wr := []) hP hD hS hA [0, 1, 2] [] rfl rfl (by decide) (by decide) (va_runV (As := []) (rest := []) ⟨hx, hb, hml, hown, hts⟩ (c_R_shift l D ca a cb q gr (lN 4294967295) (nI 0) ((0 * 256 + Cd.getD 0 0) * 256 + Cd.getD (0 + 1) 0) ((0 + 1) + 1) f Cd (hB) (hL) (hy) (by decide) H.size) (cwV 0 hts gX1_restart_X1_shiftOnce rfl rfl rfl (by decide +kernel) ⟨Nat.le_of_ble_eq_true rfl, Nat.le_of_ble_eq_true rfl⟩) ⟨rwP_blind, va_recv hK hP (ci := 1) (q0 := 0) rfl rfl, rwP_at hK hN (hP.sub [0, 1, 2] rfl) (hD.sub [0, 1, 2] (by decide) rfl)⟩ rfl rfl hl.1 rfl (lv_room (Nat.le_of_ble_eq_true rfl)) dX1_restart_22 ⟨Nat.le_of_ble_eq_true rfl, Nat.le_of_ble_eq_true rfl⟩) (fun u H locs hq hP hD hS => ?_)
        try dsimp only at hq
        have hP : va_P D vwCl [(a, .inr (1, [.long (lN 4294967295), .int (nI 0), .ref cb, .long (lN (((0 * 256 + Cd.getD 0 0) * 256 + Cd.getD (0 + 1) 0) * 256 + Cd.getD ((0 + 1) + 1) 0)), .int (nI (((0 + 1) + 1) + 1))])), (cb, .inr (0, [.int (nI 8000), .ref q, .int (nI Cd.length)])), (q, .inl (ca 0, gcap 8000 gr, .inl f))] H := hP
        have hD : va_D A [(a, .inr (1, [.long (lN 4294967295), .int (nI 0), .ref cb, .long (lN (((0 * 256 + Cd.getD 0 0) * 256 + Cd.getD (0 + 1) 0) * 256 + Cd.getD ((0 + 1) + 1) 0)), .int (nI (((0 + 1) + 1) + 1))])), (cb, .inr (0, [.int (nI 8000), .ref q, .int (nI Cd.length)])), (q, .inl (ca 0, gcap 8000 gr, .inl f))] := hD
        refine lv_iinc (v := nI 3) (lv' := [(1, .int (nI 3)), (0, .ref a)]) hx hb dX1_restart_25 hl (k := 0) rfl (by decide) (by decide) rfl (fun ls hl => ?_)
        refine lv_goto (tgt := 16) hx hb dX1_restart_28 (by decide) ?_
        refine lv_iload_n hx hb dX1_restart_16 rfl (lv_at hl 0 rfl) ?_
        refine lv_iconst (v := nI 4) hx hb dX1_restart_17 (by decide) ?_
        refine bn_ge (tgt := 31) hx hb dX1_restart_18 (by decide) (by omega) (by omega) (fun hh => ?_) (fun hh => ?_)
        · exact absurd hh (by decide)
        · refine lv_aload_n hx hb dX1_restart_21 rfl (lv_at hl 1 rfl) ?_
          refine rw_callv (wc := [(a, .inr (1, [.long (lN 4294967295), .int (nI 0), .ref cb, .long (lN (((0 * 256 + Cd.getD 0 0) * 256 + Cd.getD (0 + 1) 0) * 256 + Cd.getD ((0 + 1) + 1) 0)), .int (nI (((0 + 1) + 1) + 1))])), (cb, .inr (0, [.int (nI 8000), .ref q, .int (nI Cd.length)])), (q, .inl (ca 0, gcap 8000 gr, .inl f))]) (wr := []) hP hD hS hA [0, 1, 2] [] rfl rfl (by decide) (by decide) (va_runV (As := []) (rest := []) ⟨hx, hb, hml, hown, hts⟩ (c_R_shift l D ca a cb q gr (lN 4294967295) (nI 0) (((0 * 256 + Cd.getD 0 0) * 256 + Cd.getD (0 + 1) 0) * 256 + Cd.getD ((0 + 1) + 1) 0) (((0 + 1) + 1) + 1) f Cd (hB) (hL) (hy) (by decide) H.size) (cwV 0 hts gX1_restart_X1_shiftOnce rfl rfl rfl (by decide +kernel) ⟨Nat.le_of_ble_eq_true rfl, Nat.le_of_ble_eq_true rfl⟩) ⟨rwP_blind, va_recv hK hP (ci := 1) (q0 := 0) rfl rfl, rwP_at hK hN (hP.sub [0, 1, 2] rfl) (hD.sub [0, 1, 2] (by decide) rfl)⟩ rfl rfl hl.1 rfl (lv_room (Nat.le_of_ble_eq_true rfl)) dX1_restart_22 ⟨Nat.le_of_ble_eq_true rfl, Nat.le_of_ble_eq_true rfl⟩) (fun u H locs hq hP hD hS => ?_)
          try dsimp only at hq
          have hP : va_P D vwCl [(a, .inr (1, [.long (lN 4294967295), .int (nI 0), .ref cb, .long (lN ((((0 * 256 + Cd.getD 0 0) * 256 + Cd.getD (0 + 1) 0) * 256 + Cd.getD ((0 + 1) + 1) 0) * 256 + Cd.getD (((0 + 1) + 1) + 1) 0)), .int (nI ((((0 + 1) + 1) + 1) + 1))])), (cb, .inr (0, [.int (nI 8000), .ref q, .int (nI Cd.length)])), (q, .inl (ca 0, gcap 8000 gr, .inl f))] H := hP
          have hD : va_D A [(a, .inr (1, [.long (lN 4294967295), .int (nI 0), .ref cb, .long (lN ((((0 * 256 + Cd.getD 0 0) * 256 + Cd.getD (0 + 1) 0) * 256 + Cd.getD ((0 + 1) + 1) 0) * 256 + Cd.getD (((0 + 1) + 1) + 1) 0)), .int (nI ((((0 + 1) + 1) + 1) + 1))])), (cb, .inr (0, [.int (nI 8000), .ref q, .int (nI Cd.length)])), (q, .inl (ca 0, gcap 8000 gr, .inl f))] := hD
          refine lv_iinc (v := nI 4) (lv' := [(1, .int (nI 4)), (0, .ref a)]) hx hb dX1_restart_25 hl (k := 0) rfl (by decide) (by decide) rfl (fun ls hl => ?_)
          refine lv_goto (tgt := 16) hx hb dX1_restart_28 (by decide) ?_
          refine lv_iload_n hx hb dX1_restart_16 rfl (lv_at hl 0 rfl) ?_
          refine lv_iconst (v := nI 4) hx hb dX1_restart_17 (by decide) ?_
          refine bn_ge (tgt := 31) hx hb dX1_restart_18 (by decide) (by omega) (by omega) (fun hh => ?_) (fun hh => ?_)
          · have hP : va_P D vwCl [(a, .inr (1, [.long (lN 4294967295), .int (nI 0), .ref cb, .long (lN (val4 Cd)), .int (nI (4 + 0))])), (cb, .inr (0, [.int (nI 8000), .ref q, .int (nI Cd.length)])), (q, .inl (ca 0, gcap 8000 gr, .inl f))] H := by rw [val4_z]; exact hP
            have hD : va_D A [(a, .inr (1, [.long (lN 4294967295), .int (nI 0), .ref cb, .long (lN (val4 Cd)), .int (nI (4 + 0))])), (cb, .inr (0, [.int (nI 8000), .ref q, .int (nI Cd.length)])), (q, .inl (ca 0, gcap 8000 gr, .inl f))] := by rw [val4_z]; exact hD
            exact rw_vret (u := ()) hx hb hr hlocks (trivial) (hP.sub [0, 1, 2] rfl) (hD.sub [0, 1, 2] (by decide) rfl) hS (Nat.le_refl _) (Nat.le_refl _) dX1_restart_31
          · exact absurd hh (by decide)

set_option maxHeartbeats 4000000 in
set_option maxRecDepth 100000 in
theorem c_W_narrow (l : Launch) (D : va_G) (ca : Nat → ClassId) (a : Nat) (cb : Nat) (q : Nat) (gr : Nat) (R : Nat) (sh : Nat) (x : Nat) (b : Nat) (pa : Nat) (t : Nat) (f : Nat → Int32) (hB : BR f (dig sh (x / 4294967296))) (hL : sh ≤ gcap 8000 gr) (hn : sh + 4 ≤ 8000) (hR : R < 4294967296) (ht : 1 ≤ t ∧ t < 2 ^ 30 ∧ b + pa ≤ t) (sz : Nat) : Met l yX3_narrow wsX3_narrow { frames := 4, cells := max gr (gN (nar false [] b pa t (x, R, sh)).2.2) - gr, slots := 20000 * (max gr (gN (nar false [] b pa t (x, R, sh)).2.2) - gr), locals := 89 } (rwP D vwCl (ATy ca) [(a, .inr (2, [.long (lN R), .int (nI sh), .ref cb, .long (lN (x % 4294967296))])), (cb, .inr (0, [.int (nI 8000), .ref q, .int (nI (dig sh (x / 4294967296)).length)])), (q, .inl (ca 0, gcap 8000 gr, .inl f))] sz [.ref a, .int (nI b), .int (nI pa), .int (nI t)]) (va_Qv (fun (u : Nat × (Nat → Int32)) => BR u.2 (dig (nar false [] b pa t (x, R, sh)).2.2 ((nar false [] b pa t (x, R, sh)).1 / 4294967296))) (bB D vwCl (fun (u : Nat × (Nat → Int32)) => [(a, .inr (2, [.long (lN ((nar false [] b pa t (x, R, sh)).2.1)), .int (nI ((nar false [] b pa t (x, R, sh)).2.2)), .ref cb, .long (lN ((nar false [] b pa t (x, R, sh)).1 % 4294967296))])), (cb, .inr (0, [.int (nI 8000), .ref u.1, .int (nI (dig ((nar false [] b pa t (x, R, sh)).2.2) ((nar false [] b pa t (x, R, sh)).1 / 4294967296)).length)])), (u.1, .inl (ca 0, gcap 8000 (max gr (gN (nar false [] b pa t (x, R, sh)).2.2)), .inl u.2))]) (va_A [(a, .inr (2, [.long (lN R), .int (nI sh), .ref cb, .long (lN (x % 4294967296))])), (cb, .inr (0, [.int (nI 8000), .ref q, .int (nI (dig sh (x / 4294967296)).length)])), (q, .inl (ca 0, gcap 8000 gr, .inl f))] sz)) (va_A [(a, .inr (2, [.long (lN R), .int (nI sh), .ref cb, .long (lN (x % 4294967296))])), (cb, .inr (0, [.int (nI 8000), .ref q, .int (nI (dig sh (x / 4294967296)).length)])), (q, .inl (ca 0, gcap 8000 gr, .inl f))] sz)) (max gr (gN (nar false [] b pa t (x, R, sh)).2.2) - gr) (20000 * (max gr (gN (nar false [] b pa t (x, R, sh)).2.2) - gr)) (va_A [(a, .inr (2, [.long (lN R), .int (nI sh), .ref cb, .long (lN (x % 4294967296))])), (cb, .inr (0, [.int (nI 8000), .ref q, .int (nI (dig sh (x / 4294967296)).length)])), (q, .inl (ca 0, gcap 8000 gr, .inl f))] sz) := by
  refine rw_enter (Q := fun A => va_Qv (fun (u : Nat × (Nat → Int32)) => BR u.2 (dig (nar false [] b pa t (x, R, sh)).2.2 ((nar false [] b pa t (x, R, sh)).1 / 4294967296))) (bB D vwCl (fun (u : Nat × (Nat → Int32)) => [(a, .inr (2, [.long (lN ((nar false [] b pa t (x, R, sh)).2.1)), .int (nI ((nar false [] b pa t (x, R, sh)).2.2)), .ref cb, .long (lN ((nar false [] b pa t (x, R, sh)).1 % 4294967296))])), (cb, .inr (0, [.int (nI 8000), .ref u.1, .int (nI (dig ((nar false [] b pa t (x, R, sh)).2.2) ((nar false [] b pa t (x, R, sh)).1 / 4294967296)).length)])), (u.1, .inl (ca 0, gcap 8000 (max gr (gN (nar false [] b pa t (x, R, sh)).2.2)), .inl u.2))]) A) A) (by decide) rfl (Nat.le_of_ble_eq_true rfl) ?_
  intro p e s m below meth c ls A C hnm hK hN hP hD hA hl
  have hS : va_S A s.heap s.heap [] := va_S.rf
  obtain ⟨hx, hb, hr, hml, hown, hlocks, hts⟩ := C
  have hl : lv_has ls 7 [(0, .ref a), (1, .int (nI b)), (2, .int (nI pa)), (3, .int (nI t))] := hl
  have hin_X2 : ∀ w ∈ wsX20, w ∈ wsX3_narrow := by decide +kernel
  have hl_7 := hts (.fieldLink RX3 7 "EscapeCoder$Interval" "range" "J") (by decide +kernel)
  have hw_bea777 := hts (.constantLong RX3 27 (lN 16777216)) (by decide +kernel)
  have hw_477da2 := hts (.constantLong RX3 32 (lN 256)) (by decide +kernel)
  have hl_13 := hts (.fieldLink RX3 13 "EscapeCoder$Interval" "shifts" "I") (by decide +kernel)
  have hu : R / t ≤ R := Nat.div_le_self _ _
  have hub : R / t * b ≤ R := Nat.le_trans (Nat.mul_le_mul_left _ (show b ≤ t by omega)) (Nat.div_mul_le_self _ _)
  have hlo : ∀ (k : Nat) (i : Nat) (x1 : Nat) (R1 : Nat) (s1 : Nat) (q1 : Nat) (f1 : Nat → Int32), (i + k = 4) → (BR f1 (dig s1 (x1 / 4294967296))) → (s1 ≤ gcap 8000 (max gr (gN s1))) → (s1 + k ≤ 8000) → (R1 < 4294967296) → (shf false [] k (x1, R1, s1) = nar false [] b pa t (x, R, sh)) → ∀ (H : Heap) (locs : List Loc), va_P D vwCl [(a, .inr (2, [.long (lN R1), .int (nI s1), .ref cb, .long (lN (x1 % 4294967296))])), (cb, .inr (0, [.int (nI 8000), .ref q1, .int (nI (dig s1 (x1 / 4294967296)).length)])), (q1, .inl (ca 0, gcap 8000 (max gr (gN s1)), .inl f1))] H → va_D A [(a, .inr (2, [.long (lN R1), .int (nI s1), .ref cb, .long (lN (x1 % 4294967296))])), (cb, .inr (0, [.int (nI 8000), .ref q1, .int (nI (dig s1 (x1 / 4294967296)).length)])), (q1, .inl (ca 0, gcap 8000 (max gr (gN s1)), .inl f1))] → va_S A s.heap H locs → ∀ (ls : Array Slot), lv_has ls 7 [(6, .int (nI i)), (0, .ref a), (1, .int (nI b)), (2, .int (nI pa)), (3, .int (nI t)), (4, .long (lN (R / t)))] → W p l e ({ frames := 4, cells := max gr (gN (nar false [] b pa t (x, R, sh)).2.2) - gr, slots := 20000 * (max gr (gN (nar false [] b pa t (x, R, sh)).2.2) - gr), locals := 89 } : Room) s m ([.ref a, .int (nI b), .int (nI pa), .int (nI t)] : List Value).toArray below meth c H locs (max gr (gN s1) - gr) (20000 * (max gr (gN s1) - gr)) (MQ below (va_Qv (fun (u : Nat × (Nat → Int32)) => BR u.2 (dig (nar false [] b pa t (x, R, sh)).2.2 ((nar false [] b pa t (x, R, sh)).1 / 4294967296))) (bB D vwCl (fun (u : Nat × (Nat → Int32)) => [(a, .inr (2, [.long (lN ((nar false [] b pa t (x, R, sh)).2.1)), .int (nI ((nar false [] b pa t (x, R, sh)).2.2)), .ref cb, .long (lN ((nar false [] b pa t (x, R, sh)).1 % 4294967296))])), (cb, .inr (0, [.int (nI 8000), .ref u.1, .int (nI (dig ((nar false [] b pa t (x, R, sh)).2.2) ((nar false [] b pa t (x, R, sh)).1 / 4294967296)).length)])), (u.1, .inl (ca 0, gcap 8000 (max gr (gN (nar false [] b pa t (x, R, sh)).2.2)), .inl u.2))]) A) A) ([.ref a, .int (nI b), .int (nI pa), .int (nI t)] : List Value).toArray s (max gr (gN (nar false [] b pa t (x, R, sh)).2.2) - gr) (20000 * (max gr (gN (nar false [] b pa t (x, R, sh)).2.2) - gr)) A) (F0 m 48 ls []) := by
    intro k
    induction k with
    | zero =>
      intro i x1 R1 s1 q1 f1 hi hB1 hL1 hn1 hR1 hE H locs hP hD hS ls hl
      refine lv_iload hx hb dX3_narrow_48 (lv_at hl 0 rfl) ?_
      refine lv_iconst (v := nI 4) hx hb dX3_narrow_50 (by decide) ?_
      refine bn_ge (tgt := 97) hx hb dX3_narrow_51 (by decide) (by omega) (by omega) (fun h1 => ?_) (fun h1 => ?_)
      · have hE1 : (x1, R1, s1) = nar false [] b pa t (x, R, sh) := hE
        have hP : va_P D vwCl [(a, .inr (2, [.long (lN ((nar false [] b pa t (x, R, sh)).2.1)), .int (nI ((nar false [] b pa t (x, R, sh)).2.2)), .ref cb, .long (lN ((nar false [] b pa t (x, R, sh)).1 % 4294967296))])), (cb, .inr (0, [.int (nI 8000), .ref q1, .int (nI (dig ((nar false [] b pa t (x, R, sh)).2.2) ((nar false [] b pa t (x, R, sh)).1 / 4294967296)).length)])), (q1, .inl (ca 0, gcap 8000 (max gr (gN (nar false [] b pa t (x, R, sh)).2.2)), .inl f1))] H := by rw [← hE1]; exact hP
        have hD : va_D A [(a, .inr (2, [.long (lN ((nar false [] b pa t (x, R, sh)).2.1)), .int (nI ((nar false [] b pa t (x, R, sh)).2.2)), .ref cb, .long (lN ((nar false [] b pa t (x, R, sh)).1 % 4294967296))])), (cb, .inr (0, [.int (nI 8000), .ref q1, .int (nI (dig ((nar false [] b pa t (x, R, sh)).2.2) ((nar false [] b pa t (x, R, sh)).1 / 4294967296)).length)])), (q1, .inl (ca 0, gcap 8000 (max gr (gN (nar false [] b pa t (x, R, sh)).2.2)), .inl f1))] := by rw [← hE1]; exact hD
        exact rw_vret (u := (q1, f1)) hx hb hr hlocks (by rw [← hE1]; exact hB1) (hP.sub [0, 1, 2] rfl) (hD.sub [0, 1, 2] (by decide) rfl) hS (by rw [← hE1]; exact Nat.le_refl _) (by rw [← hE1]; exact Nat.le_refl _) dX3_narrow_97
      · exact absurd h1 (by omega)
    | succ k ih =>
      intro i x1 R1 s1 q1 f1 hi hB1 hL1 hn1 hR1 hE H locs hP hD hS ls hl
      refine lv_iload hx hb dX3_narrow_48 (lv_at hl 0 rfl) ?_
      refine lv_iconst (v := nI 4) hx hb dX3_narrow_50 (by decide) ?_
      refine bn_ge (tgt := 97) hx hb dX3_narrow_51 (by decide) (by omega) (by omega) (fun h1 => ?_) (fun h1 => ?_)
      · exact absurd h1 (by omega)
      · refine lv_aload_n hx hb dX3_narrow_54 rfl (lv_at hl 1 rfl) ?_
        refine va_get (D := D) (ci := 2) (v := .long (lN R1)) (C := RX2) (T := TX2) (N := 4) hx hb hts hin_X2 hown hK hP 0 rfl rfl 0 (by decide) hl_7 (fun _ h9 => h9) rfl dX3_narrow_55 ?_
        refine lv_ldc2 (v := lN 16777216) hx hb hown hw_bea777 dX3_narrow_58 ?_
        refine W.lcmp hx hb dX3_narrow_61 ?_
        refine bl_ge (tgt := 97) hx hb dX3_narrow_62 (by decide) (by omega) (by omega) (fun h2 => ?_) (fun h2 => ?_)
        · have hE1 : (x1, R1, s1) = nar false [] b pa t (x, R, sh) := by rw [← hE, shf_s, if_neg (by show ¬ R1 < 16777216; omega)]
          have hP : va_P D vwCl [(a, .inr (2, [.long (lN ((nar false [] b pa t (x, R, sh)).2.1)), .int (nI ((nar false [] b pa t (x, R, sh)).2.2)), .ref cb, .long (lN ((nar false [] b pa t (x, R, sh)).1 % 4294967296))])), (cb, .inr (0, [.int (nI 8000), .ref q1, .int (nI (dig ((nar false [] b pa t (x, R, sh)).2.2) ((nar false [] b pa t (x, R, sh)).1 / 4294967296)).length)])), (q1, .inl (ca 0, gcap 8000 (max gr (gN (nar false [] b pa t (x, R, sh)).2.2)), .inl f1))] H := by rw [← hE1]; exact hP
          have hD : va_D A [(a, .inr (2, [.long (lN ((nar false [] b pa t (x, R, sh)).2.1)), .int (nI ((nar false [] b pa t (x, R, sh)).2.2)), .ref cb, .long (lN ((nar false [] b pa t (x, R, sh)).1 % 4294967296))])), (cb, .inr (0, [.int (nI 8000), .ref q1, .int (nI (dig ((nar false [] b pa t (x, R, sh)).2.2) ((nar false [] b pa t (x, R, sh)).1 / 4294967296)).length)])), (q1, .inl (ca 0, gcap 8000 (max gr (gN (nar false [] b pa t (x, R, sh)).2.2)), .inl f1))] := by rw [← hE1]; exact hD
          exact rw_vret (u := (q1, f1)) hx hb hr hlocks (by rw [← hE1]; exact hB1) (hP.sub [0, 1, 2] rfl) (hD.sub [0, 1, 2] (by decide) rfl) hS (by rw [← hE1]; exact Nat.le_refl _) (by rw [← hE1]; exact Nat.le_refl _) dX3_narrow_97
        · have hE2 : shf false [] k (x1 * 256, R1 * 256, s1 + 1) = nar false [] b pa t (x, R, sh) := by rw [← hE, shf_s, if_pos (by show R1 < 16777216; omega)]; rfl
          refine lv_aload_n hx hb dX3_narrow_65 rfl (lv_at hl 1 rfl) ?_
          have hup := shf_up false [] k (x1 * 256, R1 * 256, s1 + 1)
          rw [hE2] at hup
          dsimp only at hup
          have m1 := gN_mono hup
          have m2 := gN_mono (Nat.le_succ s1)
          have m3 := max_gN (g := gr) (Nat.le_succ s1)
          rw [Nat.succ_eq_add_one] at m2 m3
          refine rw_callv (wc := [(a, .inr (2, [.long (lN R1), .int (nI s1), .ref cb, .long (lN (x1 % 4294967296))])), (cb, .inr (0, [.int (nI 8000), .ref q1, .int (nI (dig s1 (x1 / 4294967296)).length)])), (q1, .inl (ca 0, gcap 8000 (max gr (gN s1)), .inl f1))]) (wr := []) hP hD hS hA [0, 1, 2] [] rfl rfl (by decide) (by decide) (va_runU (As := []) (rest := []) ⟨hx, hb, hml, hown, hts⟩ (c_W_shift l D ca a cb q1 (max gr (gN s1)) R1 s1 x1 s1 f1 (hB1) (hL1) (by omega) H.size) (va_cwA 0 hts gX3_narrow_X2_shiftOnce_u29X2 rfl rfl rfl (nw_shiftOnce hN) (by decide +kernel) ⟨Nat.le_of_ble_eq_true rfl, Nat.le_of_ble_eq_true rfl⟩) ⟨rwP_blind, va_recv hK hP (ci := 2) (q0 := 0) rfl rfl, rwP_at hK hN (hP.sub [0, 1, 2] rfl) (hD.sub [0, 1, 2] (by decide) rfl)⟩ rfl rfl hl.1 rfl (lv_room (Nat.le_of_ble_eq_true rfl)) dX3_narrow_66 ⟨by show _ + _ ≤ max gr (gN (nar false [] b pa t (x, R, sh)).2.2) - gr; omega, by show _ + _ ≤ 20000 * (max gr (gN (nar false [] b pa t (x, R, sh)).2.2) - gr); omega⟩) (fun u H locs hq hP hD hS => ?_)
          obtain ⟨q1_2, f1_3⟩ := u
          try dsimp only at hq
          have hP : va_P D vwCl [(a, .inr (2, [.long (lN R1), .int (nI s1), .ref cb, .long (lN ((x1 * 256) % 4294967296))])), (cb, .inr (0, [.int (nI 8000), .ref q1_2, .int (nI (dig (s1 + 1) ((x1 * 256) / 4294967296)).length)])), (q1_2, .inl (ca 0, gcap 8000 (max (max gr (gN s1)) (gN (s1 + 1))), .inl f1_3))] H := hP
          have hD : va_D A [(a, .inr (2, [.long (lN R1), .int (nI s1), .ref cb, .long (lN ((x1 * 256) % 4294967296))])), (cb, .inr (0, [.int (nI 8000), .ref q1_2, .int (nI (dig (s1 + 1) ((x1 * 256) / 4294967296)).length)])), (q1_2, .inl (ca 0, gcap 8000 (max (max gr (gN s1)) (gN (s1 + 1))), .inl f1_3))] := hD
          refine W.widen (k := max gr (gN (s1 + 1)) - gr) (n := 20000 * (max gr (gN (s1 + 1)) - gr)) (by omega) (by omega) ?_
          have hP : va_P D vwCl [(a, .inr (2, [.long (lN R1), .int (nI s1), .ref cb, .long (lN ((x1 * 256) % 4294967296))])), (cb, .inr (0, [.int (nI 8000), .ref q1_2, .int (nI (dig (s1 + 1) ((x1 * 256) / 4294967296)).length)])), (q1_2, .inl (ca 0, gcap 8000 (max gr (gN (s1 + 1))), .inl f1_3))] H := by rw [← m3]; exact hP
          have hD : va_D A [(a, .inr (2, [.long (lN R1), .int (nI s1), .ref cb, .long (lN ((x1 * 256) % 4294967296))])), (cb, .inr (0, [.int (nI 8000), .ref q1_2, .int (nI (dig (s1 + 1) ((x1 * 256) / 4294967296)).length)])), (q1_2, .inl (ca 0, gcap 8000 (max gr (gN (s1 + 1))), .inl f1_3))] := by rw [← m3]; exact hD
          refine lv_aload_n hx hb dX3_narrow_69 rfl (lv_at hl 1 rfl) ?_
          refine lv_dup hx hb dX3_narrow_70 rfl ?_
          refine va_get (D := D) (ci := 2) (v := .long (lN R1)) (C := RX2) (T := TX2) (N := 4) hx hb hts hin_X2 hown hK hP 0 rfl rfl 0 (by decide) hl_7 (fun _ h9 => h9) rfl dX3_narrow_71 ?_
          refine lv_ldc2 (v := lN 256) hx hb hown hw_477da2 dX3_narrow_74 ?_
          refine lv_lmul hx hb dX3_narrow_77 ?_
          refine tp_l (y := lN (R1 * 256)) (lN_mul R1 256) ?_
          refine va_put (D := D) (ci := 2) (v := .long (lN (R1 * 256))) (ty := .long) (C := RX2) (T := TX2) (N := 4) hx hb hts hin_X2 tyX2 tyX2_ok nmX2 hown hK hP hD hS 0 rfl rfl 0 (by decide) hl_7 (fun _ h9 => h9) rfl (by decide +kernel) rfl rfl (Nat.le_of_ble_eq_true rfl) dX3_narrow_78 (fun H locs hP hD hS => ?_)
          have hP : va_P D vwCl [(a, .inr (2, [.long (lN (R1 * 256)), .int (nI s1), .ref cb, .long (lN ((x1 * 256) % 4294967296))])), (cb, .inr (0, [.int (nI 8000), .ref q1_2, .int (nI (dig (s1 + 1) ((x1 * 256) / 4294967296)).length)])), (q1_2, .inl (ca 0, gcap 8000 (max gr (gN (s1 + 1))), .inl f1_3))] H := hP
          have hD : va_D A [(a, .inr (2, [.long (lN (R1 * 256)), .int (nI s1), .ref cb, .long (lN ((x1 * 256) % 4294967296))])), (cb, .inr (0, [.int (nI 8000), .ref q1_2, .int (nI (dig (s1 + 1) ((x1 * 256) / 4294967296)).length)])), (q1_2, .inl (ca 0, gcap 8000 (max gr (gN (s1 + 1))), .inl f1_3))] := hD
          refine lv_aload_n hx hb dX3_narrow_81 rfl (lv_at hl 1 rfl) ?_
          refine lv_dup hx hb dX3_narrow_82 rfl ?_
          refine va_get (D := D) (ci := 2) (v := .int (nI s1)) (C := RX2) (T := TX2) (N := 4) hx hb hts hin_X2 hown hK hP 0 rfl rfl 1 (by decide) hl_13 (fun _ h9 => h9) rfl dX3_narrow_83 ?_
          refine lv_iconst (v := nI 1) hx hb dX3_narrow_86 (by decide) ?_
          refine lv_iadd hx hb dX3_narrow_87 ?_
          refine tp_i (y := nI (s1 + 1)) (nI_1 _) ?_
          refine va_put (D := D) (ci := 2) (v := .int (nI (s1 + 1))) (ty := .int) (C := RX2) (T := TX2) (N := 4) hx hb hts hin_X2 tyX2 tyX2_ok nmX2 hown hK hP hD hS 0 rfl rfl 1 (by decide) hl_13 (fun _ h9 => h9) rfl (by decide +kernel) rfl rfl (Nat.le_of_ble_eq_true rfl) dX3_narrow_88 (fun H locs hP hD hS => ?_)
          have hP : va_P D vwCl [(a, .inr (2, [.long (lN (R1 * 256)), .int (nI (s1 + 1)), .ref cb, .long (lN ((x1 * 256) % 4294967296))])), (cb, .inr (0, [.int (nI 8000), .ref q1_2, .int (nI (dig (s1 + 1) ((x1 * 256) / 4294967296)).length)])), (q1_2, .inl (ca 0, gcap 8000 (max gr (gN (s1 + 1))), .inl f1_3))] H := hP
          have hD : va_D A [(a, .inr (2, [.long (lN (R1 * 256)), .int (nI (s1 + 1)), .ref cb, .long (lN ((x1 * 256) % 4294967296))])), (cb, .inr (0, [.int (nI 8000), .ref q1_2, .int (nI (dig (s1 + 1) ((x1 * 256) / 4294967296)).length)])), (q1_2, .inl (ca 0, gcap 8000 (max gr (gN (s1 + 1))), .inl f1_3))] := hD
          refine lv_iinc (v := nI (i + 1)) (lv' := [(6, .int (nI (i + 1))), (0, .ref a), (1, .int (nI b)), (2, .int (nI pa)), (3, .int (nI t)), (4, .long (lN (R / t)))]) hx hb dX3_narrow_91 hl (k := 0) rfl (nI_1 _) (by decide) rfl (fun ls hl => ?_)
          refine lv_goto (tgt := 48) hx hb dX3_narrow_94 (by decide) ?_
          exact ih (i + 1) (x1 * 256) (R1 * 256) (s1 + 1) q1_2 f1_3 (by omega) hq ((gN_cap (by omega)).mpr (by omega)) (by omega) (by omega) hE2 H locs hP hD hS _ (lv_sub hl [0, 1, 2, 3, 4, 5] rfl)
  refine lv_aload_n hx hb dX3_narrow_0 rfl (lv_at hl 0 rfl) ?_
  refine lv_iload_n hx hb dX3_narrow_1 rfl (lv_at hl 3 rfl) ?_
  refine vp_callSl (va_Run.run (va_runU (As := [.int (nI t)]) (rest := []) ⟨hx, hb, hml, hown, hts⟩ (c_W_unit l D ca R t a cb (nI sh) (lN (x % 4294967296)) (by omega) (by omega)) (va_cwU 1 hts gX3_narrow_X3_unitOf_u19X2 rfl rfl rfl rfl (by decide +kernel) ⟨Nat.le_of_ble_eq_true rfl, Nat.le_of_ble_eq_true rfl⟩) ⟨roP_blind, va_recv hK hP (ci := 2) (q0 := 0) rfl rfl, roP_at hK hN (hP.sub [0] rfl)⟩ rfl rfl hl.1 rfl (lv_room (Nat.le_of_ble_eq_true rfl)) dX3_narrow_2 ⟨Nat.zero_le _, Nat.zero_le _⟩)) (fun r_4 hq => ?_)
  subst hq
  refine lv_lstore (lv' := [(4, .long (lN (R / t))), (0, .ref a), (1, .int (nI b)), (2, .int (nI pa)), (3, .int (nI t))]) hx hb dX3_narrow_5 hl (by decide) rfl (fun ls hl => ?_)
  refine lv_aload_n hx hb dX3_narrow_7 rfl (lv_at hl 1 rfl) ?_
  refine lv_lload hx hb dX3_narrow_8 (lv_at hl 0 rfl) ?_
  refine lv_iload_n hx hb dX3_narrow_10 rfl (lv_at hl 2 rfl) ?_
  refine lv_i2l (v := lN b) hx hb dX3_narrow_11 (nI_l (by omega)) ?_
  refine lv_lmul hx hb dX3_narrow_12 ?_
  refine tp_l (y := lN (R / t * b)) (lN_mul _ _) ?_
  refine rw_callv (wc := [(a, .inr (2, [.long (lN R), .int (nI sh), .ref cb, .long (lN (x % 4294967296))])), (cb, .inr (0, [.int (nI 8000), .ref q, .int (nI (dig sh (x / 4294967296)).length)])), (q, .inl (ca 0, gcap 8000 gr, .inl f))]) (wr := []) hP hD hS hA [0, 1, 2] [] rfl rfl (by decide) (by decide) (va_runU (As := [.long (lN (R / t * b))]) (rest := []) ⟨hx, hb, hml, hown, hts⟩ (c_W_raise l D ca a cb q gr R sh x sh f (R / t * b) (hB) (hL) (by omega) s.heap.size) (va_cwA 1 hts gX3_narrow_X2_raiseLow_u23X2 rfl rfl rfl (nw_raiseLow hN) (by decide +kernel) ⟨Nat.le_of_ble_eq_true rfl, Nat.le_of_ble_eq_true rfl⟩) ⟨rwP_blind, va_recv hK hP (ci := 2) (q0 := 0) rfl rfl, rwP_at hK hN (hP.sub [0, 1, 2] rfl) (hD.sub [0, 1, 2] (by decide) rfl)⟩ rfl rfl hl.1 rfl (lv_room (Nat.le_of_ble_eq_true rfl)) dX3_narrow_13 ⟨Nat.zero_le _, Nat.zero_le _⟩) (fun u H locs hq hP hD hS => ?_)
  obtain ⟨f1_6, rfl⟩ : ∃ z, z = u := ⟨_, rfl⟩
  try dsimp only at hq
  have hP : va_P D vwCl [(a, .inr (2, [.long (lN R), .int (nI sh), .ref cb, .long (lN ((x + (R / t * b)) % 4294967296))])), (cb, .inr (0, [.int (nI 8000), .ref q, .int (nI (dig sh ((x + (R / t * b)) / 4294967296)).length)])), (q, .inl (ca 0, gcap 8000 gr, .inl f1_6))] H := hP
  have hD : va_D A [(a, .inr (2, [.long (lN R), .int (nI sh), .ref cb, .long (lN ((x + (R / t * b)) % 4294967296))])), (cb, .inr (0, [.int (nI 8000), .ref q, .int (nI (dig sh ((x + (R / t * b)) / 4294967296)).length)])), (q, .inl (ca 0, gcap 8000 gr, .inl f1_6))] := hD
  refine lv_aload_n hx hb dX3_narrow_16 rfl (lv_at hl 1 rfl) ?_
  refine lv_iload_n hx hb dX3_narrow_17 rfl (lv_at hl 2 rfl) ?_
  refine lv_iload_n hx hb dX3_narrow_18 rfl (lv_at hl 3 rfl) ?_
  refine lv_iadd hx hb dX3_narrow_19 ?_
  refine tp_i (y := nI (b + pa)) (nI_add b pa) ?_
  refine lv_iload_n hx hb dX3_narrow_20 rfl (lv_at hl 4 rfl) ?_
  refine bn_ne (tgt := 37) hx hb dX3_narrow_21 (by decide) (by omega) (by omega) (fun h1 => ?_) (fun h1 => ?_)
  · refine lv_lload hx hb dX3_narrow_37 (lv_at hl 0 rfl) ?_
    refine lv_iload_n hx hb dX3_narrow_39 rfl (lv_at hl 3 rfl) ?_
    refine lv_i2l (v := lN pa) hx hb dX3_narrow_40 (nI_l (by omega)) ?_
    refine lv_lmul hx hb dX3_narrow_41 ?_
    refine tp_l (y := lN (R / t * pa)) (lN_mul _ _) ?_
    refine va_put (D := D) (ci := 2) (v := .long (lN (R / t * pa))) (ty := .long) (C := RX2) (T := TX2) (N := 4) hx hb hts hin_X2 tyX2 tyX2_ok nmX2 hown hK hP hD hS 0 rfl rfl 0 (by decide) hl_7 (fun _ h9 => h9) rfl (by decide +kernel) rfl rfl (Nat.le_of_ble_eq_true rfl) dX3_narrow_42 (fun H locs hP hD hS => ?_)
    have hP : va_P D vwCl [(a, .inr (2, [.long (lN (R / t * pa)), .int (nI sh), .ref cb, .long (lN ((x + (R / t * b)) % 4294967296))])), (cb, .inr (0, [.int (nI 8000), .ref q, .int (nI (dig sh ((x + (R / t * b)) / 4294967296)).length)])), (q, .inl (ca 0, gcap 8000 gr, .inl f1_6))] H := hP
    have hD : va_D A [(a, .inr (2, [.long (lN (R / t * pa)), .int (nI sh), .ref cb, .long (lN ((x + (R / t * b)) % 4294967296))])), (cb, .inr (0, [.int (nI 8000), .ref q, .int (nI (dig sh ((x + (R / t * b)) / 4294967296)).length)])), (q, .inl (ca 0, gcap 8000 gr, .inl f1_6))] := hD
    refine lv_iconst (v := nI 0) hx hb dX3_narrow_45 (by decide) ?_
    refine lv_istore (lv' := [(6, .int (nI 0)), (4, .long (lN (R / t))), (0, .ref a), (1, .int (nI b)), (2, .int (nI pa)), (3, .int (nI t))]) hx hb dX3_narrow_46 hl (by decide) rfl (fun ls hl => ?_)
    have hE0 : shf false [] 4 (x + R / t * b, R / t * pa, sh) = nar false [] b pa t (x, R, sh) := by unfold nar; dsimp only; rw [if_neg h1]; rfl
    have e7 : max gr (gN sh) = gr := by have := (gN_cap (mo := 8000) (by omega)).mp hL; omega
    have hP : va_P D vwCl [(a, .inr (2, [.long (lN (R / t * pa)), .int (nI sh), .ref cb, .long (lN ((x + (R / t * b)) % 4294967296))])), (cb, .inr (0, [.int (nI 8000), .ref q, .int (nI (dig sh ((x + (R / t * b)) / 4294967296)).length)])), (q, .inl (ca 0, gcap 8000 (max gr (gN sh)), .inl f1_6))] H := by rw [e7]; exact hP
    have hD : va_D A [(a, .inr (2, [.long (lN (R / t * pa)), .int (nI sh), .ref cb, .long (lN ((x + (R / t * b)) % 4294967296))])), (cb, .inr (0, [.int (nI 8000), .ref q, .int (nI (dig sh ((x + (R / t * b)) / 4294967296)).length)])), (q, .inl (ca 0, gcap 8000 (max gr (gN sh)), .inl f1_6))] := by rw [e7]; exact hD
    refine W.widen (k := max gr (gN sh) - gr) (n := 20000 * (max gr (gN sh) - gr)) (by omega) (by omega) ?_
    exact hlo 4 0 (x + R / t * b) (R / t * pa) sh q f1_6 rfl hq (by rw [e7]; exact hL) (by omega) (Nat.lt_of_le_of_lt (Nat.le_trans (Nat.mul_le_mul_left _ (show pa ≤ t by omega)) (Nat.div_mul_le_self _ _)) hR) hE0 H locs hP hD hS _ (lv_sub hl [0, 2, 3, 4, 5, 1] rfl)
  · refine lv_aload_n hx hb dX3_narrow_24 rfl (lv_at hl 1 rfl) ?_
    refine va_get (D := D) (ci := 2) (v := .long (lN R)) (C := RX2) (T := TX2) (N := 4) hx hb hts hin_X2 hown hK hP 0 rfl rfl 0 (by decide) hl_7 (fun _ h9 => h9) rfl dX3_narrow_25 ?_
    refine lv_lload hx hb dX3_narrow_28 (lv_at hl 0 rfl) ?_
    refine lv_iload_n hx hb dX3_narrow_30 rfl (lv_at hl 2 rfl) ?_
    refine lv_i2l (v := lN b) hx hb dX3_narrow_31 (nI_l (by omega)) ?_
    refine lv_lmul hx hb dX3_narrow_32 ?_
    refine tp_l (y := lN (R / t * b)) (lN_mul _ _) ?_
    refine lv_lsub hx hb dX3_narrow_33 ?_
    refine tp_l (y := lN (R - R / t * b)) (lN_sub hub) ?_
    refine lv_goto (tgt := 42) hx hb dX3_narrow_34 (by decide) ?_
    refine va_put (D := D) (ci := 2) (v := .long (lN (R - R / t * b))) (ty := .long) (C := RX2) (T := TX2) (N := 4) hx hb hts hin_X2 tyX2 tyX2_ok nmX2 hown hK hP hD hS 0 rfl rfl 0 (by decide) hl_7 (fun _ h9 => h9) rfl (by decide +kernel) rfl rfl (Nat.le_of_ble_eq_true rfl) dX3_narrow_42 (fun H locs hP hD hS => ?_)
    have hP : va_P D vwCl [(a, .inr (2, [.long (lN (R - R / t * b)), .int (nI sh), .ref cb, .long (lN ((x + (R / t * b)) % 4294967296))])), (cb, .inr (0, [.int (nI 8000), .ref q, .int (nI (dig sh ((x + (R / t * b)) / 4294967296)).length)])), (q, .inl (ca 0, gcap 8000 gr, .inl f1_6))] H := hP
    have hD : va_D A [(a, .inr (2, [.long (lN (R - R / t * b)), .int (nI sh), .ref cb, .long (lN ((x + (R / t * b)) % 4294967296))])), (cb, .inr (0, [.int (nI 8000), .ref q, .int (nI (dig sh ((x + (R / t * b)) / 4294967296)).length)])), (q, .inl (ca 0, gcap 8000 gr, .inl f1_6))] := hD
    refine lv_iconst (v := nI 0) hx hb dX3_narrow_45 (by decide) ?_
    refine lv_istore (lv' := [(6, .int (nI 0)), (4, .long (lN (R / t))), (0, .ref a), (1, .int (nI b)), (2, .int (nI pa)), (3, .int (nI t))]) hx hb dX3_narrow_46 hl (by decide) rfl (fun ls hl => ?_)
    have hE0 : shf false [] 4 (x + R / t * b, R - R / t * b, sh) = nar false [] b pa t (x, R, sh) := by unfold nar; dsimp only; rw [if_pos h1]; rfl
    have e7 : max gr (gN sh) = gr := by have := (gN_cap (mo := 8000) (by omega)).mp hL; omega
    have hP : va_P D vwCl [(a, .inr (2, [.long (lN (R - R / t * b)), .int (nI sh), .ref cb, .long (lN ((x + (R / t * b)) % 4294967296))])), (cb, .inr (0, [.int (nI 8000), .ref q, .int (nI (dig sh ((x + (R / t * b)) / 4294967296)).length)])), (q, .inl (ca 0, gcap 8000 (max gr (gN sh)), .inl f1_6))] H := by rw [e7]; exact hP
    have hD : va_D A [(a, .inr (2, [.long (lN (R - R / t * b)), .int (nI sh), .ref cb, .long (lN ((x + (R / t * b)) % 4294967296))])), (cb, .inr (0, [.int (nI 8000), .ref q, .int (nI (dig sh ((x + (R / t * b)) / 4294967296)).length)])), (q, .inl (ca 0, gcap 8000 (max gr (gN sh)), .inl f1_6))] := by rw [e7]; exact hD
    refine W.widen (k := max gr (gN sh) - gr) (n := 20000 * (max gr (gN sh) - gr)) (by omega) (by omega) ?_
    exact hlo 4 0 (x + R / t * b) (R - R / t * b) sh q f1_6 rfl hq (by rw [e7]; exact hL) (by omega) (by omega) hE0 H locs hP hD hS _ (lv_sub hl [0, 2, 3, 4, 5, 1] rfl)

set_option maxHeartbeats 4000000 in
set_option maxRecDepth 100000 in
theorem c_R_narrow (l : Launch) (D : va_G) (ca : Nat → ClassId) (a : Nat) (cb : Nat) (q : Nat) (gr : Nat) (R : Nat) (sh : Nat) (x : Nat) (b : Nat) (pa : Nat) (t : Nat) (f : Nat → Int32) (Cd : List Nat) (hB : BR f Cd) (hL : Cd.length ≤ gcap 8000 gr) (hy : ∀ j, Cd.getD j 0 < 256) (hn : sh < 2 ^ 29) (hR : R < 4294967296) (ht : 1 ≤ t ∧ t < 2 ^ 30 ∧ b + pa ≤ t) (hbx : R / t * b ≤ x) (sz : Nat) : Met l yX3_narrow wsX3_narrow { frames := 2, cells := 0, slots := 0, locals := 41 } (rwP D vwCl (ATy ca) [(a, .inr (1, [.long (lN R), .int (nI sh), .ref cb, .long (lN x), .int (nI (4 + sh))])), (cb, .inr (0, [.int (nI 8000), .ref q, .int (nI Cd.length)])), (q, .inl (ca 0, gcap 8000 gr, .inl f))] sz [.ref a, .int (nI b), .int (nI pa), .int (nI t)]) (va_Qv (fun (u : Unit) => True) (bB D vwCl (fun (u : Unit) => [(a, .inr (1, [.long (lN ((nar true Cd b pa t (x, R, sh)).2.1)), .int (nI ((nar true Cd b pa t (x, R, sh)).2.2)), .ref cb, .long (lN ((nar true Cd b pa t (x, R, sh)).1)), .int (nI (4 + (nar true Cd b pa t (x, R, sh)).2.2))])), (cb, .inr (0, [.int (nI 8000), .ref q, .int (nI Cd.length)])), (q, .inl (ca 0, gcap 8000 gr, .inl f))]) (va_A [(a, .inr (1, [.long (lN R), .int (nI sh), .ref cb, .long (lN x), .int (nI (4 + sh))])), (cb, .inr (0, [.int (nI 8000), .ref q, .int (nI Cd.length)])), (q, .inl (ca 0, gcap 8000 gr, .inl f))] sz)) (va_A [(a, .inr (1, [.long (lN R), .int (nI sh), .ref cb, .long (lN x), .int (nI (4 + sh))])), (cb, .inr (0, [.int (nI 8000), .ref q, .int (nI Cd.length)])), (q, .inl (ca 0, gcap 8000 gr, .inl f))] sz)) 0 0 (va_A [(a, .inr (1, [.long (lN R), .int (nI sh), .ref cb, .long (lN x), .int (nI (4 + sh))])), (cb, .inr (0, [.int (nI 8000), .ref q, .int (nI Cd.length)])), (q, .inl (ca 0, gcap 8000 gr, .inl f))] sz) := by
  refine rw_enter (Q := fun A => va_Qv (fun (u : Unit) => True) (bB D vwCl (fun (u : Unit) => [(a, .inr (1, [.long (lN ((nar true Cd b pa t (x, R, sh)).2.1)), .int (nI ((nar true Cd b pa t (x, R, sh)).2.2)), .ref cb, .long (lN ((nar true Cd b pa t (x, R, sh)).1)), .int (nI (4 + (nar true Cd b pa t (x, R, sh)).2.2))])), (cb, .inr (0, [.int (nI 8000), .ref q, .int (nI Cd.length)])), (q, .inl (ca 0, gcap 8000 gr, .inl f))]) A) A) (by decide) rfl (Nat.le_of_ble_eq_true rfl) ?_
  intro p e s m below meth c ls A C hnm hK hN hP hD hA hl
  have hS : va_S A s.heap s.heap [] := va_S.rf
  obtain ⟨hx, hb, hr, hml, hown, hlocks, hts⟩ := C
  have hl : lv_has ls 7 [(0, .ref a), (1, .int (nI b)), (2, .int (nI pa)), (3, .int (nI t))] := hl
  have hin_X1 : ∀ w ∈ wsX10, w ∈ wsX3_narrow := by decide +kernel
  have hl_7 := hts (.fieldLink RX3 7 "EscapeCoder$Interval" "range" "J") (by decide +kernel)
  have hw_bea777 := hts (.constantLong RX3 27 (lN 16777216)) (by decide +kernel)
  have hw_477da2 := hts (.constantLong RX3 32 (lN 256)) (by decide +kernel)
  have hl_13 := hts (.fieldLink RX3 13 "EscapeCoder$Interval" "shifts" "I") (by decide +kernel)
  have hu : R / t ≤ R := Nat.div_le_self _ _
  have hub : R / t * b ≤ R := Nat.le_trans (Nat.mul_le_mul_left _ (show b ≤ t by omega)) (Nat.div_mul_le_self _ _)
  have hlo : ∀ (k : Nat) (i : Nat) (x1 : Nat) (R1 : Nat) (s1 : Nat), (i + k = 4) → (s1 + k < 2 ^ 29 + 8) → (R1 < 4294967296) → (shf true Cd k (x1, R1, s1) = nar true Cd b pa t (x, R, sh)) → ∀ (H : Heap) (locs : List Loc), va_P D vwCl [(a, .inr (1, [.long (lN R1), .int (nI s1), .ref cb, .long (lN x1), .int (nI (4 + s1))])), (cb, .inr (0, [.int (nI 8000), .ref q, .int (nI Cd.length)])), (q, .inl (ca 0, gcap 8000 gr, .inl f))] H → va_D A [(a, .inr (1, [.long (lN R1), .int (nI s1), .ref cb, .long (lN x1), .int (nI (4 + s1))])), (cb, .inr (0, [.int (nI 8000), .ref q, .int (nI Cd.length)])), (q, .inl (ca 0, gcap 8000 gr, .inl f))] → va_S A s.heap H locs → ∀ (ls : Array Slot), lv_has ls 7 [(6, .int (nI i)), (0, .ref a), (1, .int (nI b)), (2, .int (nI pa)), (3, .int (nI t)), (4, .long (lN (R / t)))] → W p l e ({ frames := 2, cells := 0, slots := 0, locals := 41 } : Room) s m ([.ref a, .int (nI b), .int (nI pa), .int (nI t)] : List Value).toArray below meth c H locs 0 0 (MQ below (va_Qv (fun (u : Unit) => True) (bB D vwCl (fun (u : Unit) => [(a, .inr (1, [.long (lN ((nar true Cd b pa t (x, R, sh)).2.1)), .int (nI ((nar true Cd b pa t (x, R, sh)).2.2)), .ref cb, .long (lN ((nar true Cd b pa t (x, R, sh)).1)), .int (nI (4 + (nar true Cd b pa t (x, R, sh)).2.2))])), (cb, .inr (0, [.int (nI 8000), .ref q, .int (nI Cd.length)])), (q, .inl (ca 0, gcap 8000 gr, .inl f))]) A) A) ([.ref a, .int (nI b), .int (nI pa), .int (nI t)] : List Value).toArray s 0 0 A) (F0 m 48 ls []) := by
    intro k
    induction k with
    | zero =>
      intro i x1 R1 s1 hi hn1 hR1 hE H locs hP hD hS ls hl
      refine lv_iload hx hb dX3_narrow_48 (lv_at hl 0 rfl) ?_
      refine lv_iconst (v := nI 4) hx hb dX3_narrow_50 (by decide) ?_
      refine bn_ge (tgt := 97) hx hb dX3_narrow_51 (by decide) (by omega) (by omega) (fun h1 => ?_) (fun h1 => ?_)
      · have hE1 : (x1, R1, s1) = nar true Cd b pa t (x, R, sh) := hE
        have hP : va_P D vwCl [(a, .inr (1, [.long (lN ((nar true Cd b pa t (x, R, sh)).2.1)), .int (nI ((nar true Cd b pa t (x, R, sh)).2.2)), .ref cb, .long (lN ((nar true Cd b pa t (x, R, sh)).1)), .int (nI (4 + (nar true Cd b pa t (x, R, sh)).2.2))])), (cb, .inr (0, [.int (nI 8000), .ref q, .int (nI Cd.length)])), (q, .inl (ca 0, gcap 8000 gr, .inl f))] H := by rw [← hE1]; exact hP
        have hD : va_D A [(a, .inr (1, [.long (lN ((nar true Cd b pa t (x, R, sh)).2.1)), .int (nI ((nar true Cd b pa t (x, R, sh)).2.2)), .ref cb, .long (lN ((nar true Cd b pa t (x, R, sh)).1)), .int (nI (4 + (nar true Cd b pa t (x, R, sh)).2.2))])), (cb, .inr (0, [.int (nI 8000), .ref q, .int (nI Cd.length)])), (q, .inl (ca 0, gcap 8000 gr, .inl f))] := by rw [← hE1]; exact hD
        exact rw_vret (u := ()) hx hb hr hlocks (trivial) (hP.sub [0, 1, 2] rfl) (hD.sub [0, 1, 2] (by decide) rfl) hS (Nat.le_refl _) (Nat.le_refl _) dX3_narrow_97
      · exact absurd h1 (by omega)
    | succ k ih =>
      intro i x1 R1 s1 hi hn1 hR1 hE H locs hP hD hS ls hl
      refine lv_iload hx hb dX3_narrow_48 (lv_at hl 0 rfl) ?_
      refine lv_iconst (v := nI 4) hx hb dX3_narrow_50 (by decide) ?_
      refine bn_ge (tgt := 97) hx hb dX3_narrow_51 (by decide) (by omega) (by omega) (fun h1 => ?_) (fun h1 => ?_)
      · exact absurd h1 (by omega)
      · refine lv_aload_n hx hb dX3_narrow_54 rfl (lv_at hl 1 rfl) ?_
        refine va_get (D := D) (ci := 1) (v := .long (lN R1)) (C := RX1) (T := TX1) (N := 5) hx hb hts hin_X1 hown hK hP 0 rfl rfl 0 (by decide) hl_7 (fun _ h9 => h9) rfl dX3_narrow_55 ?_
        refine lv_ldc2 (v := lN 16777216) hx hb hown hw_bea777 dX3_narrow_58 ?_
        refine W.lcmp hx hb dX3_narrow_61 ?_
        refine bl_ge (tgt := 97) hx hb dX3_narrow_62 (by decide) (by omega) (by omega) (fun h2 => ?_) (fun h2 => ?_)
        · have hE1 : (x1, R1, s1) = nar true Cd b pa t (x, R, sh) := by rw [← hE, shf_s, if_neg (by show ¬ R1 < 16777216; omega)]
          have hP : va_P D vwCl [(a, .inr (1, [.long (lN ((nar true Cd b pa t (x, R, sh)).2.1)), .int (nI ((nar true Cd b pa t (x, R, sh)).2.2)), .ref cb, .long (lN ((nar true Cd b pa t (x, R, sh)).1)), .int (nI (4 + (nar true Cd b pa t (x, R, sh)).2.2))])), (cb, .inr (0, [.int (nI 8000), .ref q, .int (nI Cd.length)])), (q, .inl (ca 0, gcap 8000 gr, .inl f))] H := by rw [← hE1]; exact hP
          have hD : va_D A [(a, .inr (1, [.long (lN ((nar true Cd b pa t (x, R, sh)).2.1)), .int (nI ((nar true Cd b pa t (x, R, sh)).2.2)), .ref cb, .long (lN ((nar true Cd b pa t (x, R, sh)).1)), .int (nI (4 + (nar true Cd b pa t (x, R, sh)).2.2))])), (cb, .inr (0, [.int (nI 8000), .ref q, .int (nI Cd.length)])), (q, .inl (ca 0, gcap 8000 gr, .inl f))] := by rw [← hE1]; exact hD
          exact rw_vret (u := ()) hx hb hr hlocks (trivial) (hP.sub [0, 1, 2] rfl) (hD.sub [0, 1, 2] (by decide) rfl) hS (Nat.le_refl _) (Nat.le_refl _) dX3_narrow_97
        · have hE2 : shf true Cd k (x1 * 256 + Cd.getD (4 + s1) 0, R1 * 256, s1 + 1) = nar true Cd b pa t (x, R, sh) := by rw [← hE, shf_s, if_pos (by show R1 < 16777216; omega)]; rfl
          refine lv_aload_n hx hb dX3_narrow_65 rfl (lv_at hl 1 rfl) ?_
          refine rw_callv (wc := [(a, .inr (1, [.long (lN R1), .int (nI s1), .ref cb, .long (lN x1), .int (nI (4 + s1))])), (cb, .inr (0, [.int (nI 8000), .ref q, .int (nI Cd.length)])), (q, .inl (ca 0, gcap 8000 gr, .inl f))]) (wr := []) hP hD hS hA [0, 1, 2] [] rfl rfl (by decide) (by decide) (va_runU (As := []) (rest := []) ⟨hx, hb, hml, hown, hts⟩ (c_R_shift l D ca a cb q gr (lN R1) (nI s1) x1 (4 + s1) f Cd (hB) (hL) (hy) (by omega) H.size) (va_cwA 0 hts gX3_narrow_X1_shiftOnce_u29X1 rfl rfl rfl (nw_shiftOnce hN) (by decide +kernel) ⟨Nat.le_of_ble_eq_true rfl, Nat.le_of_ble_eq_true rfl⟩) ⟨rwP_blind, va_recv hK hP (ci := 1) (q0 := 0) rfl rfl, rwP_at hK hN (hP.sub [0, 1, 2] rfl) (hD.sub [0, 1, 2] (by decide) rfl)⟩ rfl rfl hl.1 rfl (lv_room (Nat.le_of_ble_eq_true rfl)) dX3_narrow_66 ⟨Nat.le_of_ble_eq_true rfl, Nat.le_of_ble_eq_true rfl⟩) (fun u H locs hq hP hD hS => ?_)
          try dsimp only at hq
          have hP : va_P D vwCl [(a, .inr (1, [.long (lN R1), .int (nI s1), .ref cb, .long (lN (x1 * 256 + Cd.getD (4 + s1) 0)), .int (nI ((4 + s1) + 1))])), (cb, .inr (0, [.int (nI 8000), .ref q, .int (nI Cd.length)])), (q, .inl (ca 0, gcap 8000 gr, .inl f))] H := hP
          have hD : va_D A [(a, .inr (1, [.long (lN R1), .int (nI s1), .ref cb, .long (lN (x1 * 256 + Cd.getD (4 + s1) 0)), .int (nI ((4 + s1) + 1))])), (cb, .inr (0, [.int (nI 8000), .ref q, .int (nI Cd.length)])), (q, .inl (ca 0, gcap 8000 gr, .inl f))] := hD
          refine lv_aload_n hx hb dX3_narrow_69 rfl (lv_at hl 1 rfl) ?_
          refine lv_dup hx hb dX3_narrow_70 rfl ?_
          refine va_get (D := D) (ci := 1) (v := .long (lN R1)) (C := RX1) (T := TX1) (N := 5) hx hb hts hin_X1 hown hK hP 0 rfl rfl 0 (by decide) hl_7 (fun _ h9 => h9) rfl dX3_narrow_71 ?_
          refine lv_ldc2 (v := lN 256) hx hb hown hw_477da2 dX3_narrow_74 ?_
          refine lv_lmul hx hb dX3_narrow_77 ?_
          refine tp_l (y := lN (R1 * 256)) (lN_mul R1 256) ?_
          refine va_put (D := D) (ci := 1) (v := .long (lN (R1 * 256))) (ty := .long) (C := RX1) (T := TX1) (N := 5) hx hb hts hin_X1 tyX1 tyX1_ok nmX1 hown hK hP hD hS 0 rfl rfl 0 (by decide) hl_7 (fun _ h9 => h9) rfl (by decide +kernel) rfl rfl (Nat.le_of_ble_eq_true rfl) dX3_narrow_78 (fun H locs hP hD hS => ?_)
          have hP : va_P D vwCl [(a, .inr (1, [.long (lN (R1 * 256)), .int (nI s1), .ref cb, .long (lN (x1 * 256 + Cd.getD (4 + s1) 0)), .int (nI ((4 + s1) + 1))])), (cb, .inr (0, [.int (nI 8000), .ref q, .int (nI Cd.length)])), (q, .inl (ca 0, gcap 8000 gr, .inl f))] H := hP
          have hD : va_D A [(a, .inr (1, [.long (lN (R1 * 256)), .int (nI s1), .ref cb, .long (lN (x1 * 256 + Cd.getD (4 + s1) 0)), .int (nI ((4 + s1) + 1))])), (cb, .inr (0, [.int (nI 8000), .ref q, .int (nI Cd.length)])), (q, .inl (ca 0, gcap 8000 gr, .inl f))] := hD
          refine lv_aload_n hx hb dX3_narrow_81 rfl (lv_at hl 1 rfl) ?_
          refine lv_dup hx hb dX3_narrow_82 rfl ?_
          refine va_get (D := D) (ci := 1) (v := .int (nI s1)) (C := RX1) (T := TX1) (N := 5) hx hb hts hin_X1 hown hK hP 0 rfl rfl 1 (by decide) hl_13 (fun _ h9 => h9) rfl dX3_narrow_83 ?_
          refine lv_iconst (v := nI 1) hx hb dX3_narrow_86 (by decide) ?_
          refine lv_iadd hx hb dX3_narrow_87 ?_
          refine tp_i (y := nI (s1 + 1)) (nI_1 _) ?_
          refine va_put (D := D) (ci := 1) (v := .int (nI (s1 + 1))) (ty := .int) (C := RX1) (T := TX1) (N := 5) hx hb hts hin_X1 tyX1 tyX1_ok nmX1 hown hK hP hD hS 0 rfl rfl 1 (by decide) hl_13 (fun _ h9 => h9) rfl (by decide +kernel) rfl rfl (Nat.le_of_ble_eq_true rfl) dX3_narrow_88 (fun H locs hP hD hS => ?_)
          have hP : va_P D vwCl [(a, .inr (1, [.long (lN (R1 * 256)), .int (nI (s1 + 1)), .ref cb, .long (lN (x1 * 256 + Cd.getD (4 + s1) 0)), .int (nI ((4 + s1) + 1))])), (cb, .inr (0, [.int (nI 8000), .ref q, .int (nI Cd.length)])), (q, .inl (ca 0, gcap 8000 gr, .inl f))] H := hP
          have hD : va_D A [(a, .inr (1, [.long (lN (R1 * 256)), .int (nI (s1 + 1)), .ref cb, .long (lN (x1 * 256 + Cd.getD (4 + s1) 0)), .int (nI ((4 + s1) + 1))])), (cb, .inr (0, [.int (nI 8000), .ref q, .int (nI Cd.length)])), (q, .inl (ca 0, gcap 8000 gr, .inl f))] := hD
          refine lv_iinc (v := nI (i + 1)) (lv' := [(6, .int (nI (i + 1))), (0, .ref a), (1, .int (nI b)), (2, .int (nI pa)), (3, .int (nI t)), (4, .long (lN (R / t)))]) hx hb dX3_narrow_91 hl (k := 0) rfl (nI_1 _) (by decide) rfl (fun ls hl => ?_)
          refine lv_goto (tgt := 48) hx hb dX3_narrow_94 (by decide) ?_
          have hP : va_P D vwCl [(a, .inr (1, [.long (lN (R1 * 256)), .int (nI (s1 + 1)), .ref cb, .long (lN (x1 * 256 + Cd.getD (4 + s1) 0)), .int (nI (4 + (s1 + 1)))])), (cb, .inr (0, [.int (nI 8000), .ref q, .int (nI Cd.length)])), (q, .inl (ca 0, gcap 8000 gr, .inl f))] H := by rw [show 4 + (s1 + 1) = 4 + s1 + 1 from rfl]; exact hP
          have hD : va_D A [(a, .inr (1, [.long (lN (R1 * 256)), .int (nI (s1 + 1)), .ref cb, .long (lN (x1 * 256 + Cd.getD (4 + s1) 0)), .int (nI (4 + (s1 + 1)))])), (cb, .inr (0, [.int (nI 8000), .ref q, .int (nI Cd.length)])), (q, .inl (ca 0, gcap 8000 gr, .inl f))] := by rw [show 4 + (s1 + 1) = 4 + s1 + 1 from rfl]; exact hD
          exact ih (i + 1) (x1 * 256 + Cd.getD (4 + s1) 0) (R1 * 256) (s1 + 1) (by omega) (by omega) (by omega) hE2 H locs (hP.sub [0, 1, 2] rfl) (hD.sub [0, 1, 2] (by decide) rfl) hS _ (lv_sub hl [0, 1, 2, 3, 4, 5] rfl)
  refine lv_aload_n hx hb dX3_narrow_0 rfl (lv_at hl 0 rfl) ?_
  refine lv_iload_n hx hb dX3_narrow_1 rfl (lv_at hl 3 rfl) ?_
  refine vp_callSl (va_Run.run (va_runU (As := [.int (nI t)]) (rest := []) ⟨hx, hb, hml, hown, hts⟩ (c_R_unit l D ca R t a cb (nI sh) (nI (4 + sh)) (lN x) (by omega) (by omega)) (va_cwU 1 hts gX3_narrow_X3_unitOf_u19X1 rfl rfl rfl rfl (by decide +kernel) ⟨Nat.le_of_ble_eq_true rfl, Nat.le_of_ble_eq_true rfl⟩) ⟨roP_blind, va_recv hK hP (ci := 1) (q0 := 0) rfl rfl, roP_at hK hN (hP.sub [0] rfl)⟩ rfl rfl hl.1 rfl (lv_room (Nat.le_of_ble_eq_true rfl)) dX3_narrow_2 ⟨Nat.le_of_ble_eq_true rfl, Nat.le_of_ble_eq_true rfl⟩)) (fun r_2 hq => ?_)
  subst hq
  refine lv_lstore (lv' := [(4, .long (lN (R / t))), (0, .ref a), (1, .int (nI b)), (2, .int (nI pa)), (3, .int (nI t))]) hx hb dX3_narrow_5 hl (by decide) rfl (fun ls hl => ?_)
  refine lv_aload_n hx hb dX3_narrow_7 rfl (lv_at hl 1 rfl) ?_
  refine lv_lload hx hb dX3_narrow_8 (lv_at hl 0 rfl) ?_
  refine lv_iload_n hx hb dX3_narrow_10 rfl (lv_at hl 2 rfl) ?_
  refine lv_i2l (v := lN b) hx hb dX3_narrow_11 (nI_l (by omega)) ?_
  refine lv_lmul hx hb dX3_narrow_12 ?_
  refine tp_l (y := lN (R / t * b)) (lN_mul _ _) ?_
  refine rw_callv (wc := [(a, .inr (1, [.long (lN R), .int (nI sh), .ref cb, .long (lN x), .int (nI (4 + sh))]))]) (wr := [(cb, .inr (0, [.int (nI 8000), .ref q, .int (nI Cd.length)])), (q, .inl (ca 0, gcap 8000 gr, .inl f))]) hP hD hS hA [0] [1, 2] rfl rfl (by decide) (by decide) (va_runU (As := [.long (lN (R / t * b))]) (rest := []) ⟨hx, hb, hml, hown, hts⟩ (c_R_raise l D ca a cb (lN R) (nI sh) (nI (4 + sh)) x (R / t * b) (hbx) s.heap.size) (va_cwA 1 hts gX3_narrow_X1_raiseLow_u23X1 rfl rfl rfl (nw_raiseLow hN) (by decide +kernel) ⟨Nat.le_of_ble_eq_true rfl, Nat.le_of_ble_eq_true rfl⟩) ⟨rwP_blind, va_recv hK hP (ci := 1) (q0 := 0) rfl rfl, rwP_at hK hN (hP.sub [0] rfl) (hD.sub [0] (by decide) rfl)⟩ rfl rfl hl.1 rfl (lv_room (Nat.le_of_ble_eq_true rfl)) dX3_narrow_13 ⟨Nat.le_of_ble_eq_true rfl, Nat.le_of_ble_eq_true rfl⟩) (fun u H locs hq hP hD hS => ?_)
  try dsimp only at hq
  have hP : va_P D vwCl [(cb, .inr (0, [.int (nI 8000), .ref q, .int (nI Cd.length)])), (q, .inl (ca 0, gcap 8000 gr, .inl f)), (a, .inr (1, [.long (lN R), .int (nI sh), .ref cb, .long (lN (x - (R / t * b))), .int (nI (4 + sh))]))] H := hP
  have hD : va_D A [(cb, .inr (0, [.int (nI 8000), .ref q, .int (nI Cd.length)])), (q, .inl (ca 0, gcap 8000 gr, .inl f)), (a, .inr (1, [.long (lN R), .int (nI sh), .ref cb, .long (lN (x - (R / t * b))), .int (nI (4 + sh))]))] := hD
  refine lv_aload_n hx hb dX3_narrow_16 rfl (lv_at hl 1 rfl) ?_
  refine lv_iload_n hx hb dX3_narrow_17 rfl (lv_at hl 2 rfl) ?_
  refine lv_iload_n hx hb dX3_narrow_18 rfl (lv_at hl 3 rfl) ?_
  refine lv_iadd hx hb dX3_narrow_19 ?_
  refine tp_i (y := nI (b + pa)) (nI_add b pa) ?_
  refine lv_iload_n hx hb dX3_narrow_20 rfl (lv_at hl 4 rfl) ?_
  refine bn_ne (tgt := 37) hx hb dX3_narrow_21 (by decide) (by omega) (by omega) (fun h1 => ?_) (fun h1 => ?_)
  · refine lv_lload hx hb dX3_narrow_37 (lv_at hl 0 rfl) ?_
    refine lv_iload_n hx hb dX3_narrow_39 rfl (lv_at hl 3 rfl) ?_
    refine lv_i2l (v := lN pa) hx hb dX3_narrow_40 (nI_l (by omega)) ?_
    refine lv_lmul hx hb dX3_narrow_41 ?_
    refine tp_l (y := lN (R / t * pa)) (lN_mul _ _) ?_
    refine va_put (D := D) (ci := 1) (v := .long (lN (R / t * pa))) (ty := .long) (C := RX1) (T := TX1) (N := 5) hx hb hts hin_X1 tyX1 tyX1_ok nmX1 hown hK hP hD hS 2 rfl rfl 0 (by decide) hl_7 (fun _ h9 => h9) rfl (by decide +kernel) rfl rfl (Nat.le_of_ble_eq_true rfl) dX3_narrow_42 (fun H locs hP hD hS => ?_)
    have hP : va_P D vwCl [(cb, .inr (0, [.int (nI 8000), .ref q, .int (nI Cd.length)])), (q, .inl (ca 0, gcap 8000 gr, .inl f)), (a, .inr (1, [.long (lN (R / t * pa)), .int (nI sh), .ref cb, .long (lN (x - (R / t * b))), .int (nI (4 + sh))]))] H := hP
    have hD : va_D A [(cb, .inr (0, [.int (nI 8000), .ref q, .int (nI Cd.length)])), (q, .inl (ca 0, gcap 8000 gr, .inl f)), (a, .inr (1, [.long (lN (R / t * pa)), .int (nI sh), .ref cb, .long (lN (x - (R / t * b))), .int (nI (4 + sh))]))] := hD
    refine lv_iconst (v := nI 0) hx hb dX3_narrow_45 (by decide) ?_
    refine lv_istore (lv' := [(6, .int (nI 0)), (4, .long (lN (R / t))), (0, .ref a), (1, .int (nI b)), (2, .int (nI pa)), (3, .int (nI t))]) hx hb dX3_narrow_46 hl (by decide) rfl (fun ls hl => ?_)
    have hE0 : shf true Cd 4 (x - R / t * b, R / t * pa, sh) = nar true Cd b pa t (x, R, sh) := by unfold nar; dsimp only; rw [if_neg h1]; rfl
    exact hlo 4 0 (x - R / t * b) (R / t * pa) sh rfl (by omega) (Nat.lt_of_le_of_lt (Nat.le_trans (Nat.mul_le_mul_left _ (show pa ≤ t by omega)) (Nat.div_mul_le_self _ _)) hR) hE0 H locs (hP.sub [2, 0, 1] rfl) (hD.sub [2, 0, 1] (by decide) rfl) hS _ (lv_sub hl [0, 2, 3, 4, 5, 1] rfl)
  · refine lv_aload_n hx hb dX3_narrow_24 rfl (lv_at hl 1 rfl) ?_
    refine va_get (D := D) (ci := 1) (v := .long (lN R)) (C := RX1) (T := TX1) (N := 5) hx hb hts hin_X1 hown hK hP 2 rfl rfl 0 (by decide) hl_7 (fun _ h9 => h9) rfl dX3_narrow_25 ?_
    refine lv_lload hx hb dX3_narrow_28 (lv_at hl 0 rfl) ?_
    refine lv_iload_n hx hb dX3_narrow_30 rfl (lv_at hl 2 rfl) ?_
    refine lv_i2l (v := lN b) hx hb dX3_narrow_31 (nI_l (by omega)) ?_
    refine lv_lmul hx hb dX3_narrow_32 ?_
    refine tp_l (y := lN (R / t * b)) (lN_mul _ _) ?_
    refine lv_lsub hx hb dX3_narrow_33 ?_
    refine tp_l (y := lN (R - R / t * b)) (lN_sub hub) ?_
    refine lv_goto (tgt := 42) hx hb dX3_narrow_34 (by decide) ?_
    refine va_put (D := D) (ci := 1) (v := .long (lN (R - R / t * b))) (ty := .long) (C := RX1) (T := TX1) (N := 5) hx hb hts hin_X1 tyX1 tyX1_ok nmX1 hown hK hP hD hS 2 rfl rfl 0 (by decide) hl_7 (fun _ h9 => h9) rfl (by decide +kernel) rfl rfl (Nat.le_of_ble_eq_true rfl) dX3_narrow_42 (fun H locs hP hD hS => ?_)
    have hP : va_P D vwCl [(cb, .inr (0, [.int (nI 8000), .ref q, .int (nI Cd.length)])), (q, .inl (ca 0, gcap 8000 gr, .inl f)), (a, .inr (1, [.long (lN (R - R / t * b)), .int (nI sh), .ref cb, .long (lN (x - (R / t * b))), .int (nI (4 + sh))]))] H := hP
    have hD : va_D A [(cb, .inr (0, [.int (nI 8000), .ref q, .int (nI Cd.length)])), (q, .inl (ca 0, gcap 8000 gr, .inl f)), (a, .inr (1, [.long (lN (R - R / t * b)), .int (nI sh), .ref cb, .long (lN (x - (R / t * b))), .int (nI (4 + sh))]))] := hD
    refine lv_iconst (v := nI 0) hx hb dX3_narrow_45 (by decide) ?_
    refine lv_istore (lv' := [(6, .int (nI 0)), (4, .long (lN (R / t))), (0, .ref a), (1, .int (nI b)), (2, .int (nI pa)), (3, .int (nI t))]) hx hb dX3_narrow_46 hl (by decide) rfl (fun ls hl => ?_)
    have hE0 : shf true Cd 4 (x - R / t * b, R - R / t * b, sh) = nar true Cd b pa t (x, R, sh) := by unfold nar; dsimp only; rw [if_pos h1]; rfl
    exact hlo 4 0 (x - R / t * b) (R - R / t * b) sh rfl (by omega) (by omega) hE0 H locs (hP.sub [2, 0, 1] rfl) (hD.sub [2, 0, 1] (by decide) rfl) hS _ (lv_sub hl [0, 2, 3, 4, 5, 1] rfl)
end
