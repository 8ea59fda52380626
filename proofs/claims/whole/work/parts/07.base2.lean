/-- the array classes of a world: int, long, byte, short, boolean -/
abbrev ATy (ca : Nat → ClassId) : List (ClassId × FieldType) := [(ca 0, .int), (ca 1, .long), (ca 2, .byte), (ca 3, .short), (ca 4, .boolean)]
theorem nw_X2_3 {s : State} (h : NW s) : va_Nw (.methodLinkNest RX2 3 yX3_init RX7) s := h _ (List.mem_of_getElem? (i := 0) rfl)
theorem nw_X1_3 {s : State} (h : NW s) : va_Nw (.methodLinkNest RX1 3 yX3_init RX7) s := h _ (List.mem_of_getElem? (i := 1) rfl)
theorem nw_X0_22 {s : State} (h : NW s) : va_Nw (.methodLinkNest RX0 22 yX7_isByte RX7) s := h _ (List.mem_of_getElem? (i := 2) rfl)
theorem nw_X0_26 {s : State} (h : NW s) : va_Nw (.methodLinkNest RX0 26 yX7_grown RX7) s := h _ (List.mem_of_getElem? (i := 3) rfl)
theorem nw_X4_73 {s : State} (h : NW s) : va_Nw (.methodLinkNest RX4 73 yX7_keyOf RX7) s := h _ (List.mem_of_getElem? (i := 4) rfl)
theorem nw_X6_111 {s : State} (h : NW s) : va_Nw (.methodLinkNest RX6 111 yX7_isByte RX7) s := h _ (List.mem_of_getElem? (i := 5) rfl)
theorem nw_X5_22 {s : State} (h : NW s) : va_Nw (.methodLinkNest RX5 22 yX7_grown RX7) s := h _ (List.mem_of_getElem? (i := 6) rfl)
theorem nw_X4_139 {s : State} (h : NW s) : va_Nw (.methodLinkNest RX4 139 yX7_grown RX7) s := h _ (List.mem_of_getElem? (i := 7) rfl)
theorem nw_placeIn {s : State} (h : NW s) : va_Nw (.declares ⟨"EscapeCoder$Interval", "placeIn", "(II)I"⟩) s := h _ (List.mem_of_getElem? (i := 8) rfl)
theorem nw_raiseLow {s : State} (h : NW s) : va_Nw (.declares ⟨"EscapeCoder$Interval", "raiseLow", "(J)V"⟩) s := h _ (List.mem_of_getElem? (i := 9) rfl)
theorem nw_shiftOnce {s : State} (h : NW s) : va_Nw (.declares ⟨"EscapeCoder$Interval", "shiftOnce", "()V"⟩) s := h _ (List.mem_of_getElem? (i := 10) rfl)
section Longs
variable {p : Program} {l : Launch} {e : Env} {R : Room} {s : State} {m : MethodId} {args : Array Value} {below : List Frame} {meth : Method} {c : Code} {H : Heap} {locs : List Loc} {cells slots : Nat} {Q : State → Prop}
variable {cc : ByteArray} {pc : Nat} {ls : Array Slot} {rest : List Value}
theorem bl_eq (hx : p.tables.exec = Jvm.exec) (hcc : c.code = cc) {a b : Nat} {off : Int} {tgt : Nat} (hdg : decode cc pc = .ok (.ifCond .eq off, 3)) (ht : (pc : Int) + off = (tgt : Int)) (ha : a < 2 ^ 63) (hb : b < 2 ^ 63)
    (kt : a = b → W p l e R s m args below meth c H locs cells slots Q (F0 m tgt ls rest)) (kf : ¬ a = b → W p l e R s m args below meth c H locs cells slots Q (F0 m (pc + 3) ls rest)) : W p l e R s m args below meth c H locs cells slots Q (F0 m pc ls (.int (lg_cmp (lN a) (lN b)) :: rest)) :=
  lv_if_eq hx hcc hdg ht (fun c => kt ((pk_lEQ ha hb).mp ((lg_cmp_eq _ _).mp c))) (fun c => kf (fun q => c ((lg_cmp_eq _ _).mpr ((pk_lEQ ha hb).mpr q))))
theorem bl_ne (hx : p.tables.exec = Jvm.exec) (hcc : c.code = cc) {a b : Nat} {off : Int} {tgt : Nat} (hdg : decode cc pc = .ok (.ifCond .ne off, 3)) (ht : (pc : Int) + off = (tgt : Int)) (ha : a < 2 ^ 63) (hb : b < 2 ^ 63)
    (kt : ¬ a = b → W p l e R s m args below meth c H locs cells slots Q (F0 m tgt ls rest)) (kf : a = b → W p l e R s m args below meth c H locs cells slots Q (F0 m (pc + 3) ls rest)) : W p l e R s m args below meth c H locs cells slots Q (F0 m pc ls (.int (lg_cmp (lN a) (lN b)) :: rest)) :=
  lv_if_ne hx hcc hdg ht (fun c => kt (fun q => c ((lg_cmp_eq _ _).mpr ((pk_lEQ ha hb).mpr q)))) (fun c => kf ((pk_lEQ ha hb).mp ((lg_cmp_eq _ _).mp c)))
theorem bl_ge (hx : p.tables.exec = Jvm.exec) (hcc : c.code = cc) {a b : Nat} {off : Int} {tgt : Nat} (hdg : decode cc pc = .ok (.ifCond .ge off, 3)) (ht : (pc : Int) + off = (tgt : Int)) (ha : a < 2 ^ 63) (hb : b < 2 ^ 63)
    (kt : b ≤ a → W p l e R s m args below meth c H locs cells slots Q (F0 m tgt ls rest)) (kf : a < b → W p l e R s m args below meth c H locs cells slots Q (F0 m (pc + 3) ls rest)) : W p l e R s m args below meth c H locs cells slots Q (F0 m pc ls (.int (lg_cmp (lN a) (lN b)) :: rest)) :=
  lv_if_ge hx hcc hdg ht (fun c => kt ((pk_lLE hb ha).mp ((lg_cmp_ge _ _).mp c))) (fun c => kf (Nat.not_le.mp (fun q => c ((lg_cmp_ge _ _).mpr ((pk_lLE hb ha).mpr q)))))
theorem bl_lt (hx : p.tables.exec = Jvm.exec) (hcc : c.code = cc) {a b : Nat} {off : Int} {tgt : Nat} (hdg : decode cc pc = .ok (.ifCond .lt off, 3)) (ht : (pc : Int) + off = (tgt : Int)) (ha : a < 2 ^ 63) (hb : b < 2 ^ 63)
    (kt : a < b → W p l e R s m args below meth c H locs cells slots Q (F0 m tgt ls rest)) (kf : b ≤ a → W p l e R s m args below meth c H locs cells slots Q (F0 m (pc + 3) ls rest)) : W p l e R s m args below meth c H locs cells slots Q (F0 m pc ls (.int (lg_cmp (lN a) (lN b)) :: rest)) :=
  lv_if_lt hx hcc hdg ht (fun c => kt ((pk_lLT ha hb).mp ((lg_cmp_lt _ _).mp c))) (fun c => kf (Nat.not_lt.mp (fun q => c ((lg_cmp_lt _ _).mpr ((pk_lLT ha hb).mpr q)))))
theorem bl_gt (hx : p.tables.exec = Jvm.exec) (hcc : c.code = cc) {a b : Nat} {off : Int} {tgt : Nat} (hdg : decode cc pc = .ok (.ifCond .gt off, 3)) (ht : (pc : Int) + off = (tgt : Int)) (ha : a < 2 ^ 63) (hb : b < 2 ^ 63)
    (kt : b < a → W p l e R s m args below meth c H locs cells slots Q (F0 m tgt ls rest)) (kf : a ≤ b → W p l e R s m args below meth c H locs cells slots Q (F0 m (pc + 3) ls rest)) : W p l e R s m args below meth c H locs cells slots Q (F0 m pc ls (.int (lg_cmp (lN a) (lN b)) :: rest)) :=
  lv_if_gt hx hcc hdg ht (fun c => kt ((pk_lLT hb ha).mp ((lg_cmp_gt _ _).mp c))) (fun c => kf (Nat.not_lt.mp (fun q => c ((lg_cmp_gt _ _).mpr ((pk_lLT hb ha).mpr q)))))
theorem bl_le (hx : p.tables.exec = Jvm.exec) (hcc : c.code = cc) {a b : Nat} {off : Int} {tgt : Nat} (hdg : decode cc pc = .ok (.ifCond .le off, 3)) (ht : (pc : Int) + off = (tgt : Int)) (ha : a < 2 ^ 63) (hb : b < 2 ^ 63)
    (kt : a ≤ b → W p l e R s m args below meth c H locs cells slots Q (F0 m tgt ls rest)) (kf : b < a → W p l e R s m args below meth c H locs cells slots Q (F0 m (pc + 3) ls rest)) : W p l e R s m args below meth c H locs cells slots Q (F0 m pc ls (.int (lg_cmp (lN a) (lN b)) :: rest)) :=
  lv_if_le hx hcc hdg ht (fun c => kt ((pk_lLE ha hb).mp ((lg_cmp_le _ _).mp c))) (fun c => kf (Nat.not_le.mp (fun q => c ((lg_cmp_le _ _).mpr ((pk_lLE ha hb).mpr q)))))
end Longs
section News
variable {p : Program} {l : Launch} {e : Env} {R : Room} {s : State} {m : MethodId} {args : Array Value} {below : List Frame} {meth : Method} {c : Code} {H : Heap} {locs : List Loc} {cells slots : Nat} {Q : State → Prop}
variable {cc : ByteArray} {pc : Nat} {ls : Array Slot} {rest : List Value} {D : va_G} {cl : List vw_C} {A : Nat → Prop} {a : Nat} {tys : List (ClassId × FieldType)} {ws : va_W} {H0 : Heap} {S : Type} {w1 : S → va_W} {mc ms : Nat}
theorem rw_aret {post : S → Nat → Prop} {v : Nat} {rt : FieldType} (u : S) (hx : p.tables.exec = Jvm.exec) (hb : c.code = cc) (hr : meth.sig.returnType = some rt) (hrt : (∃ n, rt = .object n) ∨ ∃ t, rt = .array t) (hlocks : meth.locks = false) (hq : post u v) (hP : va_P D cl (w1 u) H) (hD : va_D A (w1 u)) (hS : va_S A s.heap H locs) (hc : cells ≤ mc) (hs : slots ≤ ms) (hdg : decode cc pc = .ok (.areturn, 1)) :
    W p l e R s m args below meth c H locs cells slots (MQ below (va_Qr (fun _ : S => True) (fun u r t => post u r ∧ bB D cl w1 A u t) A) args s mc ms A) (F0 m pc ls [.ref v]) :=
  W.widen hc hs (W.aret (v := .ref v) hx hb hr hrt (Or.inr ⟨_, rfl⟩) (fun t ht _ => ⟨⟨u, v, rfl, trivial, hq, by rw [ht]; exact hP, hD⟩, hS.F ht⟩) hS.2.2 hdg hlocks)
/-- a new array of numbers: its class is the known one -/
theorem na {atype : ArrayType} (hexec : p.tables.exec = Jvm.exec) (hb : c.code = cc) (harr : (Cond.arrayClass (newarray.typeOf atype)).before args s = true) {ty : FieldType} (hty : newarray.typeOf atype = ty) (hK : va_K D cl tys s) (hP : va_P D cl ws H) (hD : va_D A ws) (hS : va_S A H0 H locs) (hA : ∀ q, H0.size ≤ q → A q)
    {n : Int32} {N' : Nat} {a0 : vp_A} (ha : ∀ cA : ClassId, vp_cell cA a0 = arrV cA N' (fun _ => defaultValue ty)) (hn : ¬ n < 0) (hN : n.toNatClampNeg = N') (hbytes : N' * componentBytes ty ≤ 536870912) (hcells : cells + 1 ≤ R.cells) (hslots : slots + N' ≤ R.slots) (hdg : decode cc pc = .ok (.newarray atype, 2)) (k : Nat) {cB : ClassId} (hk : tys[k]? = some (cB, ty)) (hra : ∀ c, va_RA s c ty → s.vm.findClass ("[" ++ ty.toString) = some c)
    (kk : ∀ (q : Nat) (H1 : Heap), va_P D cl (ws ++ [(q, .inl (cB, a0))]) H1 → va_D A (ws ++ [(q, .inl (cB, a0))]) → va_S A H0 H1 locs →
      W p l e R s m args below meth c H1 locs (cells + 1) (slots + N') Q (F0 m (pc + 2) ls (.ref q :: rest))) : W p l e R s m args below meth c H locs cells slots Q (F0 m pc ls (.int n :: rest)) := by
  refine va_newa hexec hb harr hty hK hP hD hS hA ha hn hN hbytes hcells hslots hdg (fun q cA H1 hK1 hP1 hD1 hS1 => ?_)
  have h1 := hra _ (hK1.2 tys.length (cA, ty) (by simp)).2
  have h2 := hra _ (hK.2 k _ hk).2
  have e : cA = cB := Option.some.inj (h1.symm.trans h2)
  subst e
  exact kk q H1 hP1 hD1 hS1
theorem cp_i (hexec : p.tables.exec = Jvm.exec) (hb : c.code = cc) (hml : c.maxLocals = ls.size) {own : String} {index : Nat} (hown : s.vm.findClass own = some m.cls) (hlink : (Cond.methodLink own index arraycopyName).before args s = true) (hnat : (Cond.native arraycopyName).before args s = true) (hstat : (Cond.static arraycopyName).before args s = true) (hini : (Cond.initialized "java/lang/System").before args s = true)
    (hK : va_K D cl tys s) (hP : va_P D cl ws H) (hD : va_D A ws) (hS : va_S A H0 H locs) (q0 q1 t0 t1 : Nat) {a0 : Nat} {c0 c1 : ClassId} {n0 n1 : Nat} {f g : Nat → Int32} (ha0 : ws[q0]? = some (a0, .inl (c0, n0, .inl f))) (ha1 : ws[q1]? = some (a, .inl (c1, n1, .inl g))) (ht0 : tys[t0]? = some (c0, .int)) (ht1 : tys[t1]? = some (c1, .int))
    {k : Nat} (hk : k < 2 ^ 31) (h4 : k ≤ n0) (h5 : k ≤ n1) (hframes : 1 ≤ R.frames) (hlocals : (rest.map fun v => v.category).sum + (nativeFrameWords "java/lang/System" "arraycopy" 5 + 11) ≤ R.locals) (hdg : decode cc pc = .ok (.invokestatic index, 3))
    (kk : ∀ (H1 : Heap) (locs1 : List Loc), va_P D cl (ws.set q1 (a, .inl (c1, n1, .inl (va_cpy f g 0 0 k)))) H1 → va_D A (ws.set q1 (a, .inl (c1, n1, .inl (va_cpy f g 0 0 k)))) → va_S A H0 H1 locs1 → W p l e R s m args below meth c H1 locs1 cells slots Q (F0 m (pc + 3) ls rest)) : W p l e R s m args below meth c H locs cells slots Q (F0 m pc ls (.int (nI k) :: .int (nI 0) :: .ref a :: .int (nI 0) :: .ref a0 :: rest)) := by
  have e0 : (nI 0).toNatClampNeg = 0 := nI_clamp (by decide)
  refine va_copyi hexec hb hml hown hlink hnat hstat hini hK hP hD hS q0 q1 t0 t1 ha0 ha1 ht0 ht1 rfl (nI_pos (by decide)) (nI_pos (by decide)) (nI_pos hk) (by rw [e0, nI_clamp hk]; omega) (by rw [e0, nI_clamp hk]; omega) (fun _ _ => rfl) hframes hlocals hdg ?_
  rw [e0, nI_clamp hk]
  exact kk
theorem cp_l (hexec : p.tables.exec = Jvm.exec) (hb : c.code = cc) (hml : c.maxLocals = ls.size) {own : String} {index : Nat} (hown : s.vm.findClass own = some m.cls) (hlink : (Cond.methodLink own index arraycopyName).before args s = true) (hnat : (Cond.native arraycopyName).before args s = true) (hstat : (Cond.static arraycopyName).before args s = true) (hini : (Cond.initialized "java/lang/System").before args s = true)
    (hK : va_K D cl tys s) (hP : va_P D cl ws H) (hD : va_D A ws) (hS : va_S A H0 H locs) (q0 q1 t0 t1 : Nat) {a0 : Nat} {c0 c1 : ClassId} {n0 n1 : Nat} {f g : Nat → Int64} (ha0 : ws[q0]? = some (a0, .inl (c0, n0, .inr (.inl f)))) (ha1 : ws[q1]? = some (a, .inl (c1, n1, .inr (.inl g)))) (ht0 : tys[t0]? = some (c0, .long)) (ht1 : tys[t1]? = some (c1, .long))
    {k : Nat} (hk : k < 2 ^ 31) (h4 : k ≤ n0) (h5 : k ≤ n1) (hframes : 1 ≤ R.frames) (hlocals : (rest.map fun v => v.category).sum + (nativeFrameWords "java/lang/System" "arraycopy" 5 + 11) ≤ R.locals) (hdg : decode cc pc = .ok (.invokestatic index, 3))
    (kk : ∀ (H1 : Heap) (locs1 : List Loc), va_P D cl (ws.set q1 (a, .inl (c1, n1, .inr (.inl (va_cpy f g 0 0 k))))) H1 → va_D A (ws.set q1 (a, .inl (c1, n1, .inr (.inl (va_cpy f g 0 0 k))))) → va_S A H0 H1 locs1 → W p l e R s m args below meth c H1 locs1 cells slots Q (F0 m (pc + 3) ls rest)) : W p l e R s m args below meth c H locs cells slots Q (F0 m pc ls (.int (nI k) :: .int (nI 0) :: .ref a :: .int (nI 0) :: .ref a0 :: rest)) := by
  have e0 : (nI 0).toNatClampNeg = 0 := nI_clamp (by decide)
  refine va_copyl hexec hb hml hown hlink hnat hstat hini hK hP hD hS q0 q1 t0 t1 ha0 ha1 ht0 ht1 rfl (nI_pos (by decide)) (nI_pos (by decide)) (nI_pos hk) (by rw [e0, nI_clamp hk]; omega) (by rw [e0, nI_clamp hk]; omega) (fun _ _ => rfl) hframes hlocals hdg ?_
  rw [e0, nI_clamp hk]
  exact kk
/-- Math.min and Math.max of two small numbers -/
theorem mn (hexec : p.tables.exec = Jvm.exec) (hb : c.code = cc) (hml : c.maxLocals = ls.size) {own : String} {index : Nat} (hown : s.vm.findClass own = some m.cls) (hlink : (Cond.methodLink own index Lib.Math.min.name).before args s = true) (hstat : (Cond.static Lib.Math.min.name).before args s = true) (hini : (Cond.initialized "java/lang/Math").before args s = true) (hcode : (Cond.code Lib.Math.min.name Lib.Math.min.code 2 (some .int)).before args s = true)
    (hframes : 1 ≤ R.frames) (hlocals : (rest.map fun v => v.category).sum + 13 ≤ R.locals) (hc : cells ≤ R.cells) (hs : slots ≤ R.slots) {x y : Nat} (hxx : x < 2 ^ 31) (hyy : y < 2 ^ 31) (hdg : decode cc pc = .ok (.invokestatic index, 3))
    (kk : W p l e R s m args below meth c H locs cells slots Q (F0 m (pc + 3) ls (.int (nI (min x y)) :: rest))) : W p l e R s m args below meth c H locs cells slots Q (F0 m pc ls (.int (nI y) :: .int (nI x) :: rest)) := by
  refine va_mmin hexec hb hml hown hlink hstat hini hcode hframes hlocals hc hs hdg ?_
  have e : (if nI y < nI x then nI y else nI x) = nI (min x y) := by
    by_cases h : y < x
    · rw [if_pos ((nI_ltI hyy hxx).mpr h), Nat.min_eq_right (Nat.le_of_lt h)]
    · rw [if_neg (fun q => h ((nI_ltI hyy hxx).mp q)), Nat.min_eq_left (by omega)]
  rw [e]
  exact kk
theorem mx (hexec : p.tables.exec = Jvm.exec) (hb : c.code = cc) (hml : c.maxLocals = ls.size) {own : String} {index : Nat} (hown : s.vm.findClass own = some m.cls) (hlink : (Cond.methodLink own index Lib.Math.max.name).before args s = true) (hstat : (Cond.static Lib.Math.max.name).before args s = true) (hini : (Cond.initialized "java/lang/Math").before args s = true) (hcode : (Cond.code Lib.Math.max.name Lib.Math.max.code 2 (some .int)).before args s = true)
    (hframes : 1 ≤ R.frames) (hlocals : (rest.map fun v => v.category).sum + 13 ≤ R.locals) (hc : cells ≤ R.cells) (hs : slots ≤ R.slots) {x y z : Int32} (hz : (if x < y then y else x) = z) (hdg : decode cc pc = .ok (.invokestatic index, 3))
    (kk : W p l e R s m args below meth c H locs cells slots Q (F0 m (pc + 3) ls (.int z :: rest))) : W p l e R s m args below meth c H locs cells slots Q (F0 m pc ls (.int y :: .int x :: rest)) := by
  refine va_mmax hexec hb hml hown hlink hstat hini hcode hframes hlocals hc hs hdg ?_
  rw [hz]
  exact kk
end News
theorem isB_neg {b : Int32} (h : b < 0) : isB b = false := by
  rw [Int32.lt_iff_toInt_lt, Int32.toInt_zero] at h
  simp only [isB, decide_eq_false_iff_not]
  omega
theorem isB_big {b : Int32} (h : nI 256 ≤ b) : isB b = false := by
  rw [Int32.le_iff_toInt_le, nI_toInt (by decide)] at h
  simp only [isB, decide_eq_false_iff_not]
  omega
theorem isB_ok {b : Int32} (h1 : ¬ b < 0) (h2 : ¬ nI 256 ≤ b) : isB b = true := by
  rw [Int32.lt_iff_toInt_lt, Int32.toInt_zero] at h1
  rw [Int32.le_iff_toInt_le, nI_toInt (by decide)] at h2
  simp only [isB, decide_eq_true_eq]
  omega
/-- a byte is a small number -/
theorem isB_nI {b : Int32} (h : isB b = true) : ∃ n : Nat, n < 256 ∧ b = nI n := by
  simp only [isB, decide_eq_true_eq] at h
  obtain ⟨j, hj, e⟩ := nI_of (x := b) (by rw [Int32.lt_iff_toInt_lt, Int32.toInt_zero]; omega)
  refine ⟨j, ?_, e⟩
  rw [e, nI_toInt hj] at h
  omega
theorem isB_of {n : Nat} (h : n < 256) : isB (nI n) = true := by
  simp only [isB, decide_eq_true_eq]
  rw [nI_toInt (by omega)]
  omega
/-! rows of bytes -/
def addOk (mo : Nat) (L : List Nat) (b : Int32) : Bool := isB b && decide (L.length < mo)
def addL (mo : Nat) (L : List Nat) (b : Int32) : List Nat := if addOk mo L b = true then L ++ [b.toNatClampNeg] else L
/-- growths behind it -/
def grA (mo gr : Nat) (L : List Nat) (b : Int32) : Nat := if addOk mo L b = true then max gr (gN (L.length + 1)) else gr
def inL (L : List Nat) (i : Int32) : Bool := decide (0 ≤ i.toInt ∧ i.toInt < L.length)
def atI (L : List Nat) (i : Int32) : Int32 := if inL L i = true then nI (L.getD i.toNatClampNeg 0) else -1
def putOk (L : List Nat) (i b : Int32) : Bool := isB b && inL L i
def putL (L : List Nat) (i b : Int32) : List Nat := if putOk L i b = true then L.set i.toNatClampNeg b.toNatClampNeg else L
def cutOk (L : List Nat) (n : Int32) : Bool := decide (0 ≤ n.toInt ∧ n.toInt ≤ L.length)
def cutL (L : List Nat) (n : Int32) : List Nat := if cutOk L n = true then L.take n.toNatClampNeg else L
theorem putL_len (L : List Nat) (i b : Int32) : (putL L i b).length = L.length := by
  unfold putL
  split <;> simp
theorem inL_neg {L : List Nat} {i : Int32} (h : i < 0) : inL L i = false := by
  rw [Int32.lt_iff_toInt_lt, Int32.toInt_zero] at h
  simp only [inL, decide_eq_false_iff_not]
  omega
theorem inL_nI {L : List Nat} {j : Nat} (hj : j < 2 ^ 31) : inL L (nI j) = decide (j < L.length) := by
  simp only [inL, nI_toInt hj]
  congr 1
  apply propext
  omega
theorem cutOk_neg {L : List Nat} {i : Int32} (h : i < 0) : cutOk L i = false := by
  rw [Int32.lt_iff_toInt_lt, Int32.toInt_zero] at h
  simp only [cutOk, decide_eq_false_iff_not]
  omega
theorem cutOk_nI {L : List Nat} {j : Nat} (hj : j < 2 ^ 31) : cutOk L (nI j) = decide (j ≤ L.length) := by
  simp only [cutOk, nI_toInt hj]
  congr 1
  apply propext
  omega
theorem gcap_le (mo g : Nat) : gcap mo g ≤ mo := Nat.min_le_left _ _
theorem gcap_succ {mo g n : Nat} (h1 : n ≤ gcap mo g) (h2 : gcap mo g ≤ n) (h3 : n < mo) : min mo (2 * n) = gcap mo (g + 1) := by
  unfold gcap at *
  rw [Nat.pow_succ]
  omega
theorem gcap_ne {mo g : Nat} (h0 : 64 ≤ mo) (h3 : gcap mo g < mo) : ¬ gcap mo (g + 1) = gcap mo g := by
  unfold gcap at *
  rw [Nat.pow_succ]
  have : 1 ≤ 2 ^ g := Nat.one_le_two_pow
  omega
theorem gcap_up {mo g n : Nat} (h1 : n ≤ gcap mo g) (h2 : gcap mo g ≤ n) (h3 : n < mo) : n + 1 ≤ gcap mo (g + 1) := by
  unfold gcap at *
  rw [Nat.pow_succ]
  have : 1 ≤ 2 ^ g := Nat.one_le_two_pow
  omega
theorem addOk_y {mo : Nat} {L : List Nat} {b : Int32} (h : isB b = true) (h2 : L.length < mo) : addOk mo L b = true := by
  unfold addOk
  rw [h]
  simp [h2]
theorem addOk_b {mo : Nat} {L : List Nat} {b : Int32} (h : isB b = false) : addOk mo L b = false := by
  unfold addOk
  rw [h]
  rfl
theorem addOk_n {mo : Nat} {L : List Nat} {b : Int32} (h2 : mo ≤ L.length) : addOk mo L b = false := by
  unfold addOk
  rw [show decide (L.length < mo) = false by simp; omega]
  simp
theorem grA_y {mo gr : Nat} {L : List Nat} {b : Int32} (h : isB b = true) (h1 : L.length ≤ gcap mo gr) (h2 : L.length < mo) (h3 : gcap mo gr ≤ L.length) : grA mo gr L b = gr + 1 := by
  unfold grA
  rw [if_pos (addOk_y h h2), gN_y h1 h3 h2]
theorem grA_n {mo gr : Nat} {L : List Nat} {b : Int32} (h2 : L.length < mo) (h3 : L.length < gcap mo gr) : grA mo gr L b = gr := by
  unfold grA
  rw [gN_n h3 h2]
  split <;> rfl
theorem grA_f {mo gr : Nat} {L : List Nat} {b : Int32} (h : addOk mo L b = false) : grA mo gr L b = gr := by
  unfold grA
  rw [h, if_neg (by decide)]
theorem BR_app {f : Nat → Int32} {L : List Nat} {b : Int32} {n : Nat} (h : BR f L) (hb : isB b = true) (hn : n = L.length) : BR (upd f n b) (L ++ [b.toNatClampNeg]) := by
  subst hn
  obtain ⟨v, hv, rfl⟩ := isB_nI hb
  intro j hj
  rw [nI_clamp (by omega)]
  simp only [List.length_append, List.length_singleton] at hj
  by_cases e : j = L.length
  · subst e
    simp [upd, List.getD]
  · rw [show upd f L.length (nI v) j = f j by simp [upd, e], h j (by omega)]
    simp [List.getD, List.getElem?_append_left (show j < L.length by omega)]
theorem BR_cpy {f g : Nat → Int32} {L : List Nat} {k : Nat} (h : BR f L) (hk : L.length ≤ k) : BR (va_cpy f g 0 0 k) L := by
  intro j hj
  rw [pk_cpy_in (by omega) (by omega), ← h j hj]
  simp
theorem BR_set {f : Nat → Int32} {L : List Nat} {j v : Nat} (h : BR f L) (hj : j < L.length) : BR (upd f j (nI v)) (L.set j v) := by
  intro i hi
  rw [List.length_set] at hi
  by_cases e : i = j
  · subst e
    simp [upd, List.getD, hj]
  · rw [show upd f j (nI v) i = f i by simp [upd, e], h i hi]
    simp [List.getD, List.getElem?_set_ne (Ne.symm e)]
theorem BR_take {f : Nat → Int32} {L : List Nat} {n : Nat} (h : BR f L) : BR f (L.take n) := by
  intro i hi
  rw [List.length_take] at hi
  rw [h i (by omega)]
  simp [List.getD, List.getElem?_take, show i < n by omega]
theorem cutL_len {L : List Nat} {n : Nat} (h : n ≤ L.length) (hn : n < 2 ^ 31) : (cutL L (nI n)).length = n := by
  unfold cutL
  rw [cutOk_nI hn, if_pos (by simp [h]), nI_clamp hn, List.length_take]
  omega
