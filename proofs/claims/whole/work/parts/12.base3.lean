section MinL
variable {p : Program} {l : Launch} {e : Env} {R : Room} {s : State} {m : MethodId} {args : Array Value} {below : List Frame} {meth : Method} {c : Code} {H : Heap} {locs : List Loc} {cells slots : Nat} {Q : State → Prop}
variable {cc : ByteArray} {pc : Nat} {ls : Array Slot} {rest : List Value}
theorem mnl (hexec : p.tables.exec = Jvm.exec) (hb : c.code = cc) (hml : c.maxLocals = ls.size) {own : String} {index : Nat} (hown : s.vm.findClass own = some m.cls) (hlink : (Cond.methodLink own index Lib.MathLoose.min_long.x).before args s = true) (hstat : (Cond.static Lib.MathLoose.min_long.x).before args s = true) (hini : (Cond.initialized "java/lang/Math").before args s = true) (hcode : (Cond.code Lib.MathLoose.min_long.x Lib.MathLoose.min_long.code 4 (some .long)).before args s = true)
    (hframes : 1 ≤ R.frames) (hlocals : (rest.map fun v => v.category).sum + 15 ≤ R.locals) (hc : cells ≤ R.cells) (hs : slots ≤ R.slots) {x y : Nat} (hxx : x < 2 ^ 63) (hyy : y < 2 ^ 63) (hdg : decode cc pc = .ok (.invokestatic index, 3))
    (kk : W p l e R s m args below meth c H locs cells slots Q (F0 m (pc + 3) ls (.long (lN (min x y)) :: rest))) : W p l e R s m args below meth c H locs cells slots Q (F0 m pc ls (.long (lN y) :: .long (lN x) :: rest)) := by
  refine va_mmin_long hexec hb hml hown hlink hstat hini hcode hframes hlocals hc hs hdg ?_
  have e : (if lN y < lN x then lN y else lN x) = lN (min x y) := by
    by_cases h : y < x
    · rw [if_pos ((pk_lLT hyy hxx).mpr h), Nat.min_eq_right (Nat.le_of_lt h)]
    · rw [if_neg (fun q => h ((pk_lLT hyy hxx).mp q)), Nat.min_eq_left (by omega)]
  rw [e]
  exact kk
end MinL
theorem shr16 {n : Nat} (h : n < 2 ^ 64) : ((lN n).toUInt64 >>> ((nI 16).toInt64.toUInt64 &&& Int64.toUInt64 63)).toInt64 = lN (n / 65536) := by rw [wb_shr h (by decide), show (2 : Nat) ^ 16 = 65536 by decide]
theorem shr8 {n : Nat} (h : n < 2 ^ 64) : ((lN n).toUInt64 >>> ((nI 8).toInt64.toUInt64 &&& Int64.toUInt64 63)).toInt64 = lN (n / 256) := by rw [wb_shr h (by decide), show (2 : Nat) ^ 8 = 256 by decide]
theorem shr0 {n : Nat} (h : n < 2 ^ 64) : ((lN n).toUInt64 >>> ((nI 0).toInt64.toUInt64 &&& Int64.toUInt64 63)).toInt64 = lN n := by rw [wb_shr h (by decide), show (2 : Nat) ^ 0 = 1 by decide, Nat.div_one]
theorem m32 {n : Nat} (h : n < 2 ^ 64) : lN n &&& lN 4294967295 = lN (n % 4294967296) := g_mask (s := 32) (p := 4294967296) (by decide) (by decide) h
theorem m8 {n : Nat} (h : n < 2 ^ 64) : lN n &&& lN 255 = lN (n % 256) := g_mask (s := 8) (p := 256) (by decide) (by decide) h
theorem lN_ne0 {t : Nat} (h : 1 ≤ t) (h2 : t < 2 ^ 63) : ¬ lN t = 0 := fun q => absurd ((pk_lEQ (a := t) (b := 0) h2 (by decide)).mp q) (by omega)
theorem pred_s (k : Nat) : nI (k + 1) - nI 1 = nI k := by rw [pk_sub (by omega)]; rfl
theorem pred_0 : nI 0 - nI 1 < 0 := by decide
theorem gN_mono {a b : Nat} (h : a ≤ b) : gN a ≤ gN b := (gN_iff a (gN b)).mp (Nat.le_trans h ((gN_iff b (gN b)).mpr (Nat.le_refl _)))
theorem max_gN {g a b : Nat} (h : a ≤ b) : max (max g (gN a)) (gN b) = max g (gN b) := by
  have := gN_mono h
  omega
theorem shf_up (rd : Bool) (C : List Nat) (n : Nat) (v : Iv) : v.2.2 ≤ (shf rd C n v).2.2 := by
  induction n generalizing v with
  | zero => exact Nat.le_refl _
  | succ n ih =>
    unfold shf
    split
    · have := ih (if rd = true then v.1 * 256 + C.getD (4 + v.2.2) 0 else v.1 * 256, v.2.1 * 256, v.2.2 + 1)
      dsimp only at this
      omega
    · exact Nat.le_refl _
theorem shf_up2 (rd : Bool) (C : List Nat) (n : Nat) (v : Iv) : (shf rd C n v).2.2 ≤ v.2.2 + n := by
  induction n generalizing v with
  | zero => exact Nat.le_refl _
  | succ n ih =>
    unfold shf
    split
    · have := ih (if rd = true then v.1 * 256 + C.getD (4 + v.2.2) 0 else v.1 * 256, v.2.1 * 256, v.2.2 + 1)
      dsimp only at this
      omega
    · omega
theorem addL_y {mo : Nat} {L : List Nat} {d : Nat} (h : d < 256) (h2 : L.length < mo) : addL mo L (nI d) = L ++ [d] := by
  unfold addL
  rw [if_pos (addOk_y (isB_of h) h2), nI_clamp (by omega)]
theorem grA_z {mo gr : Nat} {L : List Nat} {d : Nat} (h : d < 256) (h2 : L.length < mo) : grA mo gr L (nI d) = max gr (gN (L.length + 1)) := by
  unfold grA
  rw [if_pos (addOk_y (isB_of h) h2)]
/-- a shift of LOW -/
theorem dig_sh (n x : Nat) : dig (n + 1) (x * 256 / 4294967296) = dig n (x / 4294967296) ++ [x % 4294967296 / 16777216] := by
  have e1 : x * 256 / 4294967296 / 256 = x / 4294967296 := by omega
  have e2 : x * 256 / 4294967296 % 256 = x % 4294967296 / 16777216 := by omega
  show dig n (x * 256 / 4294967296 / 256) ++ [x * 256 / 4294967296 % 256] = _
  rw [e1, e2]
theorem dig_4 (n x : Nat) : dig (n + 4) x = dig n (x / 4294967296) ++ [x % 4294967296 / 16777216 % 256] ++ [x % 4294967296 / 65536 % 256] ++ [x % 4294967296 / 256 % 256] ++ [x % 4294967296 % 256] := by
  have e0 : dig (n + 4) x = dig n (x / 256 / 256 / 256 / 256) ++ [x / 256 / 256 / 256 % 256] ++ [x / 256 / 256 % 256] ++ [x / 256 % 256] ++ [x % 256] := rfl
  rw [e0]
  rw [show x / 256 / 256 / 256 / 256 = x / 4294967296 by omega, show x / 256 / 256 / 256 % 256 = x % 4294967296 / 16777216 % 256 by omega, show x / 256 / 256 % 256 = x % 4294967296 / 65536 % 256 by omega, show x / 256 % 256 = x % 4294967296 / 256 % 256 by omega, show x % 256 = x % 4294967296 % 256 by omega]
theorem gD_big {L : List Nat} {j : Nat} (h : L.length ≤ j) : L.getD j 0 = 0 := by simp [List.getD, List.getElem?_eq_none h]
theorem set_lt {L : List Nat} {k v : Nat} (h : ∀ j, L.getD j 0 < 256) (hv : v < 256) : ∀ j, (L.set k v).getD j 0 < 256 := by
  intro j
  have h1 := h j
  by_cases e : j = k
  · subst e
    by_cases h2 : j < L.length
    · simp [List.getD, List.getElem?_set, h2]
      exact hv
    · rw [gD_big (by simp; omega)]
      decide
  · simpa [List.getD, List.getElem?_set_ne (Ne.symm e)] using h1
theorem cryL_s (L : List Nat) (k : Nat) : cryL L (k + 1) = if L.getD k 0 < 255 then L.set k (L.getD k 0 + 1) else cryL (L.set k 0) k := rfl
theorem dec_k (k : Nat) : nI k + Int32.ofInt (-1) = nI k - nI 1 := by
  rw [show Int32.ofInt (-1) = -(nI 1) by decide]
  exact (Int32.sub_eq_add_neg _ _).symm
theorem shf_s (rd : Bool) (C : List Nat) (n : Nat) (v : Iv) : shf rd C (n + 1) v = if v.2.1 < 16777216 then shf rd C n (if rd = true then v.1 * 256 + C.getD (4 + v.2.2) 0 else v.1 * 256, v.2.1 * 256, v.2.2 + 1) else v := rfl
theorem val4_z (C : List Nat) : val4 C = (((0 * 256 + C.getD 0 0) * 256 + C.getD (0 + 1) 0) * 256 + C.getD (0 + 1 + 1) 0) * 256 + C.getD (0 + 1 + 1 + 1) 0 := by unfold val4; rw [Nat.zero_mul, Nat.zero_add]
