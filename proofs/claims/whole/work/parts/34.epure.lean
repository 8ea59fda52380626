section RoA
variable {p : Program} {l : Launch} {e : Env} {R : Room} {s : State} {m : MethodId} {args : Array Value} {below : List Frame} {meth : Method} {c : Code}
variable {cc : ByteArray} {pc : Nat} {ls : Array Slot}
theorem ro_aret {post : Option Nat → Prop} {rt : FieldType} (r : Option Nat) (hx : p.tables.exec = Jvm.exec) (hb : c.code = cc) (hr : meth.sig.returnType = some rt) (hrt : (∃ n, rt = .object n) ∨ ∃ t, rt = .array t) (hlocks : meth.locks = false) (hq : post r) (hdg : decode cc pc = .ok (.areturn, 1)) :
    W p l e R s m args below meth c s.heap [] 0 0 (MQ below (va_Sq post) args s 0 0 (fun _ => False)) (F0 m pc ls [va_rf r]) :=
  W.aret (v := va_rf r) hx hb hr hrt (va_rf_or r) (fun t ht _ => ⟨r, rfl, hq, ht⟩) (fun _ h => by cases h) hdg hlocks
end RoA
/-! what the calls answer -/
def atW (T C O : List Nat) (w i : Int32) : Int32 := if w.toInt = 0 then atI T i else if w.toInt = 1 then atI C i else if w.toInt = 2 then atI O i else -1
def szW (T C O : List Nat) (w : Int32) : Int32 := if w.toInt = 0 then nI T.length else if w.toInt = 1 then nI C.length else if w.toInt = 2 then nI O.length else -1
def cntW (st : List Stq) (sh rg : Nat) (N : List Nd) (rs rt : Nat) (w : Int32) : Int64 := if w.toInt = 0 then lN st.length else if w.toInt = 1 then lN (escN st) else if w.toInt = 2 then lN sh else if w.toInt = 3 then lN rs else if w.toInt = 4 then lN rt else if w.toInt = 5 then lN N.length else if w.toInt = 6 then lN rg else if w.toInt = 7 then lN (keysOf N).length else -1
def lrI (N : List Nd) (o b e w : Int32) : Int32 := match kO o b e with
  | none => nI 0
  | some k => match nix N k w with
    | none => nI 0
    | some j => nI (nd N j).2.2
def ndI (N : List Nd) (o b e w : Int32) : Int32 := match kO o b e with
  | none => -1
  | some k => if 0 ≤ w.toInt ∧ w.toInt < (kF N k 0).length then nI ((kF N k 0).getD w.toNatClampNeg (0, 0, 0)).2.1 else -1
theorem kO_lt {o b e : Int32} {k : Nat} (h : kO o b e = some k) : k < 131072 := by
  unfold kO at h
  split at h
  · cases h
    decide
  · split at h
    · rename_i q
      obtain ⟨v, hv, rfl⟩ := isB_nI q.2
      cases h
      rw [nI_clamp (by omega)]
      omega
    · split at h
      · rename_i q
        obtain ⟨v, hv, rfl⟩ := isB_nI q.2.1
        obtain ⟨w, hw, rfl⟩ := isB_nI q.2.2
        cases h
        rw [nI_clamp (by omega), nI_clamp (by omega)]
        omega
      · cases h
theorem kF_key {N : List Nd} {k : Nat} (h : k ∉ keysOf N) (t : Nat) : kF N k t = [] := kF_none (fun j _ hj q => h (q ▸ key_in hj))
theorem nix_key {N : List Nd} {k : Nat} {w : Int32} (h : k ∉ keysOf N) : nix N k w = none := nix_none (fun j hj q => absurd (q ▸ key_in hj) h)
theorem nix_lt {N : List Nd} {k j : Nat} {w : Int32} (h : nix N k w = some j) : j < N.length := by
  unfold nix at h
  rw [List.findIdx?_eq_some_iff_getElem] at h
  exact h.1
theorem escN_le (st : List Stq) : escN st ≤ st.length := List.length_filter_le _ _
theorem symAt_le (out : Nat → Bool) (q : Nat) : symAt out q ≤ 256 := by
  unfold symAt
  cases h : (List.range 256).find? (fun b => !(out b) && cn out b == q) with
  | none => exact Nat.le_refl _
  | some b =>
    have := List.mem_of_find?_eq_some h
    rw [List.mem_range] at this
    exact Nat.le_of_lt this
theorem pickS_w {w : Nat} {L : List Nd} {a : Nat} {ax : Nat × Nd} (h : pickS w L a = some ax) : ax.2.2.1 = w := by
  induction L generalizing a with
  | nil => cases h
  | cons y L ih =>
    have e : pickS w (y :: L) a = if y.2.1 = w then some (a, y) else pickS w L (a + y.2.2) := rfl
    rw [e] at h
    split at h
    · cases h
      assumption
    · exact ih h
