theorem ZZ_0 {uz : Nat → Int32} (h : ∀ j, j < 257 → uz j = bI false) : ZZ uz noOut := fun j hj => h j hj
theorem cn_t {out : Nat → Bool} {b : Nat} (h : out b = true) : cn out (b + 1) = cn out b := by
  show cn out b + _ = _
  rw [h]
  rfl
theorem cn_f {out : Nat → Bool} {b : Nat} (h : out b = false) : cn out (b + 1) = cn out b + 1 := by
  show cn out b + _ = _
  rw [h]
  rfl
theorem pickS_s {w : Nat} (hw : w ≤ 256) {L : List Nd} (hL : ∀ x ∈ L, x.2.1 < 256 ∧ 1 ≤ x.2.2) {ax : Nat × Nd} (h : pickS w L 0 = some ax) : ax.1 + ax.2.2.2 ≤ sumC L ∧ ax.2 ∈ L := by
  rw [← pick_eq hw hL 0] at h
  have := pickP_s h (Nat.zero_le _)
  exact ⟨by omega, this.2.2.2.2⟩
theorem tellGo_0 (rd : Bool) (C : List Nat) (N : List Nd) (key : Nat → Nat) (w : Nat) (v : Iv) (out : Nat → Bool) (st : List Stq) : tellGo rd C N key w 0 v out st = (nar rd C (if rd = true then plc v (cn out 257) else cn out w) 1 (cn out 257) v, st ++ [(if rd = true then plc v (cn out 257) else cn out w, 1, cn out 257, 0, false)], if rd = true then symAt out (plc v (cn out 257)) else w, 0) := rfl
