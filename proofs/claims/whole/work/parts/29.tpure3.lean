/-! the interval's bounds -/
theorem shf_R (rd : Bool) (C : List Nat) (n : Nat) (v : Iv) (h1 : 16777216 ≤ v.2.1 * 256 ^ n) (h2 : v.2.1 < 4294967296) : 16777216 ≤ (shf rd C n v).2.1 ∧ (shf rd C n v).2.1 < 4294967296 := by
  induction n generalizing v with
  | zero =>
    rw [Nat.pow_zero, Nat.mul_one] at h1
    exact ⟨h1, h2⟩
  | succ n ih =>
    rw [shf_s]
    split
    · refine ih _ ?_ ?_
      · show 16777216 ≤ v.2.1 * 256 * 256 ^ n
        rw [Nat.pow_succ, Nat.mul_comm (256 ^ n) 256, ← Nat.mul_assoc] at h1
        exact h1
      · show v.2.1 * 256 < 4294967296
        omega
    · exact ⟨by omega, h2⟩
theorem shf_3 (rd : Bool) (C : List Nat) (v : Iv) (h1 : 1 ≤ v.2.1) : (shf rd C 4 v).2.2 ≤ v.2.2 + 3 := by
  have key : ∀ n (v : Iv), 16777216 ≤ v.2.1 * 256 ^ n → ∀ k, n ≤ k → (shf rd C k v).2.2 ≤ v.2.2 + n := by
    intro n
    induction n with
    | zero =>
      intro v h k hk
      cases k with
      | zero => exact Nat.le_refl _
      | succ k =>
        rw [shf_s, if_neg (by rw [Nat.pow_zero, Nat.mul_one] at h; omega)]
        exact Nat.le_refl _
    | succ n ih =>
      intro v h k hk
      cases k with
      | zero => omega
      | succ k =>
        rw [shf_s]
        split
        · have h9 := ih (if rd = true then v.1 * 256 + C.getD (4 + v.2.2) 0 else v.1 * 256, v.2.1 * 256, v.2.2 + 1) (by
            show 16777216 ≤ v.2.1 * 256 * 256 ^ n
            rw [Nat.pow_succ, Nat.mul_comm (256 ^ n) 256, ← Nat.mul_assoc] at h
            exact h) k (by omega)
          dsimp only at h9
          omega
        · omega
  exact key 3 v (by omega) 4 (by omega)
theorem shf_x (C : List Nat) (hC : ∀ j, C.getD j 0 < 256) (n : Nat) (v : Iv) (h : v.1 < v.2.1) : (shf true C n v).1 < (shf true C n v).2.1 := by
  induction n generalizing v with
  | zero => exact h
  | succ n ih =>
    rw [shf_s]
    split
    · refine ih _ ?_
      show (if true = true then v.1 * 256 + C.getD (4 + v.2.2) 0 else v.1 * 256) < v.2.1 * 256
      rw [if_pos rfl]
      have := hC (4 + v.2.2)
      omega
    · exact h
/-- the new range, ahead of the shifts -/
theorem nar_r {a f t R : Nat} (hR : 16777216 ≤ R) (ht : 1 ≤ t ∧ t < 32768) (hf : 1 ≤ f) (haf : a + f ≤ t) : 512 ≤ R / t ∧ R / t * a ≤ R ∧ 1 ≤ (if a + f = t then R - R / t * a else R / t * f) ∧ (if a + f = t then R - R / t * a else R / t * f) ≤ R := by
  have h1 : 512 ≤ R / t := by
    rw [Nat.le_div_iff_mul_le (by omega)]
    omega
  have h2 : R / t * t ≤ R := Nat.div_mul_le_self _ _
  have h3 : R / t * a + R / t * f ≤ R / t * t := by rw [← Nat.mul_add]; exact Nat.mul_le_mul_left _ haf
  have h4 : R / t * 1 ≤ R / t * f := Nat.mul_le_mul_left _ hf
  refine ⟨h1, by omega, ?_, ?_⟩
  · split <;> omega
  · split <;> omega
theorem nar_ok {rd : Bool} {C : List Nat} {a f t : Nat} {v : Iv} (hR : 16777216 ≤ v.2.1 ∧ v.2.1 < 4294967296) (ht : 1 ≤ t ∧ t < 32768) (hf : 1 ≤ f) (haf : a + f ≤ t) : (16777216 ≤ (nar rd C a f t v).2.1 ∧ (nar rd C a f t v).2.1 < 4294967296) ∧ v.2.2 ≤ (nar rd C a f t v).2.2 ∧ (nar rd C a f t v).2.2 ≤ v.2.2 + 3 := by
  obtain ⟨h1, h2, h3, h4⟩ := nar_r hR.1 ht hf haf
  unfold nar
  refine ⟨shf_R _ _ _ _ ?_ ?_, ?_, shf_3 _ _ _ h3⟩
  · dsimp only
    omega
  · dsimp only
    omega
  · have h9 := shf_up rd C 4 (if rd = true then v.1 - v.2.1 / t * a else v.1 + v.2.1 / t * a, if a + f = t then v.2.1 - v.2.1 / t * a else v.2.1 / t * f, v.2.2)
    exact h9
theorem nar_x {C : List Nat} (hC : ∀ j, C.getD j 0 < 256) {a f t : Nat} {v : Iv} (hx : v.1 < v.2.1) (ht : 1 ≤ t) (hu : 1 ≤ v.2.1 / t) (ha : a ≤ plc v t) (hp : plc v t < a + f) (haf : a + f ≤ t) : (nar true C a f t v).1 < (nar true C a f t v).2.1 := by
  unfold nar
  refine shf_x C hC _ _ ?_
  dsimp only
  rw [if_pos rfl]
  have h0 : v.1 / (v.2.1 / t) < t ∨ t ≤ v.1 / (v.2.1 / t) := Nat.lt_or_ge _ _
  have hm : v.2.1 / t * a ≤ v.1 := by
    have h5 : a ≤ v.1 / (v.2.1 / t) := Nat.le_trans ha (Nat.min_le_left _ _)
    rw [Nat.le_div_iff_mul_le (by omega)] at h5
    rw [Nat.mul_comm]
    exact h5
  split
  · omega
  · rename_i hne
    have h6 : v.1 / (v.2.1 / t) < a + f := by
      unfold plc at hp
      omega
    rw [Nat.div_lt_iff_lt_mul (by omega)] at h6
    rw [Nat.add_mul] at h6
    rw [Nat.mul_comm (v.2.1 / t) a, Nat.mul_comm (v.2.1 / t) f] at *
    omega
/-! to pick a part -/
theorem pickP_c (p : Nat) (x : Nd) (xs : List Nd) (a : Nat) : pickP p (x :: xs) a = if p < a + x.2.2 then some (a, x) else pickP p xs (a + x.2.2) := rfl
theorem sumC_c (x : Nd) (xs : List Nd) : sumC (x :: xs) = x.2.2 + sumC xs := by simp [sumC]
theorem pickP_s {p : Nat} {L : List Nd} {a0 : Nat} {ax : Nat × Nd} (h : pickP p L a0 = some ax) (h0 : a0 ≤ p) : a0 ≤ ax.1 ∧ ax.1 ≤ p ∧ p < ax.1 + ax.2.2.2 ∧ ax.1 + ax.2.2.2 ≤ a0 + sumC L ∧ ax.2 ∈ L := by
  induction L generalizing a0 with
  | nil => cases h
  | cons x xs ih =>
    rw [pickP_c] at h
    rw [sumC_c]
    split at h
    · cases h
      exact ⟨Nat.le_refl _, h0, by assumption, by dsimp only; omega, List.mem_cons_self⟩
    · obtain ⟨h1, h2, h3, h4, h5⟩ := ih h (by omega)
      exact ⟨by omega, h2, h3, by omega, List.mem_cons_of_mem _ h5⟩
theorem pickP_n {p : Nat} {L : List Nd} {a0 : Nat} (h : pickP p L a0 = none) (h0 : a0 ≤ p) : a0 + sumC L ≤ p := by
  induction L generalizing a0 with
  | nil => simpa [sumC] using h0
  | cons x xs ih =>
    rw [pickP_c] at h
    rw [sumC_c]
    split at h
    · cases h
    · have := ih h (by omega)
      omega
theorem bgS_ge (w : Int32) (L : List Nd) (a : Nat) : a ≤ bgS w L a := by
  induction L generalizing a with
  | nil => exact Nat.le_refl _
  | cons x xs ih =>
    rw [bgS_c]
    split
    · exact Nat.le_refl _
    · have := ih (a + x.2.2)
      omega
theorem bgS_le (w : Int32) (L : List Nd) (a : Nat) : bgS w L a ≤ a + sumC L := by
  induction L generalizing a with
  | nil => exact Nat.le_add_right _ _
  | cons x xs ih =>
    rw [bgS_c, sumC_c]
    split
    · omega
    · have := ih (a + x.2.2)
      omega
theorem pick_eq {w : Nat} (hw : w ≤ 256) {L : List Nd} (hL : ∀ x ∈ L, x.2.1 < 256 ∧ 1 ≤ x.2.2) (a : Nat) : pickP (bgS (nI w) L a) L a = pickS w L a := by
  induction L generalizing a with
  | nil => rfl
  | cons x xs ih =>
    have hx := hL x List.mem_cons_self
    have hh := ih (fun y hy => hL y (List.mem_cons_of_mem _ hy)) (a + x.2.2)
    rw [bgS_c, pickP_c]
    show _ = if x.2.1 = w then some (a, x) else pickS w xs (a + x.2.2)
    by_cases e : x.2.1 = w
    · have e1 : nI x.2.1 = nI w := by rw [e]
      rw [if_pos e, if_pos e1, if_pos (by omega)]
    · have hne : ¬ nI x.2.1 = nI w := fun q => e ((nI_eq (by omega) (by omega)).mp q)
      have hge := bgS_ge (nI w) xs (a + x.2.2)
      rw [if_neg hne, if_neg (by omega), if_neg e]
      exact hh
