theorem nI_m1n {j : Nat} (hj : j < 2 ^ 31) : ¬ nI j = -1 := fun q => by
  have := congrArg Int32.toInt q
  rw [nI_toInt hj] at this
  have h2 : (-1 : Int32).toInt = -1 := by decide
  omega
theorem lrn1_ok {lim k b rs rt : Nat} {N : List Nd} (h : okN N) (hl : N.length ≤ lim) (hk : k < 131072) (hb : b < 256) : okN (lrn1 lim k b (N, rs, rt)).1.1 := (RN_lrn1 (t := sumC N) ⟨h, hl, Nat.le_refl _⟩ hk hb).1
theorem pow_fu {R k : Nat} (h : 16777216 ≤ R * 256 ^ (k + 1)) : 16777216 ≤ R * 256 * 256 ^ k := by
  rw [Nat.pow_succ] at h
  rw [Nat.mul_assoc, Nat.mul_comm 256]
  exact h
theorem plc_ok {x R s t a f : Nat} (hx : x ≤ R) (ht : 1 ≤ t) (hu : 1 ≤ R / t) (ha : a ≤ plc (x, R, s) t) (hp : plc (x, R, s) t < a + f) (haf : a + f ≤ t) : R / t * a ≤ x ∧ x - R / t * a ≤ (if a + f = t then R - R / t * a else R / t * f) := by
  have e : plc (x, R, s) t = min (x / (R / t)) (t - 1) := rfl
  rw [e] at ha hp
  have h1 : a ≤ x / (R / t) := by omega
  have h2 : a * (R / t) ≤ x := (Nat.le_div_iff_mul_le (by omega)).mp h1
  rw [Nat.mul_comm] at h2
  refine ⟨h2, ?_⟩
  split
  · omega
  · have h3 : x / (R / t) < a + f := by omega
    have h4 : x < (a + f) * (R / t) := (Nat.div_lt_iff_lt_mul (by omega)).mp h3
    rw [Nat.add_mul, Nat.mul_comm a, Nat.mul_comm f] at h4
    omega
