theorem lix_len (N : List Nd) (k : Nat) (out : Nat → Bool) : (lix N k out N.length).length = (liv k out N).length := by rw [← lix_all, List.length_map]
theorem out_eq (N : List Nd) (k : Nat) (out : Nat → Bool) : (fun y => out y || (lix N k out N.length).any (fun i => (nd N i).2.1 == y)) = outOf N k out := by
  funext y
  unfold outOf
  cases ho : out y with
  | true => rfl
  | false =>
    rw [Bool.false_or, Bool.false_or]
    have e : (lix N k out N.length).any (fun i => (nd N i).2.1 == y) = (liv k out N).any (fun x => x.2.1 == y) := by rw [← lix_all, List.any_map]; rfl
    rw [e]
    unfold liv
    rw [List.any_filter]
    congr 1
    funext x
    unfold lvb
    by_cases h : x.2.1 = y
    · rw [h, ho]
      simp
    · have : (x.2.1 == y) = false := by simp [h]
      rw [this, Bool.and_false, Bool.and_false]
theorem cn_one {out : Nat → Bool} {b : Nat} (h : out b = false) (n : Nat) : cn (fun y => out y || b == y) n + (if b < n then 1 else 0) = cn out n := by
  induction n with
  | zero => rfl
  | succ n ih =>
    show cn (fun y => out y || b == y) n + (if (out n || b == n) = true then 0 else 1) + _ = cn out n + (if out n = true then 0 else 1)
    by_cases e : b = n
    · subst e
      rw [h]
      simp only [Bool.false_or, beq_self_eq_true, if_true]
      rw [if_neg (by omega)] at ih
      rw [if_pos (by omega), if_neg (by decide)]
      omega
    · have e2 : (b == n) = false := by simp [e]
      rw [e2, Bool.or_false]
      by_cases e3 : b < n
      · rw [if_pos e3] at ih
        rw [if_pos (show b < n + 1 by omega)]
        omega
      · rw [if_neg e3] at ih
        rw [if_neg (show ¬ b < n + 1 by omega)]
        omega
theorem cn_list {B : List Nat} {out : Nat → Bool} (hd : ndK B) (hb : ∀ b ∈ B, b < 256 ∧ out b = false) : cn (fun y => out y || B.any (fun b => b == y)) 257 + B.length = cn out 257 := by
  induction B generalizing out with
  | nil =>
    show cn (fun y => out y || false) 257 + 0 = cn out 257
    have : (fun y => out y || false) = out := by funext y; exact Bool.or_false _
    rw [this, Nat.add_zero]
  | cons b B ih =>
    have h1 := hb b List.mem_cons_self
    have hnd : ndK B := fun i j hi hj e => by
      have := hd (i + 1) (j + 1) (by simp; omega) (by simp; omega) e
      omega
    have hnot : b ∉ B := fun q => by
      obtain ⟨i, hi, e⟩ := List.getElem_of_mem q
      have := hd 0 (i + 1) (by simp) (by simp; omega) (by simp [List.getD, List.getElem?_eq_getElem hi, e])
      omega
    have h2 := ih (out := fun y => out y || b == y) hnd (fun c hc => ⟨(hb c (List.mem_cons_of_mem _ hc)).1, by
      have := (hb c (List.mem_cons_of_mem _ hc)).2
      have hne : (b == c) = false := by simp; exact fun q => hnot (q ▸ hc)
      rw [this, hne]
      rfl⟩)
    have h3 := cn_one (out := out) (b := b) h1.2 257
    rw [if_pos (by omega)] at h3
    have e : (fun y => out y || (b :: B).any (fun b => b == y)) = (fun y => (out y || b == y) || B.any (fun b => b == y)) := by
      funext y
      rw [List.any_cons, Bool.or_assoc]
    rw [e, List.length_cons]
    omega
theorem liv_mem {k : Nat} {out : Nat → Bool} {N : List Nd} {x : Nd} (h : x ∈ liv k out N) : x ∈ N ∧ x.1 = k ∧ out x.2.1 = false := by
  unfold liv at h
  rw [List.mem_filter] at h
  obtain ⟨h1, h2⟩ := h
  simp only [lvb, Bool.and_eq_true, beq_iff_eq, Bool.not_eq_true'] at h2
  exact ⟨h1, h2.1, h2.2⟩
theorem filter_nd {L : List Nd} {q : Nd → Bool} (h : ndK (L.map (fun x => x.2.1))) : ndK ((L.filter q).map (fun x => x.2.1)) := by
  induction L with
  | nil => exact h
  | cons x L ih =>
    have hL : ndK (L.map (fun x => x.2.1)) := fun i j hi hj e => by
      have := h (i + 1) (j + 1) (by simp at hi ⊢; omega) (by simp at hj ⊢; omega) e
      omega
    have hx : x.2.1 ∉ (L.filter q).map (fun x => x.2.1) := fun m => by
      obtain ⟨y, hy, e⟩ := List.mem_map.mp m
      obtain ⟨i, hi, e2⟩ := List.getElem_of_mem (List.mem_filter.mp hy).1
      have := h 0 (i + 1) (by simp) (by simp; omega) (by simp [List.getD, List.getElem?_eq_getElem hi, e2]; exact e.symm)
      omega
    by_cases hq : q x = true
    · rw [List.filter_cons_of_pos hq, List.map_cons]
      intro a b ha hb e
      simp only [List.length_cons] at ha hb
      cases a with
      | zero =>
        cases b with
        | zero => rfl
        | succ b =>
          exfalso
          apply hx
          have e' : x.2.1 = ((L.filter q).map (fun x => x.2.1)).getD b 0 := e
          rw [e']
          exact getD_mem (by omega)
      | succ a =>
        cases b with
        | zero =>
          exfalso
          apply hx
          have e' : ((L.filter q).map (fun x => x.2.1)).getD a 0 = x.2.1 := e
          rw [← e']
          exact getD_mem (by omega)
        | succ b =>
          have := ih hL a b (by omega) (by omega) e
          omega
    · rw [List.filter_cons_of_neg hq]
      exact ih hL
theorem cn_out {N : List Nd} (h : okN N) (k : Nat) (out : Nat → Bool) : cn (outOf N k out) 257 + (liv k out N).length = cn out 257 := by
  have hnd : ndK ((liv k out N).map (fun x => x.2.1)) := by
    have e : liv k out N = (kF N k 0).filter (fun x => !(out x.2.1)) := by
      unfold liv kF
      rw [List.drop_zero, List.filter_filter]
      congr 1
      funext x
      unfold lvb
      exact Bool.and_comm _ _
    rw [e]
    exact filter_nd (okN_drop h k 0).1
  have := cn_list (out := out) hnd (fun b hb => by
    obtain ⟨x, hx, rfl⟩ := List.mem_map.mp hb
    obtain ⟨h1, -, h3⟩ := liv_mem hx
    exact ⟨(h.1 x h1).2.1, h3⟩)
  rw [List.length_map] at this
  rw [← this]
  congr 2
  rw [← out_eq]
  funext y
  rw [List.any_map, show (lix N k out N.length).any (fun i => (nd N i).2.1 == y) = (liv k out N).any (fun x => x.2.1 == y) by rw [← lix_all, List.any_map]; rfl]
  rfl
theorem tellGo_s (rd : Bool) (C : List Nat) (N : List Nd) (key : Nat → Nat) (w n : Nat) (v : Iv) (out : Nat → Bool) (st : List Stq) : tellGo rd C N key w (n + 1) v out st = if liv (key n) out N = [] then tellGo rd C N key w n v out st else
    match sel rd (plc v (sumC (liv (key n) out N) + (liv (key n) out N).length)) w (liv (key n) out N) with
    | some ax => (nar rd C ax.1 ax.2.2.2 (sumC (liv (key n) out N) + (liv (key n) out N).length) v, st ++ [(ax.1, ax.2.2.2, sumC (liv (key n) out N) + (liv (key n) out N).length, n + 1, false)], ax.2.2.1, n + 1)
    | none => tellGo rd C N key w n (nar rd C (sumC (liv (key n) out N)) (liv (key n) out N).length (sumC (liv (key n) out N) + (liv (key n) out N).length) v) (outOf N (key n) out) (st ++ [(sumC (liv (key n) out N), (liv (key n) out N).length, sumC (liv (key n) out N) + (liv (key n) out N).length, n + 1, true)]) := rfl
theorem nar_up (rd : Bool) (C : List Nat) (a f t : Nat) (v : Iv) : v.2.2 ≤ (nar rd C a f t v).2.2 := by
  unfold nar
  have h9 := shf_up rd C 4 (if rd = true then v.1 - v.2.1 / t * a else v.1 + v.2.1 / t * a, if a + f = t then v.2.1 - v.2.1 / t * a else v.2.1 / t * f, v.2.2)
  exact h9
theorem tellGo_mono (rd : Bool) (C : List Nat) (N : List Nd) (key : Nat → Nat) (w n : Nat) (v : Iv) (out : Nat → Bool) (st : List Stq) : st.length + 1 ≤ (tellGo rd C N key w n v out st).2.1.length ∧ v.2.2 ≤ (tellGo rd C N key w n v out st).1.2.2 := by
  induction n generalizing v out st with
  | zero =>
    refine ⟨?_, nar_up _ _ _ _ _ _⟩
    show st.length + 1 ≤ (st ++ [_]).length
    simp
  | succ n ih =>
    rw [tellGo_s]
    split
    · exact ih v out st
    · split
      · refine ⟨?_, nar_up _ _ _ _ _ _⟩
        show st.length + 1 ≤ (st ++ [_]).length
        simp
      · have h1 := ih (nar rd C (sumC (liv (key n) out N)) (liv (key n) out N).length (sumC (liv (key n) out N) + (liv (key n) out N).length) v) (outOf N (key n) out) (st ++ [(sumC (liv (key n) out N), (liv (key n) out N).length, sumC (liv (key n) out N) + (liv (key n) out N).length, n + 1, true)])
        have h2 := nar_up rd C (sumC (liv (key n) out N)) (liv (key n) out N).length (sumC (liv (key n) out N) + (liv (key n) out N).length) v
        rw [List.length_append, List.length_singleton] at h1
        omega
theorem sumC_filter (q : Nd → Bool) (N : List Nd) : sumC (N.filter q) ≤ sumC N := by
  induction N with
  | nil => exact Nat.le_refl _
  | cons x N ih =>
    rw [sumC_c]
    by_cases h : q x = true
    · rw [List.filter_cons_of_pos h, sumC_c]
      omega
    · rw [List.filter_cons_of_neg h]
      omega
theorem liv_sum (k : Nat) (out : Nat → Bool) (N : List Nd) : sumC (liv k out N) + (liv k out N).length ≤ sumC N + N.length := by
  have h1 := sumC_filter (lvb k out) N
  have h2 := List.length_filter_le (lvb k out) N
  unfold liv
  omega
theorem OR_new {os : Nat → Int32} {tn : Nat} (h : OS os tn) (ht : tn < 2 ^ 30) : OR os (tn + 1) noOut := by
  intro b hb
  obtain ⟨t, h1, h2⟩ := h b hb
  rw [h2]
  constructor
  · intro q
    have := (nI_eq (by omega) (by omega)).mp q
    omega
  · intro q
    exact absurd q (show ¬ false = true by decide)
theorem OS_up {os : Nat → Int32} {tn : Nat} (h : OS os tn) : OS os (tn + 1) := fun b hb => by
  obtain ⟨t, h1, h2⟩ := h b hb
  exact ⟨t, by omega, h2⟩
theorem cn_noOut : cn noOut 257 = 257 := by decide +kernel
theorem outOf_256 {N : List Nd} (h : okN N) {k : Nat} {out : Nat → Bool} (ho : out 256 = false) : outOf N k out 256 = false := by
  unfold outOf
  rw [ho, Bool.false_or]
  cases hq : N.any (fun x => x.1 == k && x.2.1 == 256) with
  | false => rfl
  | true =>
    obtain ⟨x, hx, h2⟩ := List.any_eq_true.mp hq
    simp only [Bool.and_eq_true, beq_iff_eq] at h2
    have := (h.1 x hx).2.1
    omega
/-- a byte that was not picked is not out behind -/
theorem pickS_n {w : Nat} {L : List Nd} {a : Nat} (h : pickS w L a = none) : ∀ x ∈ L, ¬ x.2.1 = w := by
  induction L generalizing a with
  | nil => intro x hx; cases hx
  | cons y L ih =>
    have e : pickS w (y :: L) a = if y.2.1 = w then some (a, y) else pickS w L (a + y.2.2) := rfl
    rw [e] at h
    split at h
    · cases h
    · rename_i hne
      intro x hx
      rcases List.mem_cons.mp hx with q | q
      · rw [q]; exact hne
      · exact ih h x q
theorem outOf_w {N : List Nd} {k w : Nat} {out : Nat → Bool} (ho : out w = false) (h : pickS w (liv k out N) 0 = none) : outOf N k out w = false := by
  unfold outOf
  rw [ho, Bool.false_or]
  cases hq : N.any (fun x => x.1 == k && x.2.1 == w) with
  | false => rfl
  | true =>
    obtain ⟨x, hx, h2⟩ := List.any_eq_true.mp hq
    simp only [Bool.and_eq_true, beq_iff_eq] at h2
    exact absurd h2.2 (pickS_n h x (by unfold liv; rw [List.mem_filter]; exact ⟨hx, by simp [lvb, h2.1, h2.2, ho]⟩))
theorem cn_w {out : Nat → Bool} {w : Nat} (hw : w ≤ 256) (ho : out w = false) : cn out w + 1 ≤ cn out 257 := by
  have h1 : cn out (w + 1) = cn out w + 1 := by
    show cn out w + _ = _
    rw [ho]
    rfl
  have h2 := cn_mono out (show w + 1 ≤ 257 by omega)
  omega
theorem symAt_cn {out : Nat → Bool} {w : Nat} (hw : w ≤ 256) (ho : out w = false) : symAt out (cn out w) = w := by
  by_cases h : w < 256
  · refine symAt_some h (by simp [ho]) (fun a ha q => ?_)
    simp only [Bool.and_eq_true, Bool.not_eq_true', beq_iff_eq] at q
    have h1 : cn out (a + 1) = cn out a + 1 := by
      show cn out a + _ = _
      rw [q.1]
      rfl
    have h2 := cn_mono out (show a + 1 ≤ w by omega)
    omega
  · have : w = 256 := by omega
    subst this
    refine symAt_none (fun a ha q => ?_)
    simp only [Bool.and_eq_true, Bool.not_eq_true', beq_iff_eq] at q
    have h1 : cn out (a + 1) = cn out a + 1 := by
      show cn out a + _ = _
      rw [q.1]
      rfl
    have h2 := cn_mono out (show a + 1 ≤ 256 by omega)
    omega
theorem liv_none {N : List Nd} {k : Nat} {out : Nat → Bool} (h : k ∉ keysOf N) : liv k out N = [] := by
  unfold liv
  rw [List.filter_eq_nil_iff]
  intro x hx q
  simp only [lvb, Bool.and_eq_true, beq_iff_eq] at q
  exact h ((keysOf_mem _ _).mpr ⟨x, hx, q.1⟩)
theorem lix_256 {N : List Nd} (h : okN N) {k : Nat} {out : Nat → Bool} : (lix N k out N.length).length ≤ 256 := by
  rw [lix_len]
  refine Nat.le_trans ?_ (kF_256 h k 0)
  have e : liv k out N = (kF N k 0).filter (fun x => !(out x.2.1)) := by
    unfold liv kF
    rw [List.drop_zero, List.filter_filter]
    congr 1
    funext x
    unfold lvb
    exact Bool.and_comm _ _
  rw [e]
  exact List.length_filter_le _ _
theorem nI_m1 {n : Nat} (h : n < 2 ^ 31) : ¬ nI n = -1 := fun q => by
  have := congrArg Int32.toInt q
  rw [nI_toInt h] at this
  have h2 : (-1 : Int32).toInt = -1 := by decide
  omega
