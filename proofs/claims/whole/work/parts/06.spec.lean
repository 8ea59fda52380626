/-! THE MATHEMATICAL VALUE: both sides are tied to it -/
/-- a node: its context's number, its byte, its count -/
abbrev Nd : Type := Nat × Nat × Nat
/-- what gets narrower: LOW (or VALUE less LOW), RANGE, shifts -/
abbrev Iv : Type := Nat × Nat × Nat
/-- a step: begin, part, whole, order + 1, escape -/
abbrev Stq : Type := Nat × Nat × Nat × Nat × Bool
def nd (N : List Nd) (i : Nat) : Nd := N.getD i (0, 0, 0)
def isB (b : Int32) : Bool := decide (0 ≤ b.toInt ∧ b.toInt < 256)
/-- the context's number of an order behind the bytes h, the latest first -/
def kAt (h : List Nat) (o : Nat) : Nat := if o = 0 then 0 else if o = 1 then 1 + h.getD 0 0 else 257 + h.getD 0 0 * 256 + h.getD 1 0
def lvb (k : Nat) (out : Nat → Bool) (x : Nd) : Bool := x.1 == k && !(out x.2.1)
def liv (k : Nat) (out : Nat → Bool) (N : List Nd) : List Nd := N.filter (lvb k out)
def sumC (N : List Nd) : Nat := (N.map (fun x => x.2.2)).sum
def pickP (p : Nat) : List Nd → Nat → Option (Nat × Nd)
  | [], _ => none
  | x :: xs, a => if p < a + x.2.2 then some (a, x) else pickP p xs (a + x.2.2)
def pickS (w : Nat) : List Nd → Nat → Option (Nat × Nd)
  | [], _ => none
  | x :: xs, a => if x.2.1 = w then some (a, x) else pickS w xs (a + x.2.2)
/-- how many of the first b symbols are not out -/
def cn (out : Nat → Bool) : Nat → Nat
  | 0 => 0
  | b + 1 => cn out b + (if out b = true then 0 else 1)
def plc (v : Iv) (t : Nat) : Nat := min (v.1 / (v.2.1 / t)) (t - 1)
def shf (rd : Bool) (C : List Nat) : Nat → Iv → Iv
  | 0, v => v
  | n + 1, v => if v.2.1 < 16777216 then shf rd C n (if rd = true then v.1 * 256 + C.getD (4 + v.2.2) 0 else v.1 * 256, v.2.1 * 256, v.2.2 + 1) else v
def nar (rd : Bool) (C : List Nat) (a f t : Nat) (v : Iv) : Iv :=
  shf rd C 4 (if rd = true then v.1 - v.2.1 / t * a else v.1 + v.2.1 / t * a, if a + f = t then v.2.1 - v.2.1 / t * a else v.2.1 / t * f, v.2.2)
def symAt (out : Nat → Bool) (p : Nat) : Nat := ((List.range 256).find? (fun b => !(out b) && cn out b == p)).getD 256
def outOf (N : List Nd) (k : Nat) (out : Nat → Bool) : Nat → Bool := fun b => out b || N.any (fun x => x.1 == k && x.2.1 == b)
def sel (rd : Bool) (p w : Nat) (lv : List Nd) : Option (Nat × Nd) := if rd = true then pickP p lv 0 else pickS w lv 0
/-- to tell (or read) a symbol from the order n - 1 down: interval, steps, symbol, order + 1 -/
def tellGo (rd : Bool) (C : List Nat) (N : List Nd) (key : Nat → Nat) (w : Nat) : Nat → Iv → (Nat → Bool) → List Stq → Iv × List Stq × Nat × Nat
  | 0, v, out, st =>
    (nar rd C (if rd = true then plc v (cn out 257) else cn out w) 1 (cn out 257) v, st ++ [(if rd = true then plc v (cn out 257) else cn out w, 1, cn out 257, 0, false)], if rd = true then symAt out (plc v (cn out 257)) else w, 0)
  | n + 1, v, out, st =>
    if liv (key n) out N = [] then tellGo rd C N key w n v out st else
    match sel rd (plc v (sumC (liv (key n) out N) + (liv (key n) out N).length)) w (liv (key n) out N) with
    | some ax => (nar rd C ax.1 ax.2.2.2 (sumC (liv (key n) out N) + (liv (key n) out N).length) v, st ++ [(ax.1, ax.2.2.2, sumC (liv (key n) out N) + (liv (key n) out N).length, n + 1, false)], ax.2.2.1, n + 1)
    | none => tellGo rd C N key w n (nar rd C (sumC (liv (key n) out N)) (liv (key n) out N).length (sumC (liv (key n) out N) + (liv (key n) out N).length) v) (outOf N (key n) out) (st ++ [(sumC (liv (key n) out N), (liv (key n) out N).length, sumC (liv (key n) out N) + (liv (key n) out N).length, n + 1, true)])
def isN (k b : Nat) (x : Nd) : Bool := x.1 == k && x.2.1 == b
def halv (k : Nat) (N : List Nd) : List Nd := N.map (fun x => if x.1 = k then (x.1, x.2.1, (x.2.2 + 1) / 2) else x)
def incN (k b : Nat) (N : List Nd) : List Nd := N.map (fun x => if isN k b x = true then (x.1, x.2.1, x.2.2 + 1) else x)
/-- a node's count, 0 where there is none -/
def cntN (k b : Nat) (N : List Nd) : Nat := ((N.find? (isN k b)).map (fun x => x.2.2)).getD 0
/-- nodes, rescalings, resets behind what one context learns; whether it goes on -/
def lrn1 (lim k b : Nat) (q : List Nd × Nat × Nat) : (List Nd × Nat × Nat) × Bool :=
  if q.1.any (isN k b) = true then
    if cntN k b q.1 = 255 then ((incN k b (halv k q.1), q.2.1 + 1, q.2.2), true) else ((incN k b q.1, q.2.1, q.2.2), true)
  else if lim ≤ q.1.length then (([], q.2.1, q.2.2 + 1), false) else ((q.1 ++ [(k, b, 1)], q.2.1, q.2.2), true)
/-- the orders n - 1 down to lo -/
def lrn (lim : Nat) (key : Nat → Nat) (b lo : Nat) : Nat → List Nd × Nat × Nat → List Nd × Nat × Nat
  | 0, q => q
  | n + 1, q => if n < lo then q else if (lrn1 lim (key n) b q).2 = true then lrn lim key b lo n (lrn1 lim (key n) b q).1 else (lrn1 lim (key n) b q).1
def topO (h : List Nat) : Nat := min h.length 2
def noOut : Nat → Bool := fun _ => false
/-- a run's state: interval, (nodes, rescalings, resets), bytes so far (the latest first), steps -/
abbrev Run : Type := Iv × (List Nd × Nat × Nat) × List Nat × List Stq
def tellR (rd : Bool) (C : List Nat) (w : Nat) (z : Run) : Iv × List Stq × Nat × Nat := tellGo rd C z.2.1.1 (kAt z.2.2.1) w (topO z.2.2.1 + 1) z.1 noOut z.2.2.2
/-- behind a byte that was told -/
def goBy (lim : Nat) (z : Run) (r : Iv × List Stq × Nat × Nat) : Run := (r.1, lrn lim (kAt z.2.2.1) r.2.2.1 (r.2.2.2 - 1) (topO z.2.2.1 + 1) z.2.1, r.2.2.1 :: z.2.2.1, r.2.1)
def encGo (lim : Nat) : List Nat → Run → Run
  | [], z => ((tellR false [] 256 z).1, z.2.1, z.2.2.1, (tellR false [] 256 z).2.1)
  | b :: bs, z => encGo lim bs (goBy lim z (tellR false [] b z))
/-- the run, and whether END came -/
def decGo (lim : Nat) (C : List Nat) : Nat → Run → Run × Bool
  | 0, z => (z, false)
  | n + 1, z => if (tellR true C 256 z).2.2.1 = 256 then (((tellR true C 256 z).1, z.2.1, z.2.2.1, (tellR true C 256 z).2.1), true) else
    if z.2.2.1.length = 4000 then (((tellR true C 256 z).1, z.2.1, z.2.2.1, (tellR true C 256 z).2.1), false) else decGo lim C n (goBy lim z (tellR true C 256 z))
/-- a number's last n digits to 256, the highest first -/
def dig : Nat → Nat → List Nat
  | 0, _ => []
  | n + 1, x => dig n (x / 256) ++ [x % 256]
def run0 (x : Nat) : Run := ((x, 4294967295, 0), ([], 0, 0), [], [])
def val4 (C : List Nat) : Nat := ((C.getD 0 0 * 256 + C.getD 1 0) * 256 + C.getD 2 0) * 256 + C.getD 3 0
/-- a row's room behind g growths -/
def gcap (most g : Nat) : Nat := min most (64 * 2 ^ g)
/-- how many growths n places need -/
def gN (n : Nat) : Nat := Nat.log2 (n - 1) - 5
theorem gN_iff (n g : Nat) : n ≤ 64 * 2 ^ g ↔ gN n ≤ g := by
  unfold gN
  have h6 : 64 * 2 ^ g = 2 ^ (g + 6) := by rw [Nat.pow_add]; omega
  rw [h6]
  have hp : 1 ≤ 2 ^ (g + 6) := Nat.one_le_two_pow
  by_cases h : n - 1 = 0
  · rw [h]
    simp only [show Nat.log2 0 = 0 from rfl]
    constructor
    · intro _; omega
    · intro _; omega
  · have h2 := Nat.log2_lt (k := g + 6) h
    constructor
    · intro h3
      have := h2.mpr (by omega)
      omega
    · intro h3
      have := h2.mp (by omega)
      omega
theorem gN_cap {n mo g : Nat} (h : n ≤ mo) : n ≤ gcap mo g ↔ gN n ≤ g := by
  rw [← gN_iff]
  unfold gcap
  omega
theorem gN_y {mo g n : Nat} (h1 : n ≤ gcap mo g) (h2 : gcap mo g ≤ n) (h3 : n < mo) : max g (gN (n + 1)) = g + 1 := by
  have e : n = 64 * 2 ^ g := by unfold gcap at h1 h2; omega
  have a : gN (n + 1) ≤ g + 1 := (gN_iff _ _).mp (by rw [Nat.pow_succ]; have : 1 ≤ 2 ^ g := Nat.one_le_two_pow; omega)
  have b : ¬ gN (n + 1) ≤ g := fun h => by
    have := (gN_iff _ _).mpr h
    omega
  omega
theorem gN_n {mo g n : Nat} (h1 : n < gcap mo g) (h3 : n < mo) : max g (gN (n + 1)) = g := by
  have := (gN_cap (mo := mo) (g := g) (n := n + 1) (by omega)).mp (by omega)
  omega
/-- an array holds a list of numbers -/
def BR (f : Nat → Int32) (L : List Nat) : Prop := ∀ j, j < L.length → f j = nI (L.getD j 0)
