theorem dig40 : dig (4 + 0) 0 = [0, 0, 0, 0] := rfl
theorem BB_4 {f : Nat → Int32} {y0 y1 y2 y3 : Int32} (h0 : y0 &&& nI 255 = nI 0) (h1 : y1 &&& nI 255 = nI 0) (h2 : y2 &&& nI 255 = nI 0) (h3 : y3 &&& nI 255 = nI 0) : BB (upd (upd (upd (upd f 0 y0) (0 + 1) y1) (0 + 1 + 1) y2) (0 + 1 + 1 + 1) y3) (dig (4 + 0) 0) := by
  rw [dig40]
  exact BB_app (L := [0, 0, 0]) (BB_app (L := [0, 0]) (BB_app (L := [0]) (BB_app (L := []) (BB_nil f) h0 rfl) h1 rfl) h2 rfl) h3 rfl
theorem goBy_b {lim b : Nat} {zr : Run} {T : Iv × List Stq × Nat × Nat} {Q : List Nd × Nat × Nat} (hb : T.2.2.1 = b) (hQ : lrn lim (kAt zr.2.2.1) b (T.2.2.2 - 1) (topO zr.2.2.1 + 1) zr.2.1 = Q) : goBy lim zr T = (T.1, Q, b :: zr.2.2.1, T.2.1) := by
  unfold goBy
  rw [hb, hQ]
