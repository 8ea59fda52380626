set_option maxHeartbeats 4000000 in
set_option maxRecDepth 100000 in
theorem c_E_feed (l : Launch) (D : va_G) (ca : Nat → ClassId) (ae : Nat) (tx : Nat) (ic : Nat) (ox : Nat) (as_ : Nat) (am : Nat) (at_ : Nat) (iw : Nat) (ir : Nat) (ls_ : Nat) (lr : Nat) (qt : Nat) (gt : Nat) (ft : Nat → Int32) (Tx : List Nat) (b : Int32) (hBt : BR ft Tx) (hLt : Tx.length ≤ gcap 4000 gt) (sz : Nat) : Met l yX7_feed wsX7_feed { frames := 3, cells := grA 4000 gt Tx b - gt, slots := 20000 * (grA 4000 gt Tx b - gt), locals := 69 } (rwP D vwCl (ATy ca) [(ae, .inr (6, [.ref tx, .ref ic, .ref ox, .ref as_, .ref am, .ref at_, .ref iw, .ref ir, .long (lN ls_), .long (lN lr)])), (tx, .inr (0, [.int (nI 4000), .ref qt, .int (nI Tx.length)])), (qt, .inl (ca 0, gcap 4000 gt, .inl ft))] sz [.ref ae, .int b]) (va_Qi (fun (r : Int32) (u : Nat × (Nat → Int32)) => r = bI (addOk 4000 Tx b) ∧ BR u.2 (addL 4000 Tx b) ∧ (addL 4000 Tx b).length ≤ gcap 4000 (grA 4000 gt Tx b)) (bB D vwCl (fun (u : Nat × (Nat → Int32)) => [(ae, .inr (6, [.ref tx, .ref ic, .ref ox, .ref as_, .ref am, .ref at_, .ref iw, .ref ir, .long (lN ls_), .long (lN lr)])), (tx, .inr (0, [.int (nI 4000), .ref u.1, .int (nI (addL 4000 Tx b).length)])), (u.1, .inl (ca 0, gcap 4000 (grA 4000 gt Tx b), .inl u.2))]) (va_A [(ae, .inr (6, [.ref tx, .ref ic, .ref ox, .ref as_, .ref am, .ref at_, .ref iw, .ref ir, .long (lN ls_), .long (lN lr)])), (tx, .inr (0, [.int (nI 4000), .ref qt, .int (nI Tx.length)])), (qt, .inl (ca 0, gcap 4000 gt, .inl ft))] sz)) (va_A [(ae, .inr (6, [.ref tx, .ref ic, .ref ox, .ref as_, .ref am, .ref at_, .ref iw, .ref ir, .long (lN ls_), .long (lN lr)])), (tx, .inr (0, [.int (nI 4000), .ref qt, .int (nI Tx.length)])), (qt, .inl (ca 0, gcap 4000 gt, .inl ft))] sz)) (grA 4000 gt Tx b - gt) (20000 * (grA 4000 gt Tx b - gt)) (va_A [(ae, .inr (6, [.ref tx, .ref ic, .ref ox, .ref as_, .ref am, .ref at_, .ref iw, .ref ir, .long (lN ls_), .long (lN lr)])), (tx, .inr (0, [.int (nI 4000), .ref qt, .int (nI Tx.length)])), (qt, .inl (ca 0, gcap 4000 gt, .inl ft))] sz) := by
  refine rw_enter (Q := fun A => va_Qi (fun (r : Int32) (u : Nat × (Nat → Int32)) => r = bI (addOk 4000 Tx b) ∧ BR u.2 (addL 4000 Tx b) ∧ (addL 4000 Tx b).length ≤ gcap 4000 (grA 4000 gt Tx b)) (bB D vwCl (fun (u : Nat × (Nat → Int32)) => [(ae, .inr (6, [.ref tx, .ref ic, .ref ox, .ref as_, .ref am, .ref at_, .ref iw, .ref ir, .long (lN ls_), .long (lN lr)])), (tx, .inr (0, [.int (nI 4000), .ref u.1, .int (nI (addL 4000 Tx b).length)])), (u.1, .inl (ca 0, gcap 4000 (grA 4000 gt Tx b), .inl u.2))]) A) A) (by decide) rfl (Nat.le_of_ble_eq_true rfl) ?_
  intro p e s m below meth c ls A C hnm hK hN hP hD hA hl
  have hS : va_S A s.heap s.heap [] := va_S.rf
  obtain ⟨hx, hb, hr, hml, hown, hlocks, hts⟩ := C
  have hl : lv_has ls 2 [(0, .ref ae), (1, .int b)] := hl
  have hin_X7 : ∀ w ∈ wsX70, w ∈ wsX7_feed := by decide +kernel
  have hl_14 := hts (.fieldLink RX7 14 "EscapeCoder" "text" "LEscapeCoder$ByteRow;") (by decide +kernel)
  refine lv_aload_n hx hb dX7_feed_0 rfl (lv_at hl 0 rfl) ?_
  refine va_get (D := D) (ci := 6) (v := .ref tx) (C := RX7) (T := TX7) (N := 10) hx hb hts hin_X7 hown hK hP 0 rfl rfl 0 (by decide) hl_14 (fun _ h9 => h9) rfl dX7_feed_1 ?_
  refine lv_iload_n hx hb dX7_feed_4 rfl (lv_at hl 1 rfl) ?_
  refine rw_calli (wc := [(tx, .inr (0, [.int (nI 4000), .ref qt, .int (nI Tx.length)])), (qt, .inl (ca 0, gcap 4000 gt, .inl ft))]) (wr := [(ae, .inr (6, [.ref tx, .ref ic, .ref ox, .ref as_, .ref am, .ref at_, .ref iw, .ref ir, .long (lN ls_), .long (lN lr)]))]) hP hD hS hA [1, 2] [0] rfl rfl (by decide) (by decide) (va_runV (As := [.int b]) (rest := []) ⟨hx, hb, hml, hown, hts⟩ (c_BR_add l D ca tx qt 4000 gt ft Tx b (hBt) (hLt) (by decide) s.heap.size) (cwV 1 hts gX7_feed_X0_add rfl rfl rfl (by decide +kernel) ⟨Nat.le_of_ble_eq_true rfl, Nat.le_of_ble_eq_true rfl⟩) ⟨rwP_blind, va_recv hK hP (ci := 0) (q0 := 1) rfl rfl, rwP_at hK hN (hP.sub [1, 2] rfl) (hD.sub [1, 2] (by decide) rfl)⟩ rfl rfl hl.1 rfl (lv_room (Nat.le_of_ble_eq_true rfl)) dX7_feed_5 ⟨Nat.le_of_eq (Nat.zero_add _), Nat.le_of_eq (Nat.zero_add _)⟩) (fun r_1 u H locs hq hP hD hS => ?_)
  obtain ⟨q1_2, f1_3⟩ := u
  try dsimp only at hq
  have hP : va_P D vwCl [(ae, .inr (6, [.ref tx, .ref ic, .ref ox, .ref as_, .ref am, .ref at_, .ref iw, .ref ir, .long (lN ls_), .long (lN lr)])), (tx, .inr (0, [.int (nI 4000), .ref q1_2, .int (nI (addL 4000 Tx b).length)])), (q1_2, .inl (ca 0, gcap 4000 (grA 4000 gt Tx b), .inl f1_3))] H := hP
  have hD : va_D A [(ae, .inr (6, [.ref tx, .ref ic, .ref ox, .ref as_, .ref am, .ref at_, .ref iw, .ref ir, .long (lN ls_), .long (lN lr)])), (tx, .inr (0, [.int (nI 4000), .ref q1_2, .int (nI (addL 4000 Tx b).length)])), (q1_2, .inl (ca 0, gcap 4000 (grA 4000 gt Tx b), .inl f1_3))] := hD
  obtain ⟨hr0, hq2⟩ := hq
  subst hr0
  exact rw_zret (u := (q1_2, f1_3)) hx hb hr hlocks (bI_nar _) (⟨rfl, hq2⟩) (hP.sub [0, 1, 2] rfl) (hD.sub [0, 1, 2] (by decide) rfl) hS (Nat.le_of_eq (Nat.zero_add _)) (Nat.le_of_eq (Nat.zero_add _)) dX7_feed_8

set_option maxHeartbeats 4000000 in
set_option maxRecDepth 100000 in
theorem c_E_push (l : Launch) (D : va_G) (ca : Nat → ClassId) (ae : Nat) (tx : Nat) (ic : Nat) (ox : Nat) (as_ : Nat) (am : Nat) (at_ : Nat) (iw : Nat) (ir : Nat) (ls_ : Nat) (lr : Nat) (qi : Nat) (gi : Nat) (fi : Nat → Int32) (Cd : List Nat) (b : Int32) (hBc : BR fi Cd) (hLc : Cd.length ≤ gcap 8000 gi) (sz : Nat) : Met l yX7_push wsX7_push { frames := 3, cells := grA 8000 gi Cd b - gi, slots := 20000 * (grA 8000 gi Cd b - gi), locals := 69 } (rwP D vwCl (ATy ca) [(ae, .inr (6, [.ref tx, .ref ic, .ref ox, .ref as_, .ref am, .ref at_, .ref iw, .ref ir, .long (lN ls_), .long (lN lr)])), (ic, .inr (0, [.int (nI 8000), .ref qi, .int (nI Cd.length)])), (qi, .inl (ca 0, gcap 8000 gi, .inl fi))] sz [.ref ae, .int b]) (va_Qi (fun (r : Int32) (u : Nat × (Nat → Int32)) => r = bI (addOk 8000 Cd b) ∧ BR u.2 (addL 8000 Cd b) ∧ (addL 8000 Cd b).length ≤ gcap 8000 (grA 8000 gi Cd b)) (bB D vwCl (fun (u : Nat × (Nat → Int32)) => [(ae, .inr (6, [.ref tx, .ref ic, .ref ox, .ref as_, .ref am, .ref at_, .ref iw, .ref ir, .long (lN ls_), .long (lN lr)])), (ic, .inr (0, [.int (nI 8000), .ref u.1, .int (nI (addL 8000 Cd b).length)])), (u.1, .inl (ca 0, gcap 8000 (grA 8000 gi Cd b), .inl u.2))]) (va_A [(ae, .inr (6, [.ref tx, .ref ic, .ref ox, .ref as_, .ref am, .ref at_, .ref iw, .ref ir, .long (lN ls_), .long (lN lr)])), (ic, .inr (0, [.int (nI 8000), .ref qi, .int (nI Cd.length)])), (qi, .inl (ca 0, gcap 8000 gi, .inl fi))] sz)) (va_A [(ae, .inr (6, [.ref tx, .ref ic, .ref ox, .ref as_, .ref am, .ref at_, .ref iw, .ref ir, .long (lN ls_), .long (lN lr)])), (ic, .inr (0, [.int (nI 8000), .ref qi, .int (nI Cd.length)])), (qi, .inl (ca 0, gcap 8000 gi, .inl fi))] sz)) (grA 8000 gi Cd b - gi) (20000 * (grA 8000 gi Cd b - gi)) (va_A [(ae, .inr (6, [.ref tx, .ref ic, .ref ox, .ref as_, .ref am, .ref at_, .ref iw, .ref ir, .long (lN ls_), .long (lN lr)])), (ic, .inr (0, [.int (nI 8000), .ref qi, .int (nI Cd.length)])), (qi, .inl (ca 0, gcap 8000 gi, .inl fi))] sz) := by
  refine rw_enter (Q := fun A => va_Qi (fun (r : Int32) (u : Nat × (Nat → Int32)) => r = bI (addOk 8000 Cd b) ∧ BR u.2 (addL 8000 Cd b) ∧ (addL 8000 Cd b).length ≤ gcap 8000 (grA 8000 gi Cd b)) (bB D vwCl (fun (u : Nat × (Nat → Int32)) => [(ae, .inr (6, [.ref tx, .ref ic, .ref ox, .ref as_, .ref am, .ref at_, .ref iw, .ref ir, .long (lN ls_), .long (lN lr)])), (ic, .inr (0, [.int (nI 8000), .ref u.1, .int (nI (addL 8000 Cd b).length)])), (u.1, .inl (ca 0, gcap 8000 (grA 8000 gi Cd b), .inl u.2))]) A) A) (by decide) rfl (Nat.le_of_ble_eq_true rfl) ?_
  intro p e s m below meth c ls A C hnm hK hN hP hD hA hl
  have hS : va_S A s.heap s.heap [] := va_S.rf
  obtain ⟨hx, hb, hr, hml, hown, hlocks, hts⟩ := C
  have hl : lv_has ls 2 [(0, .ref ae), (1, .int b)] := hl
  have hin_X7 : ∀ w ∈ wsX70, w ∈ wsX7_push := by decide +kernel
  have hl_18 := hts (.fieldLink RX7 18 "EscapeCoder" "code" "LEscapeCoder$ByteRow;") (by decide +kernel)
  refine lv_aload_n hx hb dX7_push_0 rfl (lv_at hl 0 rfl) ?_
  refine va_get (D := D) (ci := 6) (v := .ref ic) (C := RX7) (T := TX7) (N := 10) hx hb hts hin_X7 hown hK hP 0 rfl rfl 1 (by decide) hl_18 (fun _ h9 => h9) rfl dX7_push_1 ?_
  refine lv_iload_n hx hb dX7_push_4 rfl (lv_at hl 1 rfl) ?_
  refine rw_calli (wc := [(ic, .inr (0, [.int (nI 8000), .ref qi, .int (nI Cd.length)])), (qi, .inl (ca 0, gcap 8000 gi, .inl fi))]) (wr := [(ae, .inr (6, [.ref tx, .ref ic, .ref ox, .ref as_, .ref am, .ref at_, .ref iw, .ref ir, .long (lN ls_), .long (lN lr)]))]) hP hD hS hA [1, 2] [0] rfl rfl (by decide) (by decide) (va_runV (As := [.int b]) (rest := []) ⟨hx, hb, hml, hown, hts⟩ (c_BR_add l D ca ic qi 8000 gi fi Cd b (hBc) (hLc) (by decide) s.heap.size) (cwV 1 hts gX7_push_X0_add rfl rfl rfl (by decide +kernel) ⟨Nat.le_of_ble_eq_true rfl, Nat.le_of_ble_eq_true rfl⟩) ⟨rwP_blind, va_recv hK hP (ci := 0) (q0 := 1) rfl rfl, rwP_at hK hN (hP.sub [1, 2] rfl) (hD.sub [1, 2] (by decide) rfl)⟩ rfl rfl hl.1 rfl (lv_room (Nat.le_of_ble_eq_true rfl)) dX7_push_5 ⟨Nat.le_of_eq (Nat.zero_add _), Nat.le_of_eq (Nat.zero_add _)⟩) (fun r_1 u H locs hq hP hD hS => ?_)
  obtain ⟨q1_2, f1_3⟩ := u
  try dsimp only at hq
  have hP : va_P D vwCl [(ae, .inr (6, [.ref tx, .ref ic, .ref ox, .ref as_, .ref am, .ref at_, .ref iw, .ref ir, .long (lN ls_), .long (lN lr)])), (ic, .inr (0, [.int (nI 8000), .ref q1_2, .int (nI (addL 8000 Cd b).length)])), (q1_2, .inl (ca 0, gcap 8000 (grA 8000 gi Cd b), .inl f1_3))] H := hP
  have hD : va_D A [(ae, .inr (6, [.ref tx, .ref ic, .ref ox, .ref as_, .ref am, .ref at_, .ref iw, .ref ir, .long (lN ls_), .long (lN lr)])), (ic, .inr (0, [.int (nI 8000), .ref q1_2, .int (nI (addL 8000 Cd b).length)])), (q1_2, .inl (ca 0, gcap 8000 (grA 8000 gi Cd b), .inl f1_3))] := hD
  obtain ⟨hr0, hq2⟩ := hq
  subst hr0
  exact rw_zret (u := (q1_2, f1_3)) hx hb hr hlocks (bI_nar _) (⟨rfl, hq2⟩) (hP.sub [0, 1, 2] rfl) (hD.sub [0, 1, 2] (by decide) rfl) hS (Nat.le_of_eq (Nat.zero_add _)) (Nat.le_of_eq (Nat.zero_add _)) dX7_push_8

set_option maxHeartbeats 4000000 in
set_option maxRecDepth 100000 in
theorem c_E_cut (l : Launch) (D : va_G) (ca : Nat → ClassId) (ae : Nat) (tx : Nat) (ic : Nat) (ox : Nat) (as_ : Nat) (am : Nat) (at_ : Nat) (iw : Nat) (ir : Nat) (ls_ : Nat) (lr : Nat) (qt : Nat) (gt : Nat) (ft : Nat → Int32) (Tx : List Nat) (n : Int32) (hBt : BR ft Tx) (hLt : Tx.length ≤ gcap 4000 gt) (sz : Nat) : Met l yX7_cut wsX7_cut { frames := 1, cells := 0, slots := 0, locals := 21 } (rwP D vwCl (ATy ca) [(ae, .inr (6, [.ref tx, .ref ic, .ref ox, .ref as_, .ref am, .ref at_, .ref iw, .ref ir, .long (lN ls_), .long (lN lr)])), (tx, .inr (0, [.int (nI 4000), .ref qt, .int (nI Tx.length)])), (qt, .inl (ca 0, gcap 4000 gt, .inl ft))] sz [.ref ae, .int n]) (va_Qi (fun (r : Int32) (u : Unit) => r = bI (cutOk Tx n)) (bB D vwCl (fun (u : Unit) => [(ae, .inr (6, [.ref tx, .ref ic, .ref ox, .ref as_, .ref am, .ref at_, .ref iw, .ref ir, .long (lN ls_), .long (lN lr)])), (tx, .inr (0, [.int (nI 4000), .ref qt, .int (nI (cutL Tx n).length)])), (qt, .inl (ca 0, gcap 4000 gt, .inl ft))]) (va_A [(ae, .inr (6, [.ref tx, .ref ic, .ref ox, .ref as_, .ref am, .ref at_, .ref iw, .ref ir, .long (lN ls_), .long (lN lr)])), (tx, .inr (0, [.int (nI 4000), .ref qt, .int (nI Tx.length)])), (qt, .inl (ca 0, gcap 4000 gt, .inl ft))] sz)) (va_A [(ae, .inr (6, [.ref tx, .ref ic, .ref ox, .ref as_, .ref am, .ref at_, .ref iw, .ref ir, .long (lN ls_), .long (lN lr)])), (tx, .inr (0, [.int (nI 4000), .ref qt, .int (nI Tx.length)])), (qt, .inl (ca 0, gcap 4000 gt, .inl ft))] sz)) 0 0 (va_A [(ae, .inr (6, [.ref tx, .ref ic, .ref ox, .ref as_, .ref am, .ref at_, .ref iw, .ref ir, .long (lN ls_), .long (lN lr)])), (tx, .inr (0, [.int (nI 4000), .ref qt, .int (nI Tx.length)])), (qt, .inl (ca 0, gcap 4000 gt, .inl ft))] sz) := by
  refine rw_enter (Q := fun A => va_Qi (fun (r : Int32) (u : Unit) => r = bI (cutOk Tx n)) (bB D vwCl (fun (u : Unit) => [(ae, .inr (6, [.ref tx, .ref ic, .ref ox, .ref as_, .ref am, .ref at_, .ref iw, .ref ir, .long (lN ls_), .long (lN lr)])), (tx, .inr (0, [.int (nI 4000), .ref qt, .int (nI (cutL Tx n).length)])), (qt, .inl (ca 0, gcap 4000 gt, .inl ft))]) A) A) (by decide) rfl (Nat.le_of_ble_eq_true rfl) ?_
  intro p e s m below meth c ls A C hnm hK hN hP hD hA hl
  have hS : va_S A s.heap s.heap [] := va_S.rf
  obtain ⟨hx, hb, hr, hml, hown, hlocks, hts⟩ := C
  have hl : lv_has ls 2 [(0, .ref ae), (1, .int n)] := hl
  have hin_X7 : ∀ w ∈ wsX70, w ∈ wsX7_cut := by decide +kernel
  have hl_14 := hts (.fieldLink RX7 14 "EscapeCoder" "text" "LEscapeCoder$ByteRow;") (by decide +kernel)
  refine lv_aload_n hx hb dX7_cut_0 rfl (lv_at hl 0 rfl) ?_
  refine va_get (D := D) (ci := 6) (v := .ref tx) (C := RX7) (T := TX7) (N := 10) hx hb hts hin_X7 hown hK hP 0 rfl rfl 0 (by decide) hl_14 (fun _ h9 => h9) rfl dX7_cut_1 ?_
  refine lv_iload_n hx hb dX7_cut_4 rfl (lv_at hl 1 rfl) ?_
  refine rw_calli (wc := [(tx, .inr (0, [.int (nI 4000), .ref qt, .int (nI Tx.length)])), (qt, .inl (ca 0, gcap 4000 gt, .inl ft))]) (wr := [(ae, .inr (6, [.ref tx, .ref ic, .ref ox, .ref as_, .ref am, .ref at_, .ref iw, .ref ir, .long (lN ls_), .long (lN lr)]))]) hP hD hS hA [1, 2] [0] rfl rfl (by decide) (by decide) (va_runV (As := [.int n]) (rest := []) ⟨hx, hb, hml, hown, hts⟩ (c_BR_shorten l D ca tx qt 4000 gt ft Tx n (hBt) (hLt) (by decide) s.heap.size) (cwV 1 hts gX7_cut_X0_shorten rfl rfl rfl (by decide +kernel) ⟨Nat.le_of_ble_eq_true rfl, Nat.le_of_ble_eq_true rfl⟩) ⟨rwP_blind, va_recv hK hP (ci := 0) (q0 := 1) rfl rfl, rwP_at hK hN (hP.sub [1, 2] rfl) (hD.sub [1, 2] (by decide) rfl)⟩ rfl rfl hl.1 rfl (lv_room (Nat.le_of_ble_eq_true rfl)) dX7_cut_5 ⟨Nat.le_of_ble_eq_true rfl, Nat.le_of_ble_eq_true rfl⟩) (fun r_1 u H locs hq hP hD hS => ?_)
  try dsimp only at hq
  have hP : va_P D vwCl [(ae, .inr (6, [.ref tx, .ref ic, .ref ox, .ref as_, .ref am, .ref at_, .ref iw, .ref ir, .long (lN ls_), .long (lN lr)])), (tx, .inr (0, [.int (nI 4000), .ref qt, .int (nI (cutL Tx n).length)])), (qt, .inl (ca 0, gcap 4000 gt, .inl ft))] H := hP
  have hD : va_D A [(ae, .inr (6, [.ref tx, .ref ic, .ref ox, .ref as_, .ref am, .ref at_, .ref iw, .ref ir, .long (lN ls_), .long (lN lr)])), (tx, .inr (0, [.int (nI 4000), .ref qt, .int (nI (cutL Tx n).length)])), (qt, .inl (ca 0, gcap 4000 gt, .inl ft))] := hD
  subst hq
  exact rw_zret (u := ()) hx hb hr hlocks (bI_nar _) (rfl) (hP.sub [0, 1, 2] rfl) (hD.sub [0, 1, 2] (by decide) rfl) hS (Nat.le_refl _) (Nat.le_refl _) dX7_cut_8

set_option maxHeartbeats 4000000 in
set_option maxRecDepth 100000 in
theorem c_E_keep (l : Launch) (D : va_G) (ca : Nat → ClassId) (ae : Nat) (tx : Nat) (ic : Nat) (ox : Nat) (as_ : Nat) (am : Nat) (at_ : Nat) (iw : Nat) (ir : Nat) (ls_ : Nat) (lr : Nat) (qi : Nat) (gi : Nat) (fi : Nat → Int32) (Cd : List Nat) (n : Int32) (hBc : BR fi Cd) (hLc : Cd.length ≤ gcap 8000 gi) (sz : Nat) : Met l yX7_keep wsX7_keep { frames := 1, cells := 0, slots := 0, locals := 21 } (rwP D vwCl (ATy ca) [(ae, .inr (6, [.ref tx, .ref ic, .ref ox, .ref as_, .ref am, .ref at_, .ref iw, .ref ir, .long (lN ls_), .long (lN lr)])), (ic, .inr (0, [.int (nI 8000), .ref qi, .int (nI Cd.length)])), (qi, .inl (ca 0, gcap 8000 gi, .inl fi))] sz [.ref ae, .int n]) (va_Qi (fun (r : Int32) (u : Unit) => r = bI (cutOk Cd n)) (bB D vwCl (fun (u : Unit) => [(ae, .inr (6, [.ref tx, .ref ic, .ref ox, .ref as_, .ref am, .ref at_, .ref iw, .ref ir, .long (lN ls_), .long (lN lr)])), (ic, .inr (0, [.int (nI 8000), .ref qi, .int (nI (cutL Cd n).length)])), (qi, .inl (ca 0, gcap 8000 gi, .inl fi))]) (va_A [(ae, .inr (6, [.ref tx, .ref ic, .ref ox, .ref as_, .ref am, .ref at_, .ref iw, .ref ir, .long (lN ls_), .long (lN lr)])), (ic, .inr (0, [.int (nI 8000), .ref qi, .int (nI Cd.length)])), (qi, .inl (ca 0, gcap 8000 gi, .inl fi))] sz)) (va_A [(ae, .inr (6, [.ref tx, .ref ic, .ref ox, .ref as_, .ref am, .ref at_, .ref iw, .ref ir, .long (lN ls_), .long (lN lr)])), (ic, .inr (0, [.int (nI 8000), .ref qi, .int (nI Cd.length)])), (qi, .inl (ca 0, gcap 8000 gi, .inl fi))] sz)) 0 0 (va_A [(ae, .inr (6, [.ref tx, .ref ic, .ref ox, .ref as_, .ref am, .ref at_, .ref iw, .ref ir, .long (lN ls_), .long (lN lr)])), (ic, .inr (0, [.int (nI 8000), .ref qi, .int (nI Cd.length)])), (qi, .inl (ca 0, gcap 8000 gi, .inl fi))] sz) := by
  refine rw_enter (Q := fun A => va_Qi (fun (r : Int32) (u : Unit) => r = bI (cutOk Cd n)) (bB D vwCl (fun (u : Unit) => [(ae, .inr (6, [.ref tx, .ref ic, .ref ox, .ref as_, .ref am, .ref at_, .ref iw, .ref ir, .long (lN ls_), .long (lN lr)])), (ic, .inr (0, [.int (nI 8000), .ref qi, .int (nI (cutL Cd n).length)])), (qi, .inl (ca 0, gcap 8000 gi, .inl fi))]) A) A) (by decide) rfl (Nat.le_of_ble_eq_true rfl) ?_
  intro p e s m below meth c ls A C hnm hK hN hP hD hA hl
  have hS : va_S A s.heap s.heap [] := va_S.rf
  obtain ⟨hx, hb, hr, hml, hown, hlocks, hts⟩ := C
  have hl : lv_has ls 2 [(0, .ref ae), (1, .int n)] := hl
  have hin_X7 : ∀ w ∈ wsX70, w ∈ wsX7_keep := by decide +kernel
  have hl_18 := hts (.fieldLink RX7 18 "EscapeCoder" "code" "LEscapeCoder$ByteRow;") (by decide +kernel)
  refine lv_aload_n hx hb dX7_keep_0 rfl (lv_at hl 0 rfl) ?_
  refine va_get (D := D) (ci := 6) (v := .ref ic) (C := RX7) (T := TX7) (N := 10) hx hb hts hin_X7 hown hK hP 0 rfl rfl 1 (by decide) hl_18 (fun _ h9 => h9) rfl dX7_keep_1 ?_
  refine lv_iload_n hx hb dX7_keep_4 rfl (lv_at hl 1 rfl) ?_
  refine rw_calli (wc := [(ic, .inr (0, [.int (nI 8000), .ref qi, .int (nI Cd.length)])), (qi, .inl (ca 0, gcap 8000 gi, .inl fi))]) (wr := [(ae, .inr (6, [.ref tx, .ref ic, .ref ox, .ref as_, .ref am, .ref at_, .ref iw, .ref ir, .long (lN ls_), .long (lN lr)]))]) hP hD hS hA [1, 2] [0] rfl rfl (by decide) (by decide) (va_runV (As := [.int n]) (rest := []) ⟨hx, hb, hml, hown, hts⟩ (c_BR_shorten l D ca ic qi 8000 gi fi Cd n (hBc) (hLc) (by decide) s.heap.size) (cwV 1 hts gX7_keep_X0_shorten rfl rfl rfl (by decide +kernel) ⟨Nat.le_of_ble_eq_true rfl, Nat.le_of_ble_eq_true rfl⟩) ⟨rwP_blind, va_recv hK hP (ci := 0) (q0 := 1) rfl rfl, rwP_at hK hN (hP.sub [1, 2] rfl) (hD.sub [1, 2] (by decide) rfl)⟩ rfl rfl hl.1 rfl (lv_room (Nat.le_of_ble_eq_true rfl)) dX7_keep_5 ⟨Nat.le_of_ble_eq_true rfl, Nat.le_of_ble_eq_true rfl⟩) (fun r_1 u H locs hq hP hD hS => ?_)
  try dsimp only at hq
  have hP : va_P D vwCl [(ae, .inr (6, [.ref tx, .ref ic, .ref ox, .ref as_, .ref am, .ref at_, .ref iw, .ref ir, .long (lN ls_), .long (lN lr)])), (ic, .inr (0, [.int (nI 8000), .ref qi, .int (nI (cutL Cd n).length)])), (qi, .inl (ca 0, gcap 8000 gi, .inl fi))] H := hP
  have hD : va_D A [(ae, .inr (6, [.ref tx, .ref ic, .ref ox, .ref as_, .ref am, .ref at_, .ref iw, .ref ir, .long (lN ls_), .long (lN lr)])), (ic, .inr (0, [.int (nI 8000), .ref qi, .int (nI (cutL Cd n).length)])), (qi, .inl (ca 0, gcap 8000 gi, .inl fi))] := hD
  subst hq
  exact rw_zret (u := ()) hx hb hr hlocks (bI_nar _) (rfl) (hP.sub [0, 1, 2] rfl) (hD.sub [0, 1, 2] (by decide) rfl) hS (Nat.le_refl _) (Nat.le_refl _) dX7_keep_8

set_option maxHeartbeats 4000000 in
set_option maxRecDepth 100000 in
theorem c_E_change (l : Launch) (D : va_G) (ca : Nat → ClassId) (ae : Nat) (tx : Nat) (ic : Nat) (ox : Nat) (as_ : Nat) (am : Nat) (at_ : Nat) (iw : Nat) (ir : Nat) (ls_ : Nat) (lr : Nat) (qi : Nat) (gi : Nat) (fi : Nat → Int32) (Cd : List Nat) (i : Int32) (b : Int32) (hBc : BR fi Cd) (hLc : Cd.length ≤ gcap 8000 gi) (sz : Nat) : Met l yX7_change wsX7_change { frames := 2, cells := 0, slots := 0, locals := 42 } (rwP D vwCl (ATy ca) [(ae, .inr (6, [.ref tx, .ref ic, .ref ox, .ref as_, .ref am, .ref at_, .ref iw, .ref ir, .long (lN ls_), .long (lN lr)])), (ic, .inr (0, [.int (nI 8000), .ref qi, .int (nI Cd.length)])), (qi, .inl (ca 0, gcap 8000 gi, .inl fi))] sz [.ref ae, .int i, .int b]) (va_Qi (fun (r : Int32) (u : (Nat → Int32)) => r = bI (putOk Cd i b) ∧ BR u (putL Cd i b)) (bB D vwCl (fun (u : (Nat → Int32)) => [(ae, .inr (6, [.ref tx, .ref ic, .ref ox, .ref as_, .ref am, .ref at_, .ref iw, .ref ir, .long (lN ls_), .long (lN lr)])), (ic, .inr (0, [.int (nI 8000), .ref qi, .int (nI (putL Cd i b).length)])), (qi, .inl (ca 0, gcap 8000 gi, .inl u))]) (va_A [(ae, .inr (6, [.ref tx, .ref ic, .ref ox, .ref as_, .ref am, .ref at_, .ref iw, .ref ir, .long (lN ls_), .long (lN lr)])), (ic, .inr (0, [.int (nI 8000), .ref qi, .int (nI Cd.length)])), (qi, .inl (ca 0, gcap 8000 gi, .inl fi))] sz)) (va_A [(ae, .inr (6, [.ref tx, .ref ic, .ref ox, .ref as_, .ref am, .ref at_, .ref iw, .ref ir, .long (lN ls_), .long (lN lr)])), (ic, .inr (0, [.int (nI 8000), .ref qi, .int (nI Cd.length)])), (qi, .inl (ca 0, gcap 8000 gi, .inl fi))] sz)) 0 0 (va_A [(ae, .inr (6, [.ref tx, .ref ic, .ref ox, .ref as_, .ref am, .ref at_, .ref iw, .ref ir, .long (lN ls_), .long (lN lr)])), (ic, .inr (0, [.int (nI 8000), .ref qi, .int (nI Cd.length)])), (qi, .inl (ca 0, gcap 8000 gi, .inl fi))] sz) := by
  refine rw_enter (Q := fun A => va_Qi (fun (r : Int32) (u : (Nat → Int32)) => r = bI (putOk Cd i b) ∧ BR u (putL Cd i b)) (bB D vwCl (fun (u : (Nat → Int32)) => [(ae, .inr (6, [.ref tx, .ref ic, .ref ox, .ref as_, .ref am, .ref at_, .ref iw, .ref ir, .long (lN ls_), .long (lN lr)])), (ic, .inr (0, [.int (nI 8000), .ref qi, .int (nI (putL Cd i b).length)])), (qi, .inl (ca 0, gcap 8000 gi, .inl u))]) A) A) (by decide) rfl (Nat.le_of_ble_eq_true rfl) ?_
  intro p e s m below meth c ls A C hnm hK hN hP hD hA hl
  have hS : va_S A s.heap s.heap [] := va_S.rf
  obtain ⟨hx, hb, hr, hml, hown, hlocks, hts⟩ := C
  have hl : lv_has ls 3 [(0, .ref ae), (1, .int i), (2, .int b)] := hl
  have hin_X7 : ∀ w ∈ wsX70, w ∈ wsX7_change := by decide +kernel
  have hl_18 := hts (.fieldLink RX7 18 "EscapeCoder" "code" "LEscapeCoder$ByteRow;") (by decide +kernel)
  refine lv_aload_n hx hb dX7_change_0 rfl (lv_at hl 0 rfl) ?_
  refine va_get (D := D) (ci := 6) (v := .ref ic) (C := RX7) (T := TX7) (N := 10) hx hb hts hin_X7 hown hK hP 0 rfl rfl 1 (by decide) hl_18 (fun _ h9 => h9) rfl dX7_change_1 ?_
  refine lv_iload_n hx hb dX7_change_4 rfl (lv_at hl 1 rfl) ?_
  refine lv_iload_n hx hb dX7_change_5 rfl (lv_at hl 2 rfl) ?_
  refine rw_calli (wc := [(ic, .inr (0, [.int (nI 8000), .ref qi, .int (nI Cd.length)])), (qi, .inl (ca 0, gcap 8000 gi, .inl fi))]) (wr := [(ae, .inr (6, [.ref tx, .ref ic, .ref ox, .ref as_, .ref am, .ref at_, .ref iw, .ref ir, .long (lN ls_), .long (lN lr)]))]) hP hD hS hA [1, 2] [0] rfl rfl (by decide) (by decide) (va_runV (As := [.int i, .int b]) (rest := []) ⟨hx, hb, hml, hown, hts⟩ (c_BR_put l D ca ic qi 8000 gi fi Cd i b (hBc) (hLc) (by decide) s.heap.size) (cwV 2 hts gX7_change_X0_put rfl rfl rfl (by decide +kernel) ⟨Nat.le_of_ble_eq_true rfl, Nat.le_of_ble_eq_true rfl⟩) ⟨rwP_blind, va_recv hK hP (ci := 0) (q0 := 1) rfl rfl, rwP_at hK hN (hP.sub [1, 2] rfl) (hD.sub [1, 2] (by decide) rfl)⟩ rfl rfl hl.1 rfl (lv_room (Nat.le_of_ble_eq_true rfl)) dX7_change_6 ⟨Nat.le_of_ble_eq_true rfl, Nat.le_of_ble_eq_true rfl⟩) (fun r_1 u H locs hq hP hD hS => ?_)
  obtain ⟨f1_2, rfl⟩ : ∃ z, z = u := ⟨_, rfl⟩
  try dsimp only at hq
  have hP : va_P D vwCl [(ae, .inr (6, [.ref tx, .ref ic, .ref ox, .ref as_, .ref am, .ref at_, .ref iw, .ref ir, .long (lN ls_), .long (lN lr)])), (ic, .inr (0, [.int (nI 8000), .ref qi, .int (nI (putL Cd i b).length)])), (qi, .inl (ca 0, gcap 8000 gi, .inl f1_2))] H := hP
  have hD : va_D A [(ae, .inr (6, [.ref tx, .ref ic, .ref ox, .ref as_, .ref am, .ref at_, .ref iw, .ref ir, .long (lN ls_), .long (lN lr)])), (ic, .inr (0, [.int (nI 8000), .ref qi, .int (nI (putL Cd i b).length)])), (qi, .inl (ca 0, gcap 8000 gi, .inl f1_2))] := hD
  obtain ⟨hr0, hq2⟩ := hq
  subst hr0
  exact rw_zret (u := f1_2) hx hb hr hlocks (bI_nar _) (⟨rfl, hq2⟩) (hP.sub [0, 1, 2] rfl) (hD.sub [0, 1, 2] (by decide) rfl) hS (Nat.le_refl _) (Nat.le_refl _) dX7_change_9

set_option maxHeartbeats 4000000 in
set_option maxRecDepth 100000 in
theorem c_E_step (l : Launch) (D : va_G) (ca : Nat → ClassId) (ae : Nat) (tx : Nat) (ic : Nat) (ox : Nat) (as_ : Nat) (am : Nat) (at_ : Nat) (iw : Nat) (ir : Nat) (ls_ : Nat) (lr : Nat) (qs : Nat) (gs : Nat) (sf : Nat → Int64) (st : List Stq) (i : Int32) (w : Int32) (hBs : SR sf st) (hLs : st.length ≤ gcap 20000 gs) (hms : st.length < 20000) (hss : ∀ x ∈ st, okS x) : Met l yX7_step wsX7_step { frames := 1, cells := 0, slots := 0, locals := 24 } (roP D vwCl (ATy ca) [(ae, .inr (6, [.ref tx, .ref ic, .ref ox, .ref as_, .ref am, .ref at_, .ref iw, .ref ir, .long (lN ls_), .long (lN lr)])), (as_, .inr (4, [.ref qs, .int (nI st.length), .int (nI (escN st))])), (qs, .inl (ca 1, gcap 20000 gs, .inr (.inl sf)))] [.ref ae, .int i, .int w]) (vp_Si (fun r : Int32 => r = stepI st i w)) 0 0 (fun _ => False) := by
  refine ro_enter (by decide) rfl (Nat.le_of_ble_eq_true rfl) ?_
  intro p e s m below meth c ls C hK hN hP hl
  obtain ⟨hx, hb, hr, hml, hown, hlocks, hts⟩ := C
  have hl : lv_has ls 3 [(0, .ref ae), (1, .int i), (2, .int w)] := hl
  have hin_X7 : ∀ w ∈ wsX70, w ∈ wsX7_step := by decide +kernel
  have hl_27 := hts (.fieldLink RX7 27 "EscapeCoder" "steps" "LEscapeCoder$StepRow;") (by decide +kernel)
  refine lv_aload_n hx hb dX7_step_0 rfl (lv_at hl 0 rfl) ?_
  refine va_get (D := D) (ci := 6) (v := .ref as_) (C := RX7) (T := TX7) (N := 10) hx hb hts hin_X7 hown hK hP 0 rfl rfl 3 (by decide) hl_27 (fun _ h9 => h9) rfl dX7_step_1 ?_
  refine lv_iload_n hx hb dX7_step_4 rfl (lv_at hl 1 rfl) ?_
  refine lv_iload_n hx hb dX7_step_5 rfl (lv_at hl 2 rfl) ?_
  refine vp_callSi (va_Run.run (va_runV (As := [.int i, .int w]) (rest := []) ⟨hx, hb, hml, hown, hts⟩ (c_SR_answer l D ca as_ qs gs sf st i w (hBs) (hLs) (hms) (hss)) (cwV 2 hts gX7_step_X5_answer rfl rfl rfl (by decide +kernel) ⟨Nat.le_of_ble_eq_true rfl, Nat.le_of_ble_eq_true rfl⟩) ⟨roP_blind, va_recv hK hP (ci := 4) (q0 := 1) rfl rfl, roP_at hK hN (hP.sub [1, 2] rfl)⟩ rfl rfl hl.1 rfl (lv_room (Nat.le_of_ble_eq_true rfl)) dX7_step_6 ⟨Nat.le_of_ble_eq_true rfl, Nat.le_of_ble_eq_true rfl⟩)) (fun r_1 hq => ?_)
  exact ro_iret hx hb hr hlocks (hq) dX7_step_9

set_option maxHeartbeats 4000000 in
set_option maxRecDepth 100000 in
theorem c_E_row0 (l : Launch) (D : va_G) (ca : Nat → ClassId) (ae : Nat) (tx : Nat) (ic : Nat) (ox : Nat) (as_ : Nat) (am : Nat) (at_ : Nat) (iw : Nat) (ir : Nat) (ls_ : Nat) (lr : Nat) (w : Int32) (hw : w.toInt = 0) : Met l yX7_rowOf wsX7_rowOf { frames := 0, cells := 0, slots := 0, locals := 0 } (roP D vwCl (ATy ca) [(ae, .inr (6, [.ref tx, .ref ic, .ref ox, .ref as_, .ref am, .ref at_, .ref iw, .ref ir, .long (lN ls_), .long (lN lr)]))] [.ref ae, .int w]) (va_Sq (fun r : Option Nat => r = some tx)) 0 0 (fun _ => False) := by
  refine ro_enter (by decide) rfl (Nat.le_of_ble_eq_true rfl) ?_
  intro p e s m below meth c ls C hK hN hP hl
  obtain ⟨hx, hb, hr, hml, hown, hlocks, hts⟩ := C
  have hl : lv_has ls 2 [(0, .ref ae), (1, .int w)] := hl
  have hin_X7 : ∀ w ∈ wsX70, w ∈ wsX7_rowOf := by decide +kernel
  have hl_14 := hts (.fieldLink RX7 14 "EscapeCoder" "text" "LEscapeCoder$ByteRow;") (by decide +kernel)
  refine lv_iload_n hx hb dX7_rowOf_0 rfl (lv_at hl 1 rfl) ?_
  refine lv_tableIn (tgt := 28) hx hb dX7_rowOf_1 (by rw [hw]; decide) (by rw [hw]; decide) (by rw [hw]; rfl) (by decide) ?_
  refine lv_aload_n hx hb dX7_rowOf_28 rfl (lv_at hl 0 rfl) ?_
  refine va_get (D := D) (ci := 6) (v := .ref tx) (C := RX7) (T := TX7) (N := 10) hx hb hts hin_X7 hown hK hP 0 rfl rfl 0 (by decide) hl_14 (fun _ h9 => h9) rfl dX7_rowOf_29 ?_
  exact ro_aret (some tx) hx hb hr (Or.inl ⟨_, rfl⟩) hlocks (rfl) dX7_rowOf_32

set_option maxHeartbeats 4000000 in
set_option maxRecDepth 100000 in
theorem c_E_row1 (l : Launch) (D : va_G) (ca : Nat → ClassId) (ae : Nat) (tx : Nat) (ic : Nat) (ox : Nat) (as_ : Nat) (am : Nat) (at_ : Nat) (iw : Nat) (ir : Nat) (ls_ : Nat) (lr : Nat) (w : Int32) (hw : w.toInt = 1) : Met l yX7_rowOf wsX7_rowOf { frames := 0, cells := 0, slots := 0, locals := 0 } (roP D vwCl (ATy ca) [(ae, .inr (6, [.ref tx, .ref ic, .ref ox, .ref as_, .ref am, .ref at_, .ref iw, .ref ir, .long (lN ls_), .long (lN lr)]))] [.ref ae, .int w]) (va_Sq (fun r : Option Nat => r = some ic)) 0 0 (fun _ => False) := by
  refine ro_enter (by decide) rfl (Nat.le_of_ble_eq_true rfl) ?_
  intro p e s m below meth c ls C hK hN hP hl
  obtain ⟨hx, hb, hr, hml, hown, hlocks, hts⟩ := C
  have hl : lv_has ls 2 [(0, .ref ae), (1, .int w)] := hl
  have hin_X7 : ∀ w ∈ wsX70, w ∈ wsX7_rowOf := by decide +kernel
  have hl_18 := hts (.fieldLink RX7 18 "EscapeCoder" "code" "LEscapeCoder$ByteRow;") (by decide +kernel)
  refine lv_iload_n hx hb dX7_rowOf_0 rfl (lv_at hl 1 rfl) ?_
  refine lv_tableIn (tgt := 33) hx hb dX7_rowOf_1 (by rw [hw]; decide) (by rw [hw]; decide) (by rw [hw]; rfl) (by decide) ?_
  refine lv_aload_n hx hb dX7_rowOf_33 rfl (lv_at hl 0 rfl) ?_
  refine va_get (D := D) (ci := 6) (v := .ref ic) (C := RX7) (T := TX7) (N := 10) hx hb hts hin_X7 hown hK hP 0 rfl rfl 1 (by decide) hl_18 (fun _ h9 => h9) rfl dX7_rowOf_34 ?_
  exact ro_aret (some ic) hx hb hr (Or.inl ⟨_, rfl⟩) hlocks (rfl) dX7_rowOf_37

set_option maxHeartbeats 4000000 in
set_option maxRecDepth 100000 in
theorem c_E_row2 (l : Launch) (D : va_G) (ca : Nat → ClassId) (ae : Nat) (tx : Nat) (ic : Nat) (ox : Nat) (as_ : Nat) (am : Nat) (at_ : Nat) (iw : Nat) (ir : Nat) (ls_ : Nat) (lr : Nat) (w : Int32) (hw : w.toInt = 2) : Met l yX7_rowOf wsX7_rowOf { frames := 0, cells := 0, slots := 0, locals := 0 } (roP D vwCl (ATy ca) [(ae, .inr (6, [.ref tx, .ref ic, .ref ox, .ref as_, .ref am, .ref at_, .ref iw, .ref ir, .long (lN ls_), .long (lN lr)]))] [.ref ae, .int w]) (va_Sq (fun r : Option Nat => r = some ox)) 0 0 (fun _ => False) := by
  refine ro_enter (by decide) rfl (Nat.le_of_ble_eq_true rfl) ?_
  intro p e s m below meth c ls C hK hN hP hl
  obtain ⟨hx, hb, hr, hml, hown, hlocks, hts⟩ := C
  have hl : lv_has ls 2 [(0, .ref ae), (1, .int w)] := hl
  have hin_X7 : ∀ w ∈ wsX70, w ∈ wsX7_rowOf := by decide +kernel
  have hl_21 := hts (.fieldLink RX7 21 "EscapeCoder" "output" "LEscapeCoder$ByteRow;") (by decide +kernel)
  refine lv_iload_n hx hb dX7_rowOf_0 rfl (lv_at hl 1 rfl) ?_
  refine lv_tableIn (tgt := 38) hx hb dX7_rowOf_1 (by rw [hw]; decide) (by rw [hw]; decide) (by rw [hw]; rfl) (by decide) ?_
  refine lv_aload_n hx hb dX7_rowOf_38 rfl (lv_at hl 0 rfl) ?_
  refine va_get (D := D) (ci := 6) (v := .ref ox) (C := RX7) (T := TX7) (N := 10) hx hb hts hin_X7 hown hK hP 0 rfl rfl 2 (by decide) hl_21 (fun _ h9 => h9) rfl dX7_rowOf_39 ?_
  exact ro_aret (some ox) hx hb hr (Or.inl ⟨_, rfl⟩) hlocks (rfl) dX7_rowOf_42

set_option maxHeartbeats 4000000 in
set_option maxRecDepth 100000 in
theorem c_E_rown (l : Launch) (D : va_G) (ca : Nat → ClassId) (ae : Nat) (tx : Nat) (ic : Nat) (ox : Nat) (as_ : Nat) (am : Nat) (at_ : Nat) (iw : Nat) (ir : Nat) (ls_ : Nat) (lr : Nat) (w : Int32) (hw : w.toInt < 0 ∨ 2 < w.toInt) : Met l yX7_rowOf wsX7_rowOf { frames := 0, cells := 0, slots := 0, locals := 0 } (roP D vwCl (ATy ca) [(ae, .inr (6, [.ref tx, .ref ic, .ref ox, .ref as_, .ref am, .ref at_, .ref iw, .ref ir, .long (lN ls_), .long (lN lr)]))] [.ref ae, .int w]) (va_Sq (fun r : Option Nat => r = none)) 0 0 (fun _ => False) := by
  refine ro_enter (by decide) rfl (Nat.le_of_ble_eq_true rfl) ?_
  intro p e s m below meth c ls C hK hN hP hl
  obtain ⟨hx, hb, hr, hml, hown, hlocks, hts⟩ := C
  have hl : lv_has ls 2 [(0, .ref ae), (1, .int w)] := hl
  refine lv_iload_n hx hb dX7_rowOf_0 rfl (lv_at hl 1 rfl) ?_
  refine lv_tableOut (tgt := 43) hx hb dX7_rowOf_1 hw (by decide) ?_
  refine lv_null hx hb dX7_rowOf_43 ?_
  exact ro_aret (none) hx hb hr (Or.inl ⟨_, rfl⟩) hlocks (rfl) dX7_rowOf_44

set_option maxHeartbeats 4000000 in
set_option maxRecDepth 100000 in
theorem c_E_at (l : Launch) (D : va_G) (ca : Nat → ClassId) (ae : Nat) (tx : Nat) (ic : Nat) (ox : Nat) (as_ : Nat) (am : Nat) (at_ : Nat) (iw : Nat) (ir : Nat) (ls_ : Nat) (lr : Nat) (qt : Nat) (gt : Nat) (ft : Nat → Int32) (Tx : List Nat) (qi : Nat) (gi : Nat) (fi : Nat → Int32) (Cd : List Nat) (qu : Nat) (gu : Nat) (fu : Nat → Int32) (Ox : List Nat) (w : Int32) (i : Int32) (hBt : BR ft Tx) (hLt : Tx.length ≤ gcap 4000 gt) (hBc : BR fi Cd) (hLc : Cd.length ≤ gcap 8000 gi) (hBo : BR fu Ox) (hLo : Ox.length ≤ gcap 4000 gu) : Met l yX7_at wsX7_at { frames := 1, cells := 0, slots := 0, locals := 21 } (roP D vwCl (ATy ca) [(ae, .inr (6, [.ref tx, .ref ic, .ref ox, .ref as_, .ref am, .ref at_, .ref iw, .ref ir, .long (lN ls_), .long (lN lr)])), (tx, .inr (0, [.int (nI 4000), .ref qt, .int (nI Tx.length)])), (qt, .inl (ca 0, gcap 4000 gt, .inl ft)), (ic, .inr (0, [.int (nI 8000), .ref qi, .int (nI Cd.length)])), (qi, .inl (ca 0, gcap 8000 gi, .inl fi)), (ox, .inr (0, [.int (nI 4000), .ref qu, .int (nI Ox.length)])), (qu, .inl (ca 0, gcap 4000 gu, .inl fu))] [.ref ae, .int w, .int i]) (vp_Si (fun r : Int32 => r = atW Tx Cd Ox w i)) 0 0 (fun _ => False) := by
  refine ro_enter (by decide) rfl (Nat.le_of_ble_eq_true rfl) ?_
  intro p e s m below meth c ls C hK hN hP hl
  obtain ⟨hx, hb, hr, hml, hown, hlocks, hts⟩ := C
  have hl : lv_has ls 4 [(0, .ref ae), (1, .int w), (2, .int i)] := hl
  by_cases e0 : w.toInt = 0
  · refine lv_aload_n hx hb dX7_at_0 rfl (lv_at hl 0 rfl) ?_
    refine lv_iload_n hx hb dX7_at_1 rfl (lv_at hl 1 rfl) ?_
    refine va_csq (va_Run.run (va_runV (As := [.int w]) (rest := []) ⟨hx, hb, hml, hown, hts⟩ (c_E_row0 l D ca ae tx ic ox as_ am at_ iw ir ls_ lr w (e0)) (cwV 1 hts gX7_at_X7_rowOf rfl rfl rfl (by decide +kernel) ⟨Nat.le_of_ble_eq_true rfl, Nat.le_of_ble_eq_true rfl⟩) ⟨roP_blind, va_recv hK hP (ci := 6) (q0 := 0) rfl rfl, roP_at hK hN (hP.sub [0] rfl)⟩ rfl rfl hl.1 rfl (lv_room (Nat.le_of_ble_eq_true rfl)) dX7_at_2 ⟨Nat.le_of_ble_eq_true rfl, Nat.le_of_ble_eq_true rfl⟩)) (fun r_1 hq => ?_)
    subst hq
    refine W.eq (g2 := F0 m 5 ls [.ref tx]) rfl ?_
    refine lv_astore_n (lv' := [(3, .ref tx), (0, .ref ae), (1, .int w), (2, .int i)]) hx hb dX7_at_5 rfl hl (by decide) rfl (fun ls hl => ?_)
    refine lv_aload_n hx hb dX7_at_6 rfl (lv_at hl 0 rfl) ?_
    refine lv_ifnonnull (tgt := 14) hx hb dX7_at_7 (by decide) ?_
    refine lv_aload_n hx hb dX7_at_14 rfl (lv_at hl 0 rfl) ?_
    refine lv_iload_n hx hb dX7_at_15 rfl (lv_at hl 3 rfl) ?_
    refine vp_callSi (va_Run.run (va_runV (As := [.int i]) (rest := []) ⟨hx, hb, hml, hown, hts⟩ (c_BR_byteAt l D ca tx qt 4000 gt ft Tx i (hBt) (hLt) (by decide)) (cwV 1 hts gX7_at_X0_byteAt rfl rfl rfl (by decide +kernel) ⟨Nat.le_of_ble_eq_true rfl, Nat.le_of_ble_eq_true rfl⟩) ⟨roP_blind, va_recv hK hP (ci := 0) (q0 := 1) rfl rfl, roP_at hK hN (hP.sub [1, 2] rfl)⟩ rfl rfl hl.1 rfl (lv_room (Nat.le_of_ble_eq_true rfl)) dX7_at_16 ⟨Nat.le_of_ble_eq_true rfl, Nat.le_of_ble_eq_true rfl⟩)) (fun r_2 hq => ?_)
    exact ro_iret hx hb hr hlocks (by unfold atW; rw [if_pos e0]; exact hq) dX7_at_19
  · by_cases e1 : w.toInt = 1
    · refine lv_aload_n hx hb dX7_at_0 rfl (lv_at hl 0 rfl) ?_
      refine lv_iload_n hx hb dX7_at_1 rfl (lv_at hl 1 rfl) ?_
      refine va_csq (va_Run.run (va_runV (As := [.int w]) (rest := []) ⟨hx, hb, hml, hown, hts⟩ (c_E_row1 l D ca ae tx ic ox as_ am at_ iw ir ls_ lr w (e1)) (cwV 1 hts gX7_at_X7_rowOf rfl rfl rfl (by decide +kernel) ⟨Nat.le_of_ble_eq_true rfl, Nat.le_of_ble_eq_true rfl⟩) ⟨roP_blind, va_recv hK hP (ci := 6) (q0 := 0) rfl rfl, roP_at hK hN (hP.sub [0] rfl)⟩ rfl rfl hl.1 rfl (lv_room (Nat.le_of_ble_eq_true rfl)) dX7_at_2 ⟨Nat.le_of_ble_eq_true rfl, Nat.le_of_ble_eq_true rfl⟩)) (fun r_3 hq => ?_)
      subst hq
      refine W.eq (g2 := F0 m 5 ls [.ref ic]) rfl ?_
      refine lv_astore_n (lv' := [(3, .ref ic), (0, .ref ae), (1, .int w), (2, .int i)]) hx hb dX7_at_5 rfl hl (by decide) rfl (fun ls hl => ?_)
      refine lv_aload_n hx hb dX7_at_6 rfl (lv_at hl 0 rfl) ?_
      refine lv_ifnonnull (tgt := 14) hx hb dX7_at_7 (by decide) ?_
      refine lv_aload_n hx hb dX7_at_14 rfl (lv_at hl 0 rfl) ?_
      refine lv_iload_n hx hb dX7_at_15 rfl (lv_at hl 3 rfl) ?_
      refine vp_callSi (va_Run.run (va_runV (As := [.int i]) (rest := []) ⟨hx, hb, hml, hown, hts⟩ (c_BR_byteAt l D ca ic qi 8000 gi fi Cd i (hBc) (hLc) (by decide)) (cwV 1 hts gX7_at_X0_byteAt rfl rfl rfl (by decide +kernel) ⟨Nat.le_of_ble_eq_true rfl, Nat.le_of_ble_eq_true rfl⟩) ⟨roP_blind, va_recv hK hP (ci := 0) (q0 := 3) rfl rfl, roP_at hK hN (hP.sub [3, 4] rfl)⟩ rfl rfl hl.1 rfl (lv_room (Nat.le_of_ble_eq_true rfl)) dX7_at_16 ⟨Nat.le_of_ble_eq_true rfl, Nat.le_of_ble_eq_true rfl⟩)) (fun r_4 hq => ?_)
      exact ro_iret hx hb hr hlocks (by unfold atW; rw [if_neg e0]; rw [if_pos e1]; exact hq) dX7_at_19
    · by_cases e2 : w.toInt = 2
      · refine lv_aload_n hx hb dX7_at_0 rfl (lv_at hl 0 rfl) ?_
        refine lv_iload_n hx hb dX7_at_1 rfl (lv_at hl 1 rfl) ?_
        refine va_csq (va_Run.run (va_runV (As := [.int w]) (rest := []) ⟨hx, hb, hml, hown, hts⟩ (c_E_row2 l D ca ae tx ic ox as_ am at_ iw ir ls_ lr w (e2)) (cwV 1 hts gX7_at_X7_rowOf rfl rfl rfl (by decide +kernel) ⟨Nat.le_of_ble_eq_true rfl, Nat.le_of_ble_eq_true rfl⟩) ⟨roP_blind, va_recv hK hP (ci := 6) (q0 := 0) rfl rfl, roP_at hK hN (hP.sub [0] rfl)⟩ rfl rfl hl.1 rfl (lv_room (Nat.le_of_ble_eq_true rfl)) dX7_at_2 ⟨Nat.le_of_ble_eq_true rfl, Nat.le_of_ble_eq_true rfl⟩)) (fun r_5 hq => ?_)
        subst hq
        refine W.eq (g2 := F0 m 5 ls [.ref ox]) rfl ?_
        refine lv_astore_n (lv' := [(3, .ref ox), (0, .ref ae), (1, .int w), (2, .int i)]) hx hb dX7_at_5 rfl hl (by decide) rfl (fun ls hl => ?_)
        refine lv_aload_n hx hb dX7_at_6 rfl (lv_at hl 0 rfl) ?_
        refine lv_ifnonnull (tgt := 14) hx hb dX7_at_7 (by decide) ?_
        refine lv_aload_n hx hb dX7_at_14 rfl (lv_at hl 0 rfl) ?_
        refine lv_iload_n hx hb dX7_at_15 rfl (lv_at hl 3 rfl) ?_
        refine vp_callSi (va_Run.run (va_runV (As := [.int i]) (rest := []) ⟨hx, hb, hml, hown, hts⟩ (c_BR_byteAt l D ca ox qu 4000 gu fu Ox i (hBo) (hLo) (by decide)) (cwV 1 hts gX7_at_X0_byteAt rfl rfl rfl (by decide +kernel) ⟨Nat.le_of_ble_eq_true rfl, Nat.le_of_ble_eq_true rfl⟩) ⟨roP_blind, va_recv hK hP (ci := 0) (q0 := 5) rfl rfl, roP_at hK hN (hP.sub [5, 6] rfl)⟩ rfl rfl hl.1 rfl (lv_room (Nat.le_of_ble_eq_true rfl)) dX7_at_16 ⟨Nat.le_of_ble_eq_true rfl, Nat.le_of_ble_eq_true rfl⟩)) (fun r_6 hq => ?_)
        exact ro_iret hx hb hr hlocks (by unfold atW; rw [if_neg e0]; rw [if_neg e1]; rw [if_pos e2]; exact hq) dX7_at_19
      · refine lv_aload_n hx hb dX7_at_0 rfl (lv_at hl 0 rfl) ?_
        refine lv_iload_n hx hb dX7_at_1 rfl (lv_at hl 1 rfl) ?_
        refine va_csq (va_Run.run (va_runV (As := [.int w]) (rest := []) ⟨hx, hb, hml, hown, hts⟩ (c_E_rown l D ca ae tx ic ox as_ am at_ iw ir ls_ lr w (by omega)) (cwV 1 hts gX7_at_X7_rowOf rfl rfl rfl (by decide +kernel) ⟨Nat.le_of_ble_eq_true rfl, Nat.le_of_ble_eq_true rfl⟩) ⟨roP_blind, va_recv hK hP (ci := 6) (q0 := 0) rfl rfl, roP_at hK hN (hP.sub [0] rfl)⟩ rfl rfl hl.1 rfl (lv_room (Nat.le_of_ble_eq_true rfl)) dX7_at_2 ⟨Nat.le_of_ble_eq_true rfl, Nat.le_of_ble_eq_true rfl⟩)) (fun r_7 hq => ?_)
        subst hq
        refine W.eq (g2 := F0 m 5 ls [.null]) rfl ?_
        refine lv_astore_nN (lv' := [(3, .null), (0, .ref ae), (1, .int w), (2, .int i)]) hx hb dX7_at_5 rfl hl (by decide) rfl (fun ls hl => ?_)
        refine lv_aload_nN hx hb dX7_at_6 rfl (lv_at hl 0 rfl) ?_
        refine lv_ifnonnullN hx hb dX7_at_7 ?_
        refine lv_iconst (v := (-1)) hx hb dX7_at_10 (by decide) ?_
        refine lv_goto (tgt := 19) hx hb dX7_at_11 (by decide) ?_
        exact ro_iret hx hb hr hlocks (by unfold atW; rw [if_neg e0, if_neg e1, if_neg e2]) dX7_at_19

set_option maxHeartbeats 4000000 in
set_option maxRecDepth 100000 in
theorem c_E_size (l : Launch) (D : va_G) (ca : Nat → ClassId) (ae : Nat) (tx : Nat) (ic : Nat) (ox : Nat) (as_ : Nat) (am : Nat) (at_ : Nat) (iw : Nat) (ir : Nat) (ls_ : Nat) (lr : Nat) (qt : Nat) (gt : Nat) (ft : Nat → Int32) (Tx : List Nat) (qi : Nat) (gi : Nat) (fi : Nat → Int32) (Cd : List Nat) (qu : Nat) (gu : Nat) (fu : Nat → Int32) (Ox : List Nat) (w : Int32) (hBt : BR ft Tx) (hLt : Tx.length ≤ gcap 4000 gt) (hBc : BR fi Cd) (hLc : Cd.length ≤ gcap 8000 gi) (hBo : BR fu Ox) (hLo : Ox.length ≤ gcap 4000 gu) : Met l yX7_size wsX7_size { frames := 1, cells := 0, slots := 0, locals := 21 } (roP D vwCl (ATy ca) [(ae, .inr (6, [.ref tx, .ref ic, .ref ox, .ref as_, .ref am, .ref at_, .ref iw, .ref ir, .long (lN ls_), .long (lN lr)])), (tx, .inr (0, [.int (nI 4000), .ref qt, .int (nI Tx.length)])), (qt, .inl (ca 0, gcap 4000 gt, .inl ft)), (ic, .inr (0, [.int (nI 8000), .ref qi, .int (nI Cd.length)])), (qi, .inl (ca 0, gcap 8000 gi, .inl fi)), (ox, .inr (0, [.int (nI 4000), .ref qu, .int (nI Ox.length)])), (qu, .inl (ca 0, gcap 4000 gu, .inl fu))] [.ref ae, .int w]) (vp_Si (fun r : Int32 => r = szW Tx Cd Ox w)) 0 0 (fun _ => False) := by
  refine ro_enter (by decide) rfl (Nat.le_of_ble_eq_true rfl) ?_
  intro p e s m below meth c ls C hK hN hP hl
  obtain ⟨hx, hb, hr, hml, hown, hlocks, hts⟩ := C
  have hl : lv_has ls 3 [(0, .ref ae), (1, .int w)] := hl
  by_cases e0 : w.toInt = 0
  · refine lv_aload_n hx hb dX7_size_0 rfl (lv_at hl 0 rfl) ?_
    refine lv_iload_n hx hb dX7_size_1 rfl (lv_at hl 1 rfl) ?_
    refine va_csq (va_Run.run (va_runV (As := [.int w]) (rest := []) ⟨hx, hb, hml, hown, hts⟩ (c_E_row0 l D ca ae tx ic ox as_ am at_ iw ir ls_ lr w (e0)) (cwV 1 hts gX7_size_X7_rowOf rfl rfl rfl (by decide +kernel) ⟨Nat.le_of_ble_eq_true rfl, Nat.le_of_ble_eq_true rfl⟩) ⟨roP_blind, va_recv hK hP (ci := 6) (q0 := 0) rfl rfl, roP_at hK hN (hP.sub [0] rfl)⟩ rfl rfl hl.1 rfl (lv_room (Nat.le_of_ble_eq_true rfl)) dX7_size_2 ⟨Nat.le_of_ble_eq_true rfl, Nat.le_of_ble_eq_true rfl⟩)) (fun r_1 hq => ?_)
    subst hq
    refine W.eq (g2 := F0 m 5 ls [.ref tx]) rfl ?_
    refine lv_astore_n (lv' := [(2, .ref tx), (0, .ref ae), (1, .int w)]) hx hb dX7_size_5 rfl hl (by decide) rfl (fun ls hl => ?_)
    refine lv_aload_n hx hb dX7_size_6 rfl (lv_at hl 0 rfl) ?_
    refine lv_ifnonnull (tgt := 14) hx hb dX7_size_7 (by decide) ?_
    refine lv_aload_n hx hb dX7_size_14 rfl (lv_at hl 0 rfl) ?_
    refine vp_callSi (va_Run.run (va_runV (As := []) (rest := []) ⟨hx, hb, hml, hown, hts⟩ (c_BR_length l D ca tx qt 4000 gt ft Tx ) (cwV 0 hts gX7_size_X0_length rfl rfl rfl (by decide +kernel) ⟨Nat.le_of_ble_eq_true rfl, Nat.le_of_ble_eq_true rfl⟩) ⟨roP_blind, va_recv hK hP (ci := 0) (q0 := 1) rfl rfl, roP_at hK hN (hP.sub [1, 2] rfl)⟩ rfl rfl hl.1 rfl (lv_room (Nat.le_of_ble_eq_true rfl)) dX7_size_15 ⟨Nat.le_of_ble_eq_true rfl, Nat.le_of_ble_eq_true rfl⟩)) (fun r_2 hq => ?_)
    exact ro_iret hx hb hr hlocks (by unfold szW; rw [if_pos e0]; exact hq) dX7_size_18
  · by_cases e1 : w.toInt = 1
    · refine lv_aload_n hx hb dX7_size_0 rfl (lv_at hl 0 rfl) ?_
      refine lv_iload_n hx hb dX7_size_1 rfl (lv_at hl 1 rfl) ?_
      refine va_csq (va_Run.run (va_runV (As := [.int w]) (rest := []) ⟨hx, hb, hml, hown, hts⟩ (c_E_row1 l D ca ae tx ic ox as_ am at_ iw ir ls_ lr w (e1)) (cwV 1 hts gX7_size_X7_rowOf rfl rfl rfl (by decide +kernel) ⟨Nat.le_of_ble_eq_true rfl, Nat.le_of_ble_eq_true rfl⟩) ⟨roP_blind, va_recv hK hP (ci := 6) (q0 := 0) rfl rfl, roP_at hK hN (hP.sub [0] rfl)⟩ rfl rfl hl.1 rfl (lv_room (Nat.le_of_ble_eq_true rfl)) dX7_size_2 ⟨Nat.le_of_ble_eq_true rfl, Nat.le_of_ble_eq_true rfl⟩)) (fun r_3 hq => ?_)
      subst hq
      refine W.eq (g2 := F0 m 5 ls [.ref ic]) rfl ?_
      refine lv_astore_n (lv' := [(2, .ref ic), (0, .ref ae), (1, .int w)]) hx hb dX7_size_5 rfl hl (by decide) rfl (fun ls hl => ?_)
      refine lv_aload_n hx hb dX7_size_6 rfl (lv_at hl 0 rfl) ?_
      refine lv_ifnonnull (tgt := 14) hx hb dX7_size_7 (by decide) ?_
      refine lv_aload_n hx hb dX7_size_14 rfl (lv_at hl 0 rfl) ?_
      refine vp_callSi (va_Run.run (va_runV (As := []) (rest := []) ⟨hx, hb, hml, hown, hts⟩ (c_BR_length l D ca ic qi 8000 gi fi Cd ) (cwV 0 hts gX7_size_X0_length rfl rfl rfl (by decide +kernel) ⟨Nat.le_of_ble_eq_true rfl, Nat.le_of_ble_eq_true rfl⟩) ⟨roP_blind, va_recv hK hP (ci := 0) (q0 := 3) rfl rfl, roP_at hK hN (hP.sub [3, 4] rfl)⟩ rfl rfl hl.1 rfl (lv_room (Nat.le_of_ble_eq_true rfl)) dX7_size_15 ⟨Nat.le_of_ble_eq_true rfl, Nat.le_of_ble_eq_true rfl⟩)) (fun r_4 hq => ?_)
      exact ro_iret hx hb hr hlocks (by unfold szW; rw [if_neg e0]; rw [if_pos e1]; exact hq) dX7_size_18
    · by_cases e2 : w.toInt = 2
      · refine lv_aload_n hx hb dX7_size_0 rfl (lv_at hl 0 rfl) ?_
        refine lv_iload_n hx hb dX7_size_1 rfl (lv_at hl 1 rfl) ?_
        refine va_csq (va_Run.run (va_runV (As := [.int w]) (rest := []) ⟨hx, hb, hml, hown, hts⟩ (c_E_row2 l D ca ae tx ic ox as_ am at_ iw ir ls_ lr w (e2)) (cwV 1 hts gX7_size_X7_rowOf rfl rfl rfl (by decide +kernel) ⟨Nat.le_of_ble_eq_true rfl, Nat.le_of_ble_eq_true rfl⟩) ⟨roP_blind, va_recv hK hP (ci := 6) (q0 := 0) rfl rfl, roP_at hK hN (hP.sub [0] rfl)⟩ rfl rfl hl.1 rfl (lv_room (Nat.le_of_ble_eq_true rfl)) dX7_size_2 ⟨Nat.le_of_ble_eq_true rfl, Nat.le_of_ble_eq_true rfl⟩)) (fun r_5 hq => ?_)
        subst hq
        refine W.eq (g2 := F0 m 5 ls [.ref ox]) rfl ?_
        refine lv_astore_n (lv' := [(2, .ref ox), (0, .ref ae), (1, .int w)]) hx hb dX7_size_5 rfl hl (by decide) rfl (fun ls hl => ?_)
        refine lv_aload_n hx hb dX7_size_6 rfl (lv_at hl 0 rfl) ?_
        refine lv_ifnonnull (tgt := 14) hx hb dX7_size_7 (by decide) ?_
        refine lv_aload_n hx hb dX7_size_14 rfl (lv_at hl 0 rfl) ?_
        refine vp_callSi (va_Run.run (va_runV (As := []) (rest := []) ⟨hx, hb, hml, hown, hts⟩ (c_BR_length l D ca ox qu 4000 gu fu Ox ) (cwV 0 hts gX7_size_X0_length rfl rfl rfl (by decide +kernel) ⟨Nat.le_of_ble_eq_true rfl, Nat.le_of_ble_eq_true rfl⟩) ⟨roP_blind, va_recv hK hP (ci := 0) (q0 := 5) rfl rfl, roP_at hK hN (hP.sub [5, 6] rfl)⟩ rfl rfl hl.1 rfl (lv_room (Nat.le_of_ble_eq_true rfl)) dX7_size_15 ⟨Nat.le_of_ble_eq_true rfl, Nat.le_of_ble_eq_true rfl⟩)) (fun r_6 hq => ?_)
        exact ro_iret hx hb hr hlocks (by unfold szW; rw [if_neg e0]; rw [if_neg e1]; rw [if_pos e2]; exact hq) dX7_size_18
      · refine lv_aload_n hx hb dX7_size_0 rfl (lv_at hl 0 rfl) ?_
        refine lv_iload_n hx hb dX7_size_1 rfl (lv_at hl 1 rfl) ?_
        refine va_csq (va_Run.run (va_runV (As := [.int w]) (rest := []) ⟨hx, hb, hml, hown, hts⟩ (c_E_rown l D ca ae tx ic ox as_ am at_ iw ir ls_ lr w (by omega)) (cwV 1 hts gX7_size_X7_rowOf rfl rfl rfl (by decide +kernel) ⟨Nat.le_of_ble_eq_true rfl, Nat.le_of_ble_eq_true rfl⟩) ⟨roP_blind, va_recv hK hP (ci := 6) (q0 := 0) rfl rfl, roP_at hK hN (hP.sub [0] rfl)⟩ rfl rfl hl.1 rfl (lv_room (Nat.le_of_ble_eq_true rfl)) dX7_size_2 ⟨Nat.le_of_ble_eq_true rfl, Nat.le_of_ble_eq_true rfl⟩)) (fun r_7 hq => ?_)
        subst hq
        refine W.eq (g2 := F0 m 5 ls [.null]) rfl ?_
        refine lv_astore_nN (lv' := [(2, .null), (0, .ref ae), (1, .int w)]) hx hb dX7_size_5 rfl hl (by decide) rfl (fun ls hl => ?_)
        refine lv_aload_nN hx hb dX7_size_6 rfl (lv_at hl 0 rfl) ?_
        refine lv_ifnonnullN hx hb dX7_size_7 ?_
        refine lv_iconst (v := (-1)) hx hb dX7_size_10 (by decide) ?_
        refine lv_goto (tgt := 18) hx hb dX7_size_11 (by decide) ?_
        exact ro_iret hx hb hr hlocks (by unfold szW; rw [if_neg e0, if_neg e1, if_neg e2]) dX7_size_18

set_option maxHeartbeats 4000000 in
set_option maxRecDepth 100000 in
theorem c_E_count (l : Launch) (D : va_G) (ca : Nat → ClassId) (ae : Nat) (tx : Nat) (ic : Nat) (ox : Nat) (as_ : Nat) (am : Nat) (at_ : Nat) (iw : Nat) (ir : Nat) (ls_ : Nat) (lr : Nat) (qs : Nat) (gs : Nat) (sf : Nat → Int64) (st : List Stq) (qb : Nat) (qc : Nat) (qn : Nat) (kk : Nat) (kf : Nat) (kl : Nat) (kn : Nat) (ko : Nat) (kb : Nat) (lim : Nat) (rs : Nat) (rt : Nat) (top : Int32) (bef : Int32) (ear : Int32) (N : List Nd) (w : Int32) (hb1 : st.length < 2 ^ 31 ∧ N.length < 2 ^ 31 ∧ rs < 2 ^ 31 ∧ rt < 2 ^ 31) : Met l yX7_count wsX7_count { frames := 1, cells := 0, slots := 0, locals := 20 } (roP D vwCl (ATy ca) [(ae, .inr (6, [.ref tx, .ref ic, .ref ox, .ref as_, .ref am, .ref at_, .ref iw, .ref ir, .long (lN ls_), .long (lN lr)])), (as_, .inr (4, [.ref qs, .int (nI st.length), .int (nI (escN st))])), (qs, .inl (ca 1, gcap 20000 gs, .inr (.inl sf))), (am, .inr (3, [.int (nI lim), .int (nI N.length), .ref qb, .ref qc, .ref qn, .int (nI (keysOf N).length), .ref kk, .ref kf, .ref kl, .ref kn, .ref ko, .ref kb, .int top, .int bef, .int ear, .int (nI rs), .int (nI rt)]))] [.ref ae, .int w]) (vp_Sl (fun r : Int64 => r = cntW st ls_ lr N rs rt w)) 0 0 (fun _ => False) := by
  refine ro_enter (by decide) rfl (Nat.le_of_ble_eq_true rfl) ?_
  intro p e s m below meth c ls C hK hN hP hl
  obtain ⟨hx, hb, hr, hml, hown, hlocks, hts⟩ := C
  have hl : lv_has ls 2 [(0, .ref ae), (1, .int w)] := hl
  have hin_X7 : ∀ w ∈ wsX70, w ∈ wsX7_count := by decide +kernel
  have hl_27 := hts (.fieldLink RX7 27 "EscapeCoder" "steps" "LEscapeCoder$StepRow;") (by decide +kernel)
  have hl_73 := hts (.fieldLink RX7 73 "EscapeCoder" "latestShifts" "J") (by decide +kernel)
  have hl_34 := hts (.fieldLink RX7 34 "EscapeCoder" "model" "LEscapeCoder$Model;") (by decide +kernel)
  have hl_77 := hts (.fieldLink RX7 77 "EscapeCoder" "latestRange" "J") (by decide +kernel)
  have hw_dc5c8f := hts (.constantLong RX7 152 ((-1))) (by decide +kernel)
  have he := escN_le st
  have hkl := keysOf_len N
  refine lv_iload_n hx hb dX7_count_0 rfl (lv_at hl 1 rfl) ?_
  by_cases e0 : w.toInt = 0
  · refine lv_tableIn (tgt := 48) hx hb dX7_count_1 (by rw [e0]; decide) (by rw [e0]; decide) (by rw [e0]; rfl) (by decide) ?_
    refine lv_aload_n hx hb dX7_count_48 rfl (lv_at hl 0 rfl) ?_
    refine va_get (D := D) (ci := 6) (v := .ref as_) (C := RX7) (T := TX7) (N := 10) hx hb hts hin_X7 hown hK hP 0 rfl rfl 3 (by decide) hl_27 (fun _ h9 => h9) rfl dX7_count_49 ?_
    refine vp_callSi (va_Run.run (va_runV (As := []) (rest := []) ⟨hx, hb, hml, hown, hts⟩ (c_SR_made l D ca as_ qs gs sf st ) (cwV 0 hts gX7_count_X5_made rfl rfl rfl (by decide +kernel) ⟨Nat.le_of_ble_eq_true rfl, Nat.le_of_ble_eq_true rfl⟩) ⟨roP_blind, va_recv hK hP (ci := 4) (q0 := 1) rfl rfl, roP_at hK hN (hP.sub [1, 2] rfl)⟩ rfl rfl hl.1 rfl (lv_room (Nat.le_of_ble_eq_true rfl)) dX7_count_52 ⟨Nat.le_of_ble_eq_true rfl, Nat.le_of_ble_eq_true rfl⟩)) (fun r_1 hq => ?_)
    subst hq
    refine lv_i2l (v := lN st.length) hx hb dX7_count_55 (nI_l (by omega)) ?_
    exact ro_lret hx hb hr hlocks (by unfold cntW; rw [if_pos e0]) dX7_count_56
  · by_cases e1 : w.toInt = 1
    · refine lv_tableIn (tgt := 57) hx hb dX7_count_1 (by rw [e1]; decide) (by rw [e1]; decide) (by rw [e1]; rfl) (by decide) ?_
      refine lv_aload_n hx hb dX7_count_57 rfl (lv_at hl 0 rfl) ?_
      refine va_get (D := D) (ci := 6) (v := .ref as_) (C := RX7) (T := TX7) (N := 10) hx hb hts hin_X7 hown hK hP 0 rfl rfl 3 (by decide) hl_27 (fun _ h9 => h9) rfl dX7_count_58 ?_
      refine vp_callSi (va_Run.run (va_runV (As := []) (rest := []) ⟨hx, hb, hml, hown, hts⟩ (c_SR_escapes l D ca as_ qs gs sf st ) (cwV 0 hts gX7_count_X5_escapes rfl rfl rfl (by decide +kernel) ⟨Nat.le_of_ble_eq_true rfl, Nat.le_of_ble_eq_true rfl⟩) ⟨roP_blind, va_recv hK hP (ci := 4) (q0 := 1) rfl rfl, roP_at hK hN (hP.sub [1, 2] rfl)⟩ rfl rfl hl.1 rfl (lv_room (Nat.le_of_ble_eq_true rfl)) dX7_count_61 ⟨Nat.le_of_ble_eq_true rfl, Nat.le_of_ble_eq_true rfl⟩)) (fun r_2 hq => ?_)
      subst hq
      refine lv_i2l (v := lN (escN st)) hx hb dX7_count_64 (nI_l (by omega)) ?_
      exact ro_lret hx hb hr hlocks (by unfold cntW; rw [if_neg e0]; rw [if_pos e1]) dX7_count_65
    · by_cases e2 : w.toInt = 2
      · refine lv_tableIn (tgt := 66) hx hb dX7_count_1 (by rw [e2]; decide) (by rw [e2]; decide) (by rw [e2]; rfl) (by decide) ?_
        refine lv_aload_n hx hb dX7_count_66 rfl (lv_at hl 0 rfl) ?_
        refine va_get (D := D) (ci := 6) (v := .long (lN ls_)) (C := RX7) (T := TX7) (N := 10) hx hb hts hin_X7 hown hK hP 0 rfl rfl 8 (by decide) hl_73 (fun _ h9 => h9) rfl dX7_count_67 ?_
        exact ro_lret hx hb hr hlocks (by unfold cntW; rw [if_neg e0]; rw [if_neg e1]; rw [if_pos e2]) dX7_count_70
      · by_cases e3 : w.toInt = 3
        · refine lv_tableIn (tgt := 71) hx hb dX7_count_1 (by rw [e3]; decide) (by rw [e3]; decide) (by rw [e3]; rfl) (by decide) ?_
          refine lv_aload_n hx hb dX7_count_71 rfl (lv_at hl 0 rfl) ?_
          refine va_get (D := D) (ci := 6) (v := .ref am) (C := RX7) (T := TX7) (N := 10) hx hb hts hin_X7 hown hK hP 0 rfl rfl 4 (by decide) hl_34 (fun _ h9 => h9) rfl dX7_count_72 ?_
          refine vp_callSi (va_Run.run (va_runV (As := []) (rest := []) ⟨hx, hb, hml, hown, hts⟩ (c_M_rescalings l D ca am qb qc qn kk kf kl kn ko kb lim N.length ((keysOf N).length) top bef ear (nI rs) (nI rt) ) (cwV 0 hts gX7_count_X4_rescalings rfl rfl rfl (by decide +kernel) ⟨Nat.le_of_ble_eq_true rfl, Nat.le_of_ble_eq_true rfl⟩) ⟨roP_blind, va_recv hK hP (ci := 3) (q0 := 3) rfl rfl, roP_at hK hN (hP.sub [3] rfl)⟩ rfl rfl hl.1 rfl (lv_room (Nat.le_of_ble_eq_true rfl)) dX7_count_75 ⟨Nat.le_of_ble_eq_true rfl, Nat.le_of_ble_eq_true rfl⟩)) (fun r_3 hq => ?_)
          subst hq
          refine lv_i2l (v := lN rs) hx hb dX7_count_78 (nI_l (by omega)) ?_
          exact ro_lret hx hb hr hlocks (by unfold cntW; rw [if_neg e0]; rw [if_neg e1]; rw [if_neg e2]; rw [if_pos e3]) dX7_count_79
        · by_cases e4 : w.toInt = 4
          · refine lv_tableIn (tgt := 80) hx hb dX7_count_1 (by rw [e4]; decide) (by rw [e4]; decide) (by rw [e4]; rfl) (by decide) ?_
            refine lv_aload_n hx hb dX7_count_80 rfl (lv_at hl 0 rfl) ?_
            refine va_get (D := D) (ci := 6) (v := .ref am) (C := RX7) (T := TX7) (N := 10) hx hb hts hin_X7 hown hK hP 0 rfl rfl 4 (by decide) hl_34 (fun _ h9 => h9) rfl dX7_count_81 ?_
            refine vp_callSi (va_Run.run (va_runV (As := []) (rest := []) ⟨hx, hb, hml, hown, hts⟩ (c_M_resets l D ca am qb qc qn kk kf kl kn ko kb lim N.length ((keysOf N).length) top bef ear (nI rs) (nI rt) ) (cwV 0 hts gX7_count_X4_resets rfl rfl rfl (by decide +kernel) ⟨Nat.le_of_ble_eq_true rfl, Nat.le_of_ble_eq_true rfl⟩) ⟨roP_blind, va_recv hK hP (ci := 3) (q0 := 3) rfl rfl, roP_at hK hN (hP.sub [3] rfl)⟩ rfl rfl hl.1 rfl (lv_room (Nat.le_of_ble_eq_true rfl)) dX7_count_84 ⟨Nat.le_of_ble_eq_true rfl, Nat.le_of_ble_eq_true rfl⟩)) (fun r_4 hq => ?_)
            subst hq
            refine lv_i2l (v := lN rt) hx hb dX7_count_87 (nI_l (by omega)) ?_
            exact ro_lret hx hb hr hlocks (by unfold cntW; rw [if_neg e0]; rw [if_neg e1]; rw [if_neg e2]; rw [if_neg e3]; rw [if_pos e4]) dX7_count_88
          · by_cases e5 : w.toInt = 5
            · refine lv_tableIn (tgt := 89) hx hb dX7_count_1 (by rw [e5]; decide) (by rw [e5]; decide) (by rw [e5]; rfl) (by decide) ?_
              refine lv_aload_n hx hb dX7_count_89 rfl (lv_at hl 0 rfl) ?_
              refine va_get (D := D) (ci := 6) (v := .ref am) (C := RX7) (T := TX7) (N := 10) hx hb hts hin_X7 hown hK hP 0 rfl rfl 4 (by decide) hl_34 (fun _ h9 => h9) rfl dX7_count_90 ?_
              refine vp_callSi (va_Run.run (va_runV (As := []) (rest := []) ⟨hx, hb, hml, hown, hts⟩ (c_M_nodes l D ca am qb qc qn kk kf kl kn ko kb lim N.length ((keysOf N).length) top bef ear (nI rs) (nI rt) ) (cwV 0 hts gX7_count_X4_nodes rfl rfl rfl (by decide +kernel) ⟨Nat.le_of_ble_eq_true rfl, Nat.le_of_ble_eq_true rfl⟩) ⟨roP_blind, va_recv hK hP (ci := 3) (q0 := 3) rfl rfl, roP_at hK hN (hP.sub [3] rfl)⟩ rfl rfl hl.1 rfl (lv_room (Nat.le_of_ble_eq_true rfl)) dX7_count_93 ⟨Nat.le_of_ble_eq_true rfl, Nat.le_of_ble_eq_true rfl⟩)) (fun r_5 hq => ?_)
              subst hq
              refine lv_i2l (v := lN N.length) hx hb dX7_count_96 (nI_l (by omega)) ?_
              exact ro_lret hx hb hr hlocks (by unfold cntW; rw [if_neg e0]; rw [if_neg e1]; rw [if_neg e2]; rw [if_neg e3]; rw [if_neg e4]; rw [if_pos e5]) dX7_count_97
            · by_cases e6 : w.toInt = 6
              · refine lv_tableIn (tgt := 98) hx hb dX7_count_1 (by rw [e6]; decide) (by rw [e6]; decide) (by rw [e6]; rfl) (by decide) ?_
                refine lv_aload_n hx hb dX7_count_98 rfl (lv_at hl 0 rfl) ?_
                refine va_get (D := D) (ci := 6) (v := .long (lN lr)) (C := RX7) (T := TX7) (N := 10) hx hb hts hin_X7 hown hK hP 0 rfl rfl 9 (by decide) hl_77 (fun _ h9 => h9) rfl dX7_count_99 ?_
                exact ro_lret hx hb hr hlocks (by unfold cntW; rw [if_neg e0]; rw [if_neg e1]; rw [if_neg e2]; rw [if_neg e3]; rw [if_neg e4]; rw [if_neg e5]; rw [if_pos e6]) dX7_count_102
              · by_cases e7 : w.toInt = 7
                · refine lv_tableIn (tgt := 103) hx hb dX7_count_1 (by rw [e7]; decide) (by rw [e7]; decide) (by rw [e7]; rfl) (by decide) ?_
                  refine lv_aload_n hx hb dX7_count_103 rfl (lv_at hl 0 rfl) ?_
                  refine va_get (D := D) (ci := 6) (v := .ref am) (C := RX7) (T := TX7) (N := 10) hx hb hts hin_X7 hown hK hP 0 rfl rfl 4 (by decide) hl_34 (fun _ h9 => h9) rfl dX7_count_104 ?_
                  refine vp_callSi (va_Run.run (va_runV (As := []) (rest := []) ⟨hx, hb, hml, hown, hts⟩ (c_M_contexts l D ca am qb qc qn kk kf kl kn ko kb lim N.length ((keysOf N).length) top bef ear (nI rs) (nI rt) ) (cwV 0 hts gX7_count_X4_contexts rfl rfl rfl (by decide +kernel) ⟨Nat.le_of_ble_eq_true rfl, Nat.le_of_ble_eq_true rfl⟩) ⟨roP_blind, va_recv hK hP (ci := 3) (q0 := 3) rfl rfl, roP_at hK hN (hP.sub [3] rfl)⟩ rfl rfl hl.1 rfl (lv_room (Nat.le_of_ble_eq_true rfl)) dX7_count_107 ⟨Nat.le_of_ble_eq_true rfl, Nat.le_of_ble_eq_true rfl⟩)) (fun r_6 hq => ?_)
                  subst hq
                  refine lv_i2l (v := lN (keysOf N).length) hx hb dX7_count_110 (nI_l (by omega)) ?_
                  exact ro_lret hx hb hr hlocks (by unfold cntW; rw [if_neg e0]; rw [if_neg e1]; rw [if_neg e2]; rw [if_neg e3]; rw [if_neg e4]; rw [if_neg e5]; rw [if_neg e6]; rw [if_pos e7]) dX7_count_111
                · refine lv_tableOut (tgt := 112) hx hb dX7_count_1 (by omega) (by decide) ?_
                  refine lv_ldc2 (v := (-1)) hx hb hown hw_dc5c8f dX7_count_112 ?_
                  exact ro_lret hx hb hr hlocks (by unfold cntW; rw [if_neg e0, if_neg e1, if_neg e2, if_neg e3, if_neg e4, if_neg e5, if_neg e6, if_neg e7]) dX7_count_115

set_option maxHeartbeats 4000000 in
set_option maxRecDepth 100000 in
theorem c_E_learnt (l : Launch) (D : va_G) (ca : Nat → ClassId) (ae : Nat) (tx : Nat) (ic : Nat) (ox : Nat) (as_ : Nat) (am : Nat) (at_ : Nat) (iw : Nat) (ir : Nat) (ls_ : Nat) (lr : Nat) (qb : Nat) (qc : Nat) (qn : Nat) (kk : Nat) (kf : Nat) (kl : Nat) (kn : Nat) (ko : Nat) (kb : Nat) (lim : Nat) (rs : Nat) (rt : Nat) (gn : Nat) (gc : Nat) (top : Int32) (bef : Int32) (ear : Int32) (nb : Nat → Int32) (nc : Nat → Int32) (nn : Nat → Int32) (ck : Nat → Int32) (cf : Nat → Int32) (cl : Nat → Int32) (ct : Nat → Int32) (co : Nat → Int32) (bk : Nat → Int32) (N : List Nd) (o : Int32) (b : Int32) (ea : Int32) (w : Int32) (hM : MR N gn gc nb nc nn ck cf cl ct co bk) : Met l yX7_learnt wsX7_learnt { frames := 3, cells := 0, slots := 0, locals := 66 } (roP D vwCl (ATy ca) [(ae, .inr (6, [.ref tx, .ref ic, .ref ox, .ref as_, .ref am, .ref at_, .ref iw, .ref ir, .long (lN ls_), .long (lN lr)])), (am, .inr (3, [.int (nI lim), .int (nI N.length), .ref qb, .ref qc, .ref qn, .int (nI (keysOf N).length), .ref kk, .ref kf, .ref kl, .ref kn, .ref ko, .ref kb, .int top, .int bef, .int ear, .int (nI rs), .int (nI rt)])), (qb, .inl (ca 0, gcap 6000 gn, .inl nb)), (qc, .inl (ca 0, gcap 6000 gn, .inl nc)), (qn, .inl (ca 0, gcap 6000 gn, .inl nn)), (kk, .inl (ca 0, gcap 6000 gc, .inl ck)), (kf, .inl (ca 0, gcap 6000 gc, .inl cf)), (kl, .inl (ca 0, gcap 6000 gc, .inl cl)), (kn, .inl (ca 0, gcap 6000 gc, .inl ct)), (ko, .inl (ca 0, gcap 6000 gc, .inl co)), (kb, .inl (ca 0, 256, .inl bk))] [.ref ae, .int o, .int b, .int ea, .int w]) (vp_Si (fun r : Int32 => r = lrI N o b ea w)) 0 0 (fun _ => False) := by
  refine ro_enter (by decide) rfl (Nat.le_of_ble_eq_true rfl) ?_
  intro p e s m below meth c ls C hK hN hP hl
  obtain ⟨hx, hb, hr, hml, hown, hlocks, hts⟩ := C
  have hl : lv_has ls 6 [(0, .ref ae), (1, .int o), (2, .int b), (3, .int ea), (4, .int w)] := hl
  have hin_X7 : ∀ w ∈ wsX70, w ∈ wsX7_learnt := by decide +kernel
  have hl_34 := hts (.fieldLink RX7 34 "EscapeCoder" "model" "LEscapeCoder$Model;") (by decide +kernel)
  obtain ⟨hC, hNR, hF, hl1, hl2, hok⟩ := id hM
  have hnd := keysOf_nd N
  have hgn := gcap_le 6000 gn
  have hgc := gcap_le 6000 gc
  refine lv_aload_n hx hb dX7_learnt_0 rfl (lv_at hl 0 rfl) ?_
  refine va_get (D := D) (ci := 6) (v := .ref am) (C := RX7) (T := TX7) (N := 10) hx hb hts hin_X7 hown hK hP 0 rfl rfl 4 (by decide) hl_34 (fun _ h9 => h9) rfl dX7_learnt_1 ?_
  refine lv_iload_n hx hb dX7_learnt_4 rfl (lv_at hl 1 rfl) ?_
  refine lv_iload_n hx hb dX7_learnt_5 rfl (lv_at hl 2 rfl) ?_
  refine lv_iload_n hx hb dX7_learnt_6 rfl (lv_at hl 3 rfl) ?_
  refine vp_callSi (va_Run.run (va_runS (As := [.int o, .int b, .int ea]) (rest := [.ref am]) ⟨hx, hb, hml, hown, hts⟩ (c_keyOf l D ca o b ea ) (va_cwS 3 hts gX7_learnt_X7_keyOf rfl rfl rfl (by decide +kernel) ⟨Nat.le_of_ble_eq_true rfl, Nat.le_of_ble_eq_true rfl⟩) ⟨roP_blind, roP_at hK hN (hP.sub [] rfl)⟩ rfl rfl hl.1 rfl (lv_room (Nat.le_of_ble_eq_true rfl)) dX7_learnt_7 ⟨Nat.le_of_ble_eq_true rfl, Nat.le_of_ble_eq_true rfl⟩)) (fun r_1 hq => ?_)
  rcases hko : kO o b ea with _ | k
  · rw [hko] at hq
    subst hq
    refine vp_callSi (va_Run.run (va_runV (As := [.int (-1)]) (rest := []) ⟨hx, hb, hml, hown, hts⟩ (c_M_find_n l D ca am qb qc qn kk kf kl kn ko kb lim N.length ((keysOf N).length) top bef ear (nI rs) (nI rt) ) (cwV 1 hts gX7_learnt_X4_find rfl rfl rfl (by decide +kernel) ⟨Nat.le_of_ble_eq_true rfl, Nat.le_of_ble_eq_true rfl⟩) ⟨roP_blind, va_recv hK hP (ci := 3) (q0 := 1) rfl rfl, roP_at hK hN (hP.sub [1] rfl)⟩ rfl rfl hl.1 rfl (lv_room (Nat.le_of_ble_eq_true rfl)) dX7_learnt_10 ⟨Nat.le_of_ble_eq_true rfl, Nat.le_of_ble_eq_true rfl⟩)) (fun r_2 hq => ?_)
    subst hq
    refine lv_istore (lv' := [(5, .int (-1)), (0, .ref ae), (1, .int o), (2, .int b), (3, .int ea), (4, .int w)]) hx hb dX7_learnt_13 hl (by decide) rfl (fun ls hl => ?_)
    refine lv_aload_n hx hb dX7_learnt_15 rfl (lv_at hl 1 rfl) ?_
    refine va_get (D := D) (ci := 6) (v := .ref am) (C := RX7) (T := TX7) (N := 10) hx hb hts hin_X7 hown hK hP 0 rfl rfl 4 (by decide) hl_34 (fun _ h9 => h9) rfl dX7_learnt_16 ?_
    refine lv_aload_n hx hb dX7_learnt_19 rfl (lv_at hl 1 rfl) ?_
    refine va_get (D := D) (ci := 6) (v := .ref am) (C := RX7) (T := TX7) (N := 10) hx hb hts hin_X7 hown hK hP 0 rfl rfl 4 (by decide) hl_34 (fun _ h9 => h9) rfl dX7_learnt_20 ?_
    refine lv_iload hx hb dX7_learnt_23 (lv_at hl 0 rfl) ?_
    refine lv_iload hx hb dX7_learnt_25 (lv_at hl 5 rfl) ?_
    refine vp_callSi (va_Run.run (va_runV (As := [.int (-1), .int w]) (rest := [.ref am]) ⟨hx, hb, hml, hown, hts⟩ (c_M_nodeOfByte_n l D ca am qb qc qn kk kf kl kn ko kb lim N.length ((keysOf N).length) top bef ear (nI rs) (nI rt) w ) (cwV 2 hts gX7_learnt_X4_nodeOfByte rfl rfl rfl (by decide +kernel) ⟨Nat.le_of_ble_eq_true rfl, Nat.le_of_ble_eq_true rfl⟩) ⟨roP_blind, va_recv hK hP (ci := 3) (q0 := 1) rfl rfl, roP_at hK hN (hP.sub [1] rfl)⟩ rfl rfl hl.1 rfl (lv_room (Nat.le_of_ble_eq_true rfl)) dX7_learnt_27 ⟨Nat.le_of_ble_eq_true rfl, Nat.le_of_ble_eq_true rfl⟩)) (fun r_3 hq => ?_)
    subst hq
    refine vp_callSi (va_Run.run (va_runV (As := [.int (-1)]) (rest := []) ⟨hx, hb, hml, hown, hts⟩ (c_M_countOf_n l D ca am qb qc qn kk kf kl kn ko kb lim N.length ((keysOf N).length) top bef ear (nI rs) (nI rt) ) (cwV 1 hts gX7_learnt_X4_countOf rfl rfl rfl (by decide +kernel) ⟨Nat.le_of_ble_eq_true rfl, Nat.le_of_ble_eq_true rfl⟩) ⟨roP_blind, va_recv hK hP (ci := 3) (q0 := 1) rfl rfl, roP_at hK hN (hP.sub [1] rfl)⟩ rfl rfl hl.1 rfl (lv_room (Nat.le_of_ble_eq_true rfl)) dX7_learnt_30 ⟨Nat.le_of_ble_eq_true rfl, Nat.le_of_ble_eq_true rfl⟩)) (fun r_4 hq => ?_)
    subst hq
    exact ro_iret hx hb hr hlocks (by unfold lrI; rw [hko]) dX7_learnt_33
  · have hkl := kO_lt hko
    rw [hko] at hq
    subst hq
    refine vp_callSi (va_Run.run (va_runV (As := [.int (nI k)]) (rest := []) ⟨hx, hb, hml, hown, hts⟩ (c_M_find_s l D ca am qb qc qn kk kf kl kn ko kb lim N.length top bef ear (nI rs) (nI rt) gc ck co bk (keysOf N) k (hC) (hnd) (hl2) (hkl)) (cwV 1 hts gX7_learnt_X4_find rfl rfl rfl (by decide +kernel) ⟨Nat.le_of_ble_eq_true rfl, Nat.le_of_ble_eq_true rfl⟩) ⟨roP_blind, va_recv hK hP (ci := 3) (q0 := 1) rfl rfl, roP_at hK hN (hP.sub [1, 5, 9, 10] rfl)⟩ rfl rfl hl.1 rfl (lv_room (Nat.le_of_ble_eq_true rfl)) dX7_learnt_10 ⟨Nat.le_of_ble_eq_true rfl, Nat.le_of_ble_eq_true rfl⟩)) (fun r_5 hq => ?_)
    rcases hcx : cix (keysOf N) k with _ | d
    · rw [hcx] at hq
      subst hq
      refine lv_istore (lv' := [(5, .int (-1)), (0, .ref ae), (1, .int o), (2, .int b), (3, .int ea), (4, .int w)]) hx hb dX7_learnt_13 hl (by decide) rfl (fun ls hl => ?_)
      refine lv_aload_n hx hb dX7_learnt_15 rfl (lv_at hl 1 rfl) ?_
      refine va_get (D := D) (ci := 6) (v := .ref am) (C := RX7) (T := TX7) (N := 10) hx hb hts hin_X7 hown hK hP 0 rfl rfl 4 (by decide) hl_34 (fun _ h9 => h9) rfl dX7_learnt_16 ?_
      refine lv_aload_n hx hb dX7_learnt_19 rfl (lv_at hl 1 rfl) ?_
      refine va_get (D := D) (ci := 6) (v := .ref am) (C := RX7) (T := TX7) (N := 10) hx hb hts hin_X7 hown hK hP 0 rfl rfl 4 (by decide) hl_34 (fun _ h9 => h9) rfl dX7_learnt_20 ?_
      refine lv_iload hx hb dX7_learnt_23 (lv_at hl 0 rfl) ?_
      refine lv_iload hx hb dX7_learnt_25 (lv_at hl 5 rfl) ?_
      refine vp_callSi (va_Run.run (va_runV (As := [.int (-1), .int w]) (rest := [.ref am]) ⟨hx, hb, hml, hown, hts⟩ (c_M_nodeOfByte_n l D ca am qb qc qn kk kf kl kn ko kb lim N.length ((keysOf N).length) top bef ear (nI rs) (nI rt) w ) (cwV 2 hts gX7_learnt_X4_nodeOfByte rfl rfl rfl (by decide +kernel) ⟨Nat.le_of_ble_eq_true rfl, Nat.le_of_ble_eq_true rfl⟩) ⟨roP_blind, va_recv hK hP (ci := 3) (q0 := 1) rfl rfl, roP_at hK hN (hP.sub [1] rfl)⟩ rfl rfl hl.1 rfl (lv_room (Nat.le_of_ble_eq_true rfl)) dX7_learnt_27 ⟨Nat.le_of_ble_eq_true rfl, Nat.le_of_ble_eq_true rfl⟩)) (fun r_6 hq => ?_)
      subst hq
      refine vp_callSi (va_Run.run (va_runV (As := [.int (-1)]) (rest := []) ⟨hx, hb, hml, hown, hts⟩ (c_M_countOf_n l D ca am qb qc qn kk kf kl kn ko kb lim N.length ((keysOf N).length) top bef ear (nI rs) (nI rt) ) (cwV 1 hts gX7_learnt_X4_countOf rfl rfl rfl (by decide +kernel) ⟨Nat.le_of_ble_eq_true rfl, Nat.le_of_ble_eq_true rfl⟩) ⟨roP_blind, va_recv hK hP (ci := 3) (q0 := 1) rfl rfl, roP_at hK hN (hP.sub [1] rfl)⟩ rfl rfl hl.1 rfl (lv_room (Nat.le_of_ble_eq_true rfl)) dX7_learnt_30 ⟨Nat.le_of_ble_eq_true rfl, Nat.le_of_ble_eq_true rfl⟩)) (fun r_7 hq => ?_)
      subst hq
      exact ro_iret hx hb hr hlocks (by unfold lrI; rw [hko]; dsimp only; rw [nix_key (cix_n hcx)]) dX7_learnt_33
    · obtain ⟨hdl, hdk⟩ := cix_s hcx
      obtain ⟨hf1, hf2, hf3⟩ := hF d hdl
      rw [hdk] at hf1 hf2 hf3
      rw [hcx] at hq
      subst hq
      refine lv_istore (lv' := [(5, .int (nI d)), (0, .ref ae), (1, .int o), (2, .int b), (3, .int ea), (4, .int w)]) hx hb dX7_learnt_13 hl (by decide) rfl (fun ls hl => ?_)
      refine lv_aload_n hx hb dX7_learnt_15 rfl (lv_at hl 1 rfl) ?_
      refine va_get (D := D) (ci := 6) (v := .ref am) (C := RX7) (T := TX7) (N := 10) hx hb hts hin_X7 hown hK hP 0 rfl rfl 4 (by decide) hl_34 (fun _ h9 => h9) rfl dX7_learnt_16 ?_
      refine lv_aload_n hx hb dX7_learnt_19 rfl (lv_at hl 1 rfl) ?_
      refine va_get (D := D) (ci := 6) (v := .ref am) (C := RX7) (T := TX7) (N := 10) hx hb hts hin_X7 hown hK hP 0 rfl rfl 4 (by decide) hl_34 (fun _ h9 => h9) rfl dX7_learnt_20 ?_
      refine lv_iload hx hb dX7_learnt_23 (lv_at hl 0 rfl) ?_
      refine lv_iload hx hb dX7_learnt_25 (lv_at hl 5 rfl) ?_
      refine vp_callSi (va_Run.run (va_runV (As := [.int (nI d), .int w]) (rest := [.ref am]) ⟨hx, hb, hml, hown, hts⟩ (c_M_nodeOfByte_s l D ca am qb qc qn kk kf kl kn ko kb lim ((keysOf N).length) top bef ear (nI rs) (nI rt) gn gc d cf ct nn nb N k w (hf1) (hf3) (hdl) (hl2) (hl1) (fun j hj => (hNR j hj).2.2) (fun j hj => (hNR j hj).1)) (cwV 2 hts gX7_learnt_X4_nodeOfByte rfl rfl rfl (by decide +kernel) ⟨Nat.le_of_ble_eq_true rfl, Nat.le_of_ble_eq_true rfl⟩) ⟨roP_blind, va_recv hK hP (ci := 3) (q0 := 1) rfl rfl, roP_at hK hN (hP.sub [1, 6, 8, 4, 2] rfl)⟩ rfl rfl hl.1 rfl (lv_room (Nat.le_of_ble_eq_true rfl)) dX7_learnt_27 ⟨Nat.le_of_ble_eq_true rfl, Nat.le_of_ble_eq_true rfl⟩)) (fun r_8 hq => ?_)
      rcases hnx : nix N k w with _ | j
      · rw [hnx] at hq
        subst hq
        refine vp_callSi (va_Run.run (va_runV (As := [.int (-1)]) (rest := []) ⟨hx, hb, hml, hown, hts⟩ (c_M_countOf_n l D ca am qb qc qn kk kf kl kn ko kb lim N.length ((keysOf N).length) top bef ear (nI rs) (nI rt) ) (cwV 1 hts gX7_learnt_X4_countOf rfl rfl rfl (by decide +kernel) ⟨Nat.le_of_ble_eq_true rfl, Nat.le_of_ble_eq_true rfl⟩) ⟨roP_blind, va_recv hK hP (ci := 3) (q0 := 1) rfl rfl, roP_at hK hN (hP.sub [1] rfl)⟩ rfl rfl hl.1 rfl (lv_room (Nat.le_of_ble_eq_true rfl)) dX7_learnt_30 ⟨Nat.le_of_ble_eq_true rfl, Nat.le_of_ble_eq_true rfl⟩)) (fun r_9 hq => ?_)
        subst hq
        exact ro_iret hx hb hr hlocks (by unfold lrI; rw [hko]; dsimp only; rw [hnx]) dX7_learnt_33
      · have hj := nix_lt hnx
        rw [hnx] at hq
        subst hq
        refine vp_callSi (va_Run.run (va_runV (As := [.int (nI j)]) (rest := []) ⟨hx, hb, hml, hown, hts⟩ (c_M_countOf_s l D ca am qb qc qn kk kf kl kn ko kb lim N.length ((keysOf N).length) top bef ear (nI rs) (nI rt) j gn nc (hj) (hl1)) (cwV 1 hts gX7_learnt_X4_countOf rfl rfl rfl (by decide +kernel) ⟨Nat.le_of_ble_eq_true rfl, Nat.le_of_ble_eq_true rfl⟩) ⟨roP_blind, va_recv hK hP (ci := 3) (q0 := 1) rfl rfl, roP_at hK hN (hP.sub [1, 3] rfl)⟩ rfl rfl hl.1 rfl (lv_room (Nat.le_of_ble_eq_true rfl)) dX7_learnt_30 ⟨Nat.le_of_ble_eq_true rfl, Nat.le_of_ble_eq_true rfl⟩)) (fun r_10 hq => ?_)
        exact ro_iret hx hb hr hlocks (by unfold lrI; rw [hko]; dsimp only; rw [hnx, hq]; exact (hNR j hj).2.1) dX7_learnt_33

set_option maxHeartbeats 4000000 in
set_option maxRecDepth 100000 in
theorem c_E_node (l : Launch) (D : va_G) (ca : Nat → ClassId) (ae : Nat) (tx : Nat) (ic : Nat) (ox : Nat) (as_ : Nat) (am : Nat) (at_ : Nat) (iw : Nat) (ir : Nat) (ls_ : Nat) (lr : Nat) (qb : Nat) (qc : Nat) (qn : Nat) (kk : Nat) (kf : Nat) (kl : Nat) (kn : Nat) (ko : Nat) (kb : Nat) (lim : Nat) (rs : Nat) (rt : Nat) (gn : Nat) (gc : Nat) (top : Int32) (bef : Int32) (ear : Int32) (nb : Nat → Int32) (nc : Nat → Int32) (nn : Nat → Int32) (ck : Nat → Int32) (cf : Nat → Int32) (cl : Nat → Int32) (ct : Nat → Int32) (co : Nat → Int32) (bk : Nat → Int32) (N : List Nd) (o : Int32) (b : Int32) (ea : Int32) (w : Int32) (hM : MR N gn gc nb nc nn ck cf cl ct co bk) : Met l yX7_node wsX7_node { frames := 3, cells := 0, slots := 0, locals := 66 } (roP D vwCl (ATy ca) [(ae, .inr (6, [.ref tx, .ref ic, .ref ox, .ref as_, .ref am, .ref at_, .ref iw, .ref ir, .long (lN ls_), .long (lN lr)])), (am, .inr (3, [.int (nI lim), .int (nI N.length), .ref qb, .ref qc, .ref qn, .int (nI (keysOf N).length), .ref kk, .ref kf, .ref kl, .ref kn, .ref ko, .ref kb, .int top, .int bef, .int ear, .int (nI rs), .int (nI rt)])), (qb, .inl (ca 0, gcap 6000 gn, .inl nb)), (qc, .inl (ca 0, gcap 6000 gn, .inl nc)), (qn, .inl (ca 0, gcap 6000 gn, .inl nn)), (kk, .inl (ca 0, gcap 6000 gc, .inl ck)), (kf, .inl (ca 0, gcap 6000 gc, .inl cf)), (kl, .inl (ca 0, gcap 6000 gc, .inl cl)), (kn, .inl (ca 0, gcap 6000 gc, .inl ct)), (ko, .inl (ca 0, gcap 6000 gc, .inl co)), (kb, .inl (ca 0, 256, .inl bk))] [.ref ae, .int o, .int b, .int ea, .int w]) (vp_Si (fun r : Int32 => r = ndI N o b ea w)) 0 0 (fun _ => False) := by
  refine ro_enter (by decide) rfl (Nat.le_of_ble_eq_true rfl) ?_
  intro p e s m below meth c ls C hK hN hP hl
  obtain ⟨hx, hb, hr, hml, hown, hlocks, hts⟩ := C
  have hl : lv_has ls 6 [(0, .ref ae), (1, .int o), (2, .int b), (3, .int ea), (4, .int w)] := hl
  have hin_X7 : ∀ w ∈ wsX70, w ∈ wsX7_node := by decide +kernel
  have hl_34 := hts (.fieldLink RX7 34 "EscapeCoder" "model" "LEscapeCoder$Model;") (by decide +kernel)
  obtain ⟨hC, hNR, hF, hl1, hl2, hok⟩ := id hM
  have hnd := keysOf_nd N
  have hgn := gcap_le 6000 gn
  have hgc := gcap_le 6000 gc
  refine lv_aload_n hx hb dX7_node_0 rfl (lv_at hl 0 rfl) ?_
  refine va_get (D := D) (ci := 6) (v := .ref am) (C := RX7) (T := TX7) (N := 10) hx hb hts hin_X7 hown hK hP 0 rfl rfl 4 (by decide) hl_34 (fun _ h9 => h9) rfl dX7_node_1 ?_
  refine lv_iload_n hx hb dX7_node_4 rfl (lv_at hl 1 rfl) ?_
  refine lv_iload_n hx hb dX7_node_5 rfl (lv_at hl 2 rfl) ?_
  refine lv_iload_n hx hb dX7_node_6 rfl (lv_at hl 3 rfl) ?_
  refine vp_callSi (va_Run.run (va_runS (As := [.int o, .int b, .int ea]) (rest := [.ref am]) ⟨hx, hb, hml, hown, hts⟩ (c_keyOf l D ca o b ea ) (va_cwS 3 hts gX7_node_X7_keyOf rfl rfl rfl (by decide +kernel) ⟨Nat.le_of_ble_eq_true rfl, Nat.le_of_ble_eq_true rfl⟩) ⟨roP_blind, roP_at hK hN (hP.sub [] rfl)⟩ rfl rfl hl.1 rfl (lv_room (Nat.le_of_ble_eq_true rfl)) dX7_node_7 ⟨Nat.le_of_ble_eq_true rfl, Nat.le_of_ble_eq_true rfl⟩)) (fun r_1 hq => ?_)
  rcases hko : kO o b ea with _ | k
  · rw [hko] at hq
    subst hq
    refine vp_callSi (va_Run.run (va_runV (As := [.int (-1)]) (rest := []) ⟨hx, hb, hml, hown, hts⟩ (c_M_find_n l D ca am qb qc qn kk kf kl kn ko kb lim N.length ((keysOf N).length) top bef ear (nI rs) (nI rt) ) (cwV 1 hts gX7_node_X4_find rfl rfl rfl (by decide +kernel) ⟨Nat.le_of_ble_eq_true rfl, Nat.le_of_ble_eq_true rfl⟩) ⟨roP_blind, va_recv hK hP (ci := 3) (q0 := 1) rfl rfl, roP_at hK hN (hP.sub [1] rfl)⟩ rfl rfl hl.1 rfl (lv_room (Nat.le_of_ble_eq_true rfl)) dX7_node_10 ⟨Nat.le_of_ble_eq_true rfl, Nat.le_of_ble_eq_true rfl⟩)) (fun r_2 hq => ?_)
    subst hq
    refine lv_istore (lv' := [(5, .int (-1)), (0, .ref ae), (1, .int o), (2, .int b), (3, .int ea), (4, .int w)]) hx hb dX7_node_13 hl (by decide) rfl (fun ls hl => ?_)
    refine lv_aload_n hx hb dX7_node_15 rfl (lv_at hl 1 rfl) ?_
    refine va_get (D := D) (ci := 6) (v := .ref am) (C := RX7) (T := TX7) (N := 10) hx hb hts hin_X7 hown hK hP 0 rfl rfl 4 (by decide) hl_34 (fun _ h9 => h9) rfl dX7_node_16 ?_
    refine lv_aload_n hx hb dX7_node_19 rfl (lv_at hl 1 rfl) ?_
    refine va_get (D := D) (ci := 6) (v := .ref am) (C := RX7) (T := TX7) (N := 10) hx hb hts hin_X7 hown hK hP 0 rfl rfl 4 (by decide) hl_34 (fun _ h9 => h9) rfl dX7_node_20 ?_
    refine lv_iload hx hb dX7_node_23 (lv_at hl 0 rfl) ?_
    refine lv_iload hx hb dX7_node_25 (lv_at hl 5 rfl) ?_
    refine vp_callSi (va_Run.run (va_runV (As := [.int (-1), .int w]) (rest := [.ref am]) ⟨hx, hb, hml, hown, hts⟩ (c_M_nodeAt_n l D ca am qb qc qn kk kf kl kn ko kb lim N.length ((keysOf N).length) top bef ear (nI rs) (nI rt) w ) (cwV 2 hts gX7_node_X4_nodeAt rfl rfl rfl (by decide +kernel) ⟨Nat.le_of_ble_eq_true rfl, Nat.le_of_ble_eq_true rfl⟩) ⟨roP_blind, va_recv hK hP (ci := 3) (q0 := 1) rfl rfl, roP_at hK hN (hP.sub [1] rfl)⟩ rfl rfl hl.1 rfl (lv_room (Nat.le_of_ble_eq_true rfl)) dX7_node_27 ⟨Nat.le_of_ble_eq_true rfl, Nat.le_of_ble_eq_true rfl⟩)) (fun r_3 hq => ?_)
    subst hq
    refine vp_callSi (va_Run.run (va_runV (As := [.int (-1)]) (rest := []) ⟨hx, hb, hml, hown, hts⟩ (c_M_byteOf_n l D ca am qb qc qn kk kf kl kn ko kb lim N.length ((keysOf N).length) top bef ear (nI rs) (nI rt) ) (cwV 1 hts gX7_node_X4_byteOf rfl rfl rfl (by decide +kernel) ⟨Nat.le_of_ble_eq_true rfl, Nat.le_of_ble_eq_true rfl⟩) ⟨roP_blind, va_recv hK hP (ci := 3) (q0 := 1) rfl rfl, roP_at hK hN (hP.sub [1] rfl)⟩ rfl rfl hl.1 rfl (lv_room (Nat.le_of_ble_eq_true rfl)) dX7_node_30 ⟨Nat.le_of_ble_eq_true rfl, Nat.le_of_ble_eq_true rfl⟩)) (fun r_4 hq => ?_)
    subst hq
    exact ro_iret hx hb hr hlocks (by unfold ndI; rw [hko]) dX7_node_33
  · have hkl := kO_lt hko
    rw [hko] at hq
    subst hq
    refine vp_callSi (va_Run.run (va_runV (As := [.int (nI k)]) (rest := []) ⟨hx, hb, hml, hown, hts⟩ (c_M_find_s l D ca am qb qc qn kk kf kl kn ko kb lim N.length top bef ear (nI rs) (nI rt) gc ck co bk (keysOf N) k (hC) (hnd) (hl2) (hkl)) (cwV 1 hts gX7_node_X4_find rfl rfl rfl (by decide +kernel) ⟨Nat.le_of_ble_eq_true rfl, Nat.le_of_ble_eq_true rfl⟩) ⟨roP_blind, va_recv hK hP (ci := 3) (q0 := 1) rfl rfl, roP_at hK hN (hP.sub [1, 5, 9, 10] rfl)⟩ rfl rfl hl.1 rfl (lv_room (Nat.le_of_ble_eq_true rfl)) dX7_node_10 ⟨Nat.le_of_ble_eq_true rfl, Nat.le_of_ble_eq_true rfl⟩)) (fun r_5 hq => ?_)
    rcases hcx : cix (keysOf N) k with _ | d
    · rw [hcx] at hq
      subst hq
      refine lv_istore (lv' := [(5, .int (-1)), (0, .ref ae), (1, .int o), (2, .int b), (3, .int ea), (4, .int w)]) hx hb dX7_node_13 hl (by decide) rfl (fun ls hl => ?_)
      refine lv_aload_n hx hb dX7_node_15 rfl (lv_at hl 1 rfl) ?_
      refine va_get (D := D) (ci := 6) (v := .ref am) (C := RX7) (T := TX7) (N := 10) hx hb hts hin_X7 hown hK hP 0 rfl rfl 4 (by decide) hl_34 (fun _ h9 => h9) rfl dX7_node_16 ?_
      refine lv_aload_n hx hb dX7_node_19 rfl (lv_at hl 1 rfl) ?_
      refine va_get (D := D) (ci := 6) (v := .ref am) (C := RX7) (T := TX7) (N := 10) hx hb hts hin_X7 hown hK hP 0 rfl rfl 4 (by decide) hl_34 (fun _ h9 => h9) rfl dX7_node_20 ?_
      refine lv_iload hx hb dX7_node_23 (lv_at hl 0 rfl) ?_
      refine lv_iload hx hb dX7_node_25 (lv_at hl 5 rfl) ?_
      refine vp_callSi (va_Run.run (va_runV (As := [.int (-1), .int w]) (rest := [.ref am]) ⟨hx, hb, hml, hown, hts⟩ (c_M_nodeAt_n l D ca am qb qc qn kk kf kl kn ko kb lim N.length ((keysOf N).length) top bef ear (nI rs) (nI rt) w ) (cwV 2 hts gX7_node_X4_nodeAt rfl rfl rfl (by decide +kernel) ⟨Nat.le_of_ble_eq_true rfl, Nat.le_of_ble_eq_true rfl⟩) ⟨roP_blind, va_recv hK hP (ci := 3) (q0 := 1) rfl rfl, roP_at hK hN (hP.sub [1] rfl)⟩ rfl rfl hl.1 rfl (lv_room (Nat.le_of_ble_eq_true rfl)) dX7_node_27 ⟨Nat.le_of_ble_eq_true rfl, Nat.le_of_ble_eq_true rfl⟩)) (fun r_6 hq => ?_)
      subst hq
      refine vp_callSi (va_Run.run (va_runV (As := [.int (-1)]) (rest := []) ⟨hx, hb, hml, hown, hts⟩ (c_M_byteOf_n l D ca am qb qc qn kk kf kl kn ko kb lim N.length ((keysOf N).length) top bef ear (nI rs) (nI rt) ) (cwV 1 hts gX7_node_X4_byteOf rfl rfl rfl (by decide +kernel) ⟨Nat.le_of_ble_eq_true rfl, Nat.le_of_ble_eq_true rfl⟩) ⟨roP_blind, va_recv hK hP (ci := 3) (q0 := 1) rfl rfl, roP_at hK hN (hP.sub [1] rfl)⟩ rfl rfl hl.1 rfl (lv_room (Nat.le_of_ble_eq_true rfl)) dX7_node_30 ⟨Nat.le_of_ble_eq_true rfl, Nat.le_of_ble_eq_true rfl⟩)) (fun r_7 hq => ?_)
      subst hq
      exact ro_iret hx hb hr hlocks (by unfold ndI; rw [hko]; dsimp only; rw [kF_key (cix_n hcx), if_neg (by simp)]) dX7_node_33
    · obtain ⟨hdl, hdk⟩ := cix_s hcx
      obtain ⟨hf1, hf2, hf3⟩ := hF d hdl
      rw [hdk] at hf1 hf2 hf3
      rw [hcx] at hq
      subst hq
      refine lv_istore (lv' := [(5, .int (nI d)), (0, .ref ae), (1, .int o), (2, .int b), (3, .int ea), (4, .int w)]) hx hb dX7_node_13 hl (by decide) rfl (fun ls hl => ?_)
      refine lv_aload_n hx hb dX7_node_15 rfl (lv_at hl 1 rfl) ?_
      refine va_get (D := D) (ci := 6) (v := .ref am) (C := RX7) (T := TX7) (N := 10) hx hb hts hin_X7 hown hK hP 0 rfl rfl 4 (by decide) hl_34 (fun _ h9 => h9) rfl dX7_node_16 ?_
      refine lv_aload_n hx hb dX7_node_19 rfl (lv_at hl 1 rfl) ?_
      refine va_get (D := D) (ci := 6) (v := .ref am) (C := RX7) (T := TX7) (N := 10) hx hb hts hin_X7 hown hK hP 0 rfl rfl 4 (by decide) hl_34 (fun _ h9 => h9) rfl dX7_node_20 ?_
      refine lv_iload hx hb dX7_node_23 (lv_at hl 0 rfl) ?_
      refine lv_iload hx hb dX7_node_25 (lv_at hl 5 rfl) ?_
      refine vp_callSi (va_Run.run (va_runV (As := [.int (nI d), .int w]) (rest := [.ref am]) ⟨hx, hb, hml, hown, hts⟩ (c_M_nodeAt_s l D ca am qb qc qn kk kf kl kn ko kb lim ((keysOf N).length) top bef ear (nI rs) (nI rt) gn gc d cf ct nn N k w (hf1) (hf3) (hdl) (hl2) (hl1) (fun j hj => (hNR j hj).2.2)) (cwV 2 hts gX7_node_X4_nodeAt rfl rfl rfl (by decide +kernel) ⟨Nat.le_of_ble_eq_true rfl, Nat.le_of_ble_eq_true rfl⟩) ⟨roP_blind, va_recv hK hP (ci := 3) (q0 := 1) rfl rfl, roP_at hK hN (hP.sub [1, 6, 8, 4] rfl)⟩ rfl rfl hl.1 rfl (lv_room (Nat.le_of_ble_eq_true rfl)) dX7_node_27 ⟨Nat.le_of_ble_eq_true rfl, Nat.le_of_ble_eq_true rfl⟩)) (fun r_8 hq => ?_)
      rcases hq with ⟨hw1, hq⟩ | ⟨j, hq, hj, hw1, hw2⟩
      · subst hq
        refine vp_callSi (va_Run.run (va_runV (As := [.int (-1)]) (rest := []) ⟨hx, hb, hml, hown, hts⟩ (c_M_byteOf_n l D ca am qb qc qn kk kf kl kn ko kb lim N.length ((keysOf N).length) top bef ear (nI rs) (nI rt) ) (cwV 1 hts gX7_node_X4_byteOf rfl rfl rfl (by decide +kernel) ⟨Nat.le_of_ble_eq_true rfl, Nat.le_of_ble_eq_true rfl⟩) ⟨roP_blind, va_recv hK hP (ci := 3) (q0 := 1) rfl rfl, roP_at hK hN (hP.sub [1] rfl)⟩ rfl rfl hl.1 rfl (lv_room (Nat.le_of_ble_eq_true rfl)) dX7_node_30 ⟨Nat.le_of_ble_eq_true rfl, Nat.le_of_ble_eq_true rfl⟩)) (fun r_9 hq => ?_)
        subst hq
        exact ro_iret hx hb hr hlocks (by unfold ndI; rw [hko]; dsimp only; rw [if_neg hw1]) dX7_node_33
      · subst hq
        refine vp_callSi (va_Run.run (va_runV (As := [.int (nI j)]) (rest := []) ⟨hx, hb, hml, hown, hts⟩ (c_M_byteOf_s l D ca am qb qc qn kk kf kl kn ko kb lim N.length ((keysOf N).length) top bef ear (nI rs) (nI rt) j gn nb (hj) (hl1)) (cwV 1 hts gX7_node_X4_byteOf rfl rfl rfl (by decide +kernel) ⟨Nat.le_of_ble_eq_true rfl, Nat.le_of_ble_eq_true rfl⟩) ⟨roP_blind, va_recv hK hP (ci := 3) (q0 := 1) rfl rfl, roP_at hK hN (hP.sub [1, 2] rfl)⟩ rfl rfl hl.1 rfl (lv_room (Nat.le_of_ble_eq_true rfl)) dX7_node_30 ⟨Nat.le_of_ble_eq_true rfl, Nat.le_of_ble_eq_true rfl⟩)) (fun r_10 hq => ?_)
        exact ro_iret hx hb hr hlocks (by unfold ndI; rw [hko]; dsimp only; rw [if_pos hw1, hq, ← hw2]; exact (hNR j hj).1) dX7_node_33

set_option maxHeartbeats 4000000 in
set_option maxRecDepth 100000 in
theorem c_E_note_W (l : Launch) (D : va_G) (ca : Nat → ClassId) (ae : Nat) (tx : Nat) (ic : Nat) (ox : Nat) (as_ : Nat) (am : Nat) (at_ : Nat) (iw : Nat) (ir : Nat) (ls_ : Nat) (lr : Nat) (R : Nat) (sh : Nat) (lo : Int64) (hsh : sh < 2 ^ 31) (sz : Nat) : Met l yX7_noteEnd wsX7_noteEnd { frames := 1, cells := 0, slots := 0, locals := 20 } (rwP D vwCl (ATy ca) [(ae, .inr (6, [.ref tx, .ref ic, .ref ox, .ref as_, .ref am, .ref at_, .ref iw, .ref ir, .long (lN ls_), .long (lN lr)])), (iw, .inr (2, [.long (lN R), .int (nI sh), .ref ic, .long lo]))] sz [.ref ae, .ref iw]) (va_Qv (fun (u : Unit) => True) (bB D vwCl (fun (u : Unit) => [(ae, .inr (6, [.ref tx, .ref ic, .ref ox, .ref as_, .ref am, .ref at_, .ref iw, .ref ir, .long (lN sh), .long (lN R)])), (iw, .inr (2, [.long (lN R), .int (nI sh), .ref ic, .long lo]))]) (va_A [(ae, .inr (6, [.ref tx, .ref ic, .ref ox, .ref as_, .ref am, .ref at_, .ref iw, .ref ir, .long (lN ls_), .long (lN lr)])), (iw, .inr (2, [.long (lN R), .int (nI sh), .ref ic, .long lo]))] sz)) (va_A [(ae, .inr (6, [.ref tx, .ref ic, .ref ox, .ref as_, .ref am, .ref at_, .ref iw, .ref ir, .long (lN ls_), .long (lN lr)])), (iw, .inr (2, [.long (lN R), .int (nI sh), .ref ic, .long lo]))] sz)) 0 0 (va_A [(ae, .inr (6, [.ref tx, .ref ic, .ref ox, .ref as_, .ref am, .ref at_, .ref iw, .ref ir, .long (lN ls_), .long (lN lr)])), (iw, .inr (2, [.long (lN R), .int (nI sh), .ref ic, .long lo]))] sz) := by
  refine rw_enter (Q := fun A => va_Qv (fun (u : Unit) => True) (bB D vwCl (fun (u : Unit) => [(ae, .inr (6, [.ref tx, .ref ic, .ref ox, .ref as_, .ref am, .ref at_, .ref iw, .ref ir, .long (lN sh), .long (lN R)])), (iw, .inr (2, [.long (lN R), .int (nI sh), .ref ic, .long lo]))]) A) A) (by decide) rfl (Nat.le_of_ble_eq_true rfl) ?_
  intro p e s m below meth c ls A C hnm hK hN hP hD hA hl
  have hS : va_S A s.heap s.heap [] := va_S.rf
  obtain ⟨hx, hb, hr, hml, hown, hlocks, hts⟩ := C
  have hl : lv_has ls 2 [(0, .ref ae), (1, .ref iw)] := hl
  have hin_X7 : ∀ w ∈ wsX70, w ∈ wsX7_noteEnd := by decide +kernel
  have hl_73 := hts (.fieldLink RX7 73 "EscapeCoder" "latestShifts" "J") (by decide +kernel)
  have hl_77 := hts (.fieldLink RX7 77 "EscapeCoder" "latestRange" "J") (by decide +kernel)
  refine lv_aload_n hx hb dX7_noteEnd_0 rfl (lv_at hl 0 rfl) ?_
  refine lv_aload_n hx hb dX7_noteEnd_1 rfl (lv_at hl 1 rfl) ?_
  refine vp_callSi (va_Run.run (va_runU (As := []) (rest := [.ref ae]) ⟨hx, hb, hml, hown, hts⟩ (c_W_shifts l D ca iw ic (lN R) lo (nI sh) ) (va_cwU 0 hts gX7_noteEnd_X3_shifts_u173X2 rfl rfl rfl rfl (by decide +kernel) ⟨Nat.le_of_ble_eq_true rfl, Nat.le_of_ble_eq_true rfl⟩) ⟨roP_blind, va_recv hK hP (ci := 2) (q0 := 1) rfl rfl, roP_at hK hN (hP.sub [1] rfl)⟩ rfl rfl hl.1 rfl (lv_room (Nat.le_of_ble_eq_true rfl)) dX7_noteEnd_2 ⟨Nat.le_of_ble_eq_true rfl, Nat.le_of_ble_eq_true rfl⟩)) (fun r_1 hq => ?_)
  subst hq
  refine lv_i2l (v := lN sh) hx hb dX7_noteEnd_5 (nI_l (by omega)) ?_
  refine va_put (D := D) (ci := 6) (v := .long (lN sh)) (ty := .long) (C := RX7) (T := TX7) (N := 10) hx hb hts hin_X7 tyX7 tyX7_ok nmX7 hown hK hP hD hS 0 rfl rfl 8 (by decide) hl_73 (fun _ h9 => h9) rfl (by decide +kernel) rfl rfl (Nat.le_of_ble_eq_true rfl) dX7_noteEnd_6 (fun H locs hP hD hS => ?_)
  have hP : va_P D vwCl [(ae, .inr (6, [.ref tx, .ref ic, .ref ox, .ref as_, .ref am, .ref at_, .ref iw, .ref ir, .long (lN sh), .long (lN lr)])), (iw, .inr (2, [.long (lN R), .int (nI sh), .ref ic, .long lo]))] H := hP
  have hD : va_D A [(ae, .inr (6, [.ref tx, .ref ic, .ref ox, .ref as_, .ref am, .ref at_, .ref iw, .ref ir, .long (lN sh), .long (lN lr)])), (iw, .inr (2, [.long (lN R), .int (nI sh), .ref ic, .long lo]))] := hD
  refine lv_aload_n hx hb dX7_noteEnd_9 rfl (lv_at hl 0 rfl) ?_
  refine lv_aload_n hx hb dX7_noteEnd_10 rfl (lv_at hl 1 rfl) ?_
  refine vp_callSl (va_Run.run (va_runU (As := []) (rest := [.ref ae]) ⟨hx, hb, hml, hown, hts⟩ (c_W_range l D ca iw ic (lN R) lo (nI sh) ) (va_cwU 0 hts gX7_noteEnd_X3_range_u176X2 rfl rfl rfl rfl (by decide +kernel) ⟨Nat.le_of_ble_eq_true rfl, Nat.le_of_ble_eq_true rfl⟩) ⟨roP_blind, va_recv hK hP (ci := 2) (q0 := 1) rfl rfl, roP_at hK hN (hP.sub [1] rfl)⟩ rfl rfl hl.1 rfl (lv_room (Nat.le_of_ble_eq_true rfl)) dX7_noteEnd_11 ⟨Nat.le_of_ble_eq_true rfl, Nat.le_of_ble_eq_true rfl⟩)) (fun r_2 hq => ?_)
  subst hq
  refine va_put (D := D) (ci := 6) (v := .long (lN R)) (ty := .long) (C := RX7) (T := TX7) (N := 10) hx hb hts hin_X7 tyX7 tyX7_ok nmX7 hown hK hP hD hS 0 rfl rfl 9 (by decide) hl_77 (fun _ h9 => h9) rfl (by decide +kernel) rfl rfl (Nat.le_of_ble_eq_true rfl) dX7_noteEnd_14 (fun H locs hP hD hS => ?_)
  have hP : va_P D vwCl [(ae, .inr (6, [.ref tx, .ref ic, .ref ox, .ref as_, .ref am, .ref at_, .ref iw, .ref ir, .long (lN sh), .long (lN R)])), (iw, .inr (2, [.long (lN R), .int (nI sh), .ref ic, .long lo]))] H := hP
  have hD : va_D A [(ae, .inr (6, [.ref tx, .ref ic, .ref ox, .ref as_, .ref am, .ref at_, .ref iw, .ref ir, .long (lN sh), .long (lN R)])), (iw, .inr (2, [.long (lN R), .int (nI sh), .ref ic, .long lo]))] := hD
  exact rw_vret (u := ()) hx hb hr hlocks (trivial) (hP.sub [0, 1] rfl) (hD.sub [0, 1] (by decide) rfl) hS (Nat.le_refl _) (Nat.le_refl _) dX7_noteEnd_17

set_option maxHeartbeats 4000000 in
set_option maxRecDepth 100000 in
theorem c_E_note_R (l : Launch) (D : va_G) (ca : Nat → ClassId) (ae : Nat) (tx : Nat) (ic : Nat) (ox : Nat) (as_ : Nat) (am : Nat) (at_ : Nat) (iw : Nat) (ir : Nat) (ls_ : Nat) (lr : Nat) (R : Nat) (sh : Nat) (lo : Int64) (tk : Int32) (hsh : sh < 2 ^ 31) (sz : Nat) : Met l yX7_noteEnd wsX7_noteEnd { frames := 1, cells := 0, slots := 0, locals := 20 } (rwP D vwCl (ATy ca) [(ae, .inr (6, [.ref tx, .ref ic, .ref ox, .ref as_, .ref am, .ref at_, .ref iw, .ref ir, .long (lN ls_), .long (lN lr)])), (ir, .inr (1, [.long (lN R), .int (nI sh), .ref ic, .long lo, .int tk]))] sz [.ref ae, .ref ir]) (va_Qv (fun (u : Unit) => True) (bB D vwCl (fun (u : Unit) => [(ae, .inr (6, [.ref tx, .ref ic, .ref ox, .ref as_, .ref am, .ref at_, .ref iw, .ref ir, .long (lN sh), .long (lN R)])), (ir, .inr (1, [.long (lN R), .int (nI sh), .ref ic, .long lo, .int tk]))]) (va_A [(ae, .inr (6, [.ref tx, .ref ic, .ref ox, .ref as_, .ref am, .ref at_, .ref iw, .ref ir, .long (lN ls_), .long (lN lr)])), (ir, .inr (1, [.long (lN R), .int (nI sh), .ref ic, .long lo, .int tk]))] sz)) (va_A [(ae, .inr (6, [.ref tx, .ref ic, .ref ox, .ref as_, .ref am, .ref at_, .ref iw, .ref ir, .long (lN ls_), .long (lN lr)])), (ir, .inr (1, [.long (lN R), .int (nI sh), .ref ic, .long lo, .int tk]))] sz)) 0 0 (va_A [(ae, .inr (6, [.ref tx, .ref ic, .ref ox, .ref as_, .ref am, .ref at_, .ref iw, .ref ir, .long (lN ls_), .long (lN lr)])), (ir, .inr (1, [.long (lN R), .int (nI sh), .ref ic, .long lo, .int tk]))] sz) := by
  refine rw_enter (Q := fun A => va_Qv (fun (u : Unit) => True) (bB D vwCl (fun (u : Unit) => [(ae, .inr (6, [.ref tx, .ref ic, .ref ox, .ref as_, .ref am, .ref at_, .ref iw, .ref ir, .long (lN sh), .long (lN R)])), (ir, .inr (1, [.long (lN R), .int (nI sh), .ref ic, .long lo, .int tk]))]) A) A) (by decide) rfl (Nat.le_of_ble_eq_true rfl) ?_
  intro p e s m below meth c ls A C hnm hK hN hP hD hA hl
  have hS : va_S A s.heap s.heap [] := va_S.rf
  obtain ⟨hx, hb, hr, hml, hown, hlocks, hts⟩ := C
  have hl : lv_has ls 2 [(0, .ref ae), (1, .ref ir)] := hl
  have hin_X7 : ∀ w ∈ wsX70, w ∈ wsX7_noteEnd := by decide +kernel
  have hl_73 := hts (.fieldLink RX7 73 "EscapeCoder" "latestShifts" "J") (by decide +kernel)
  have hl_77 := hts (.fieldLink RX7 77 "EscapeCoder" "latestRange" "J") (by decide +kernel)
  refine lv_aload_n hx hb dX7_noteEnd_0 rfl (lv_at hl 0 rfl) ?_
  refine lv_aload_n hx hb dX7_noteEnd_1 rfl (lv_at hl 1 rfl) ?_
  refine vp_callSi (va_Run.run (va_runU (As := []) (rest := [.ref ae]) ⟨hx, hb, hml, hown, hts⟩ (c_R_shifts l D ca ir ic (lN R) lo (nI sh) tk ) (va_cwU 0 hts gX7_noteEnd_X3_shifts_u173X1 rfl rfl rfl rfl (by decide +kernel) ⟨Nat.le_of_ble_eq_true rfl, Nat.le_of_ble_eq_true rfl⟩) ⟨roP_blind, va_recv hK hP (ci := 1) (q0 := 1) rfl rfl, roP_at hK hN (hP.sub [1] rfl)⟩ rfl rfl hl.1 rfl (lv_room (Nat.le_of_ble_eq_true rfl)) dX7_noteEnd_2 ⟨Nat.le_of_ble_eq_true rfl, Nat.le_of_ble_eq_true rfl⟩)) (fun r_1 hq => ?_)
  subst hq
  refine lv_i2l (v := lN sh) hx hb dX7_noteEnd_5 (nI_l (by omega)) ?_
  refine va_put (D := D) (ci := 6) (v := .long (lN sh)) (ty := .long) (C := RX7) (T := TX7) (N := 10) hx hb hts hin_X7 tyX7 tyX7_ok nmX7 hown hK hP hD hS 0 rfl rfl 8 (by decide) hl_73 (fun _ h9 => h9) rfl (by decide +kernel) rfl rfl (Nat.le_of_ble_eq_true rfl) dX7_noteEnd_6 (fun H locs hP hD hS => ?_)
  have hP : va_P D vwCl [(ae, .inr (6, [.ref tx, .ref ic, .ref ox, .ref as_, .ref am, .ref at_, .ref iw, .ref ir, .long (lN sh), .long (lN lr)])), (ir, .inr (1, [.long (lN R), .int (nI sh), .ref ic, .long lo, .int tk]))] H := hP
  have hD : va_D A [(ae, .inr (6, [.ref tx, .ref ic, .ref ox, .ref as_, .ref am, .ref at_, .ref iw, .ref ir, .long (lN sh), .long (lN lr)])), (ir, .inr (1, [.long (lN R), .int (nI sh), .ref ic, .long lo, .int tk]))] := hD
  refine lv_aload_n hx hb dX7_noteEnd_9 rfl (lv_at hl 0 rfl) ?_
  refine lv_aload_n hx hb dX7_noteEnd_10 rfl (lv_at hl 1 rfl) ?_
  refine vp_callSl (va_Run.run (va_runU (As := []) (rest := [.ref ae]) ⟨hx, hb, hml, hown, hts⟩ (c_R_range l D ca ir ic (lN R) lo (nI sh) tk ) (va_cwU 0 hts gX7_noteEnd_X3_range_u176X1 rfl rfl rfl rfl (by decide +kernel) ⟨Nat.le_of_ble_eq_true rfl, Nat.le_of_ble_eq_true rfl⟩) ⟨roP_blind, va_recv hK hP (ci := 1) (q0 := 1) rfl rfl, roP_at hK hN (hP.sub [1] rfl)⟩ rfl rfl hl.1 rfl (lv_room (Nat.le_of_ble_eq_true rfl)) dX7_noteEnd_11 ⟨Nat.le_of_ble_eq_true rfl, Nat.le_of_ble_eq_true rfl⟩)) (fun r_2 hq => ?_)
  subst hq
  refine va_put (D := D) (ci := 6) (v := .long (lN R)) (ty := .long) (C := RX7) (T := TX7) (N := 10) hx hb hts hin_X7 tyX7 tyX7_ok nmX7 hown hK hP hD hS 0 rfl rfl 9 (by decide) hl_77 (fun _ h9 => h9) rfl (by decide +kernel) rfl rfl (Nat.le_of_ble_eq_true rfl) dX7_noteEnd_14 (fun H locs hP hD hS => ?_)
  have hP : va_P D vwCl [(ae, .inr (6, [.ref tx, .ref ic, .ref ox, .ref as_, .ref am, .ref at_, .ref iw, .ref ir, .long (lN sh), .long (lN R)])), (ir, .inr (1, [.long (lN R), .int (nI sh), .ref ic, .long lo, .int tk]))] H := hP
  have hD : va_D A [(ae, .inr (6, [.ref tx, .ref ic, .ref ox, .ref as_, .ref am, .ref at_, .ref iw, .ref ir, .long (lN sh), .long (lN R)])), (ir, .inr (1, [.long (lN R), .int (nI sh), .ref ic, .long lo, .int tk]))] := hD
  exact rw_vret (u := ()) hx hb hr hlocks (trivial) (hP.sub [0, 1] rfl) (hD.sub [0, 1] (by decide) rfl) hS (Nat.le_refl _) (Nat.le_refl _) dX7_noteEnd_17
