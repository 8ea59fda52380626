set_option maxHeartbeats 4000000 in
set_option maxRecDepth 100000 in
theorem c_W_raise (l : Launch) (D : va_G) (ca : Nat → ClassId) (a : Nat) (cb : Nat) (q : Nat) (gr : Nat) (R : Nat) (sh : Nat) (x : Nat) (n : Nat) (f : Nat → Int32) (by_ : Nat) (hB : BR f (dig n (x / 4294967296))) (hL : n ≤ gcap 8000 gr) (hby : by_ < 4294967296) (sz : Nat) : Met l yX2_raiseLow wsX2_raiseLow { frames := 1, cells := 0, slots := 0, locals := 21 } (rwP D vwCl (ATy ca) [(a, .inr (2, [.long (lN R), .int (nI sh), .ref cb, .long (lN (x % 4294967296))])), (cb, .inr (0, [.int (nI 8000), .ref q, .int (nI (dig n (x / 4294967296)).length)])), (q, .inl (ca 0, gcap 8000 gr, .inl f))] sz [.ref a, .long (lN by_)]) (va_Qv (fun (u : (Nat → Int32)) => BR u (dig n ((x + by_) / 4294967296))) (bB D vwCl (fun (u : (Nat → Int32)) => [(a, .inr (2, [.long (lN R), .int (nI sh), .ref cb, .long (lN ((x + by_) % 4294967296))])), (cb, .inr (0, [.int (nI 8000), .ref q, .int (nI (dig n ((x + by_) / 4294967296)).length)])), (q, .inl (ca 0, gcap 8000 gr, .inl u))]) (va_A [(a, .inr (2, [.long (lN R), .int (nI sh), .ref cb, .long (lN (x % 4294967296))])), (cb, .inr (0, [.int (nI 8000), .ref q, .int (nI (dig n (x / 4294967296)).length)])), (q, .inl (ca 0, gcap 8000 gr, .inl f))] sz)) (va_A [(a, .inr (2, [.long (lN R), .int (nI sh), .ref cb, .long (lN (x % 4294967296))])), (cb, .inr (0, [.int (nI 8000), .ref q, .int (nI (dig n (x / 4294967296)).length)])), (q, .inl (ca 0, gcap 8000 gr, .inl f))] sz)) 0 0 (va_A [(a, .inr (2, [.long (lN R), .int (nI sh), .ref cb, .long (lN (x % 4294967296))])), (cb, .inr (0, [.int (nI 8000), .ref q, .int (nI (dig n (x / 4294967296)).length)])), (q, .inl (ca 0, gcap 8000 gr, .inl f))] sz) := by
  refine rw_enter (Q := fun A => va_Qv (fun (u : (Nat → Int32)) => BR u (dig n ((x + by_) / 4294967296))) (bB D vwCl (fun (u : (Nat → Int32)) => [(a, .inr (2, [.long (lN R), .int (nI sh), .ref cb, .long (lN ((x + by_) % 4294967296))])), (cb, .inr (0, [.int (nI 8000), .ref q, .int (nI (dig n ((x + by_) / 4294967296)).length)])), (q, .inl (ca 0, gcap 8000 gr, .inl u))]) A) A) (by decide) rfl (Nat.le_of_ble_eq_true rfl) ?_
  intro p e s m below meth c ls A C hnm hK hN hP hD hA hl
  have hS : va_S A s.heap s.heap [] := va_S.rf
  obtain ⟨hx, hb, hr, hml, hown, hlocks, hts⟩ := C
  have hl : lv_has ls 3 [(0, .ref a), (1, .long (lN by_))] := hl
  have hin_X2 : ∀ w ∈ wsX20, w ∈ wsX2_raiseLow := by decide +kernel
  have hl_23 := hts (.fieldLink RX2 23 "EscapeCoder$CodeWriter" "low" "J") (by decide +kernel)
  have hw_774d20 := hts (.constantLong RX2 27 (lN 4294967295)) (by decide +kernel)
  have hl_9 := hts (.fieldLink RX2 9 "EscapeCoder$CodeWriter" "code" "LEscapeCoder$ByteRow;") (by decide +kernel)
  refine lv_aload_n hx hb dX2_raiseLow_0 rfl (lv_at hl 0 rfl) ?_
  refine lv_dup hx hb dX2_raiseLow_1 rfl ?_
  refine va_get (D := D) (ci := 2) (v := .long (lN (x % 4294967296))) (C := RX2) (T := TX2) (N := 4) hx hb hts hin_X2 hown hK hP 0 rfl rfl 3 (by decide) hl_23 (fun _ h9 => h9) rfl dX2_raiseLow_2 ?_
  refine lv_lload_n hx hb dX2_raiseLow_5 rfl (lv_at hl 1 rfl) ?_
  refine lv_ladd hx hb dX2_raiseLow_6 ?_
  refine tp_l (y := lN (x % 4294967296 + by_)) (lN_add _ _) ?_
  refine va_put (D := D) (ci := 2) (v := .long (lN (x % 4294967296 + by_))) (ty := .long) (C := RX2) (T := TX2) (N := 4) hx hb hts hin_X2 tyX2 tyX2_ok nmX2 hown hK hP hD hS 0 rfl rfl 3 (by decide) hl_23 (fun _ h9 => h9) rfl (by decide +kernel) rfl rfl (Nat.le_of_ble_eq_true rfl) dX2_raiseLow_7 (fun H locs hP hD hS => ?_)
  have hP : va_P D vwCl [(a, .inr (2, [.long (lN R), .int (nI sh), .ref cb, .long (lN (x % 4294967296 + by_))])), (cb, .inr (0, [.int (nI 8000), .ref q, .int (nI (dig n (x / 4294967296)).length)])), (q, .inl (ca 0, gcap 8000 gr, .inl f))] H := hP
  have hD : va_D A [(a, .inr (2, [.long (lN R), .int (nI sh), .ref cb, .long (lN (x % 4294967296 + by_))])), (cb, .inr (0, [.int (nI 8000), .ref q, .int (nI (dig n (x / 4294967296)).length)])), (q, .inl (ca 0, gcap 8000 gr, .inl f))] := hD
  refine lv_aload_n hx hb dX2_raiseLow_10 rfl (lv_at hl 0 rfl) ?_
  refine va_get (D := D) (ci := 2) (v := .long (lN (x % 4294967296 + by_))) (C := RX2) (T := TX2) (N := 4) hx hb hts hin_X2 hown hK hP 0 rfl rfl 3 (by decide) hl_23 (fun _ h9 => h9) rfl dX2_raiseLow_11 ?_
  refine lv_ldc2 (v := lN 4294967295) hx hb hown hw_774d20 dX2_raiseLow_14 ?_
  refine W.lcmp hx hb dX2_raiseLow_17 ?_
  refine bl_le (tgt := 40) hx hb dX2_raiseLow_18 (by decide) (by omega) (by omega) (fun h1 => ?_) (fun h1 => ?_)
  · have e1 : (x + by_) % 4294967296 = x % 4294967296 + by_ := by omega
    have e2 : (x + by_) / 4294967296 = x / 4294967296 := by omega
    have hP : va_P D vwCl [(a, .inr (2, [.long (lN R), .int (nI sh), .ref cb, .long (lN ((x + by_) % 4294967296))])), (cb, .inr (0, [.int (nI 8000), .ref q, .int (nI (dig n ((x + by_) / 4294967296)).length)])), (q, .inl (ca 0, gcap 8000 gr, .inl f))] H := by rw [e1, e2]; exact hP
    have hD : va_D A [(a, .inr (2, [.long (lN R), .int (nI sh), .ref cb, .long (lN ((x + by_) % 4294967296))])), (cb, .inr (0, [.int (nI 8000), .ref q, .int (nI (dig n ((x + by_) / 4294967296)).length)])), (q, .inl (ca 0, gcap 8000 gr, .inl f))] := by rw [e1, e2]; exact hD
    exact rw_vret (u := f) hx hb hr hlocks (e2 ▸ hB) (hP.sub [0, 1, 2] rfl) (hD.sub [0, 1, 2] (by decide) rfl) hS (Nat.le_refl _) (Nat.le_refl _) dX2_raiseLow_40
  · refine lv_aload_n hx hb dX2_raiseLow_21 rfl (lv_at hl 0 rfl) ?_
    refine lv_dup hx hb dX2_raiseLow_22 rfl ?_
    refine va_get (D := D) (ci := 2) (v := .long (lN (x % 4294967296 + by_))) (C := RX2) (T := TX2) (N := 4) hx hb hts hin_X2 hown hK hP 0 rfl rfl 3 (by decide) hl_23 (fun _ h9 => h9) rfl dX2_raiseLow_23 ?_
    refine lv_ldc2 (v := lN 4294967295) hx hb hown hw_774d20 dX2_raiseLow_26 ?_
    refine lv_land hx hb dX2_raiseLow_29 ?_
    refine tp_l (y := lN ((x % 4294967296 + by_) % 4294967296)) (m32 (by omega)) ?_
    refine va_put (D := D) (ci := 2) (v := .long (lN ((x % 4294967296 + by_) % 4294967296))) (ty := .long) (C := RX2) (T := TX2) (N := 4) hx hb hts hin_X2 tyX2 tyX2_ok nmX2 hown hK hP hD hS 0 rfl rfl 3 (by decide) hl_23 (fun _ h9 => h9) rfl (by decide +kernel) rfl rfl (Nat.le_of_ble_eq_true rfl) dX2_raiseLow_30 (fun H locs hP hD hS => ?_)
    have hP : va_P D vwCl [(a, .inr (2, [.long (lN R), .int (nI sh), .ref cb, .long (lN ((x % 4294967296 + by_) % 4294967296))])), (cb, .inr (0, [.int (nI 8000), .ref q, .int (nI (dig n (x / 4294967296)).length)])), (q, .inl (ca 0, gcap 8000 gr, .inl f))] H := hP
    have hD : va_D A [(a, .inr (2, [.long (lN R), .int (nI sh), .ref cb, .long (lN ((x % 4294967296 + by_) % 4294967296))])), (cb, .inr (0, [.int (nI 8000), .ref q, .int (nI (dig n (x / 4294967296)).length)])), (q, .inl (ca 0, gcap 8000 gr, .inl f))] := hD
    refine lv_aload_n hx hb dX2_raiseLow_33 rfl (lv_at hl 0 rfl) ?_
    refine va_get (D := D) (ci := 2) (v := .ref cb) (C := RX2) (T := TX2) (N := 4) hx hb hts hin_X2 hown hK hP 0 rfl rfl 2 (by decide) hl_9 (fun _ h9 => h9) rfl dX2_raiseLow_34 ?_
    refine rw_callv (wc := [(cb, .inr (0, [.int (nI 8000), .ref q, .int (nI (dig n (x / 4294967296)).length)])), (q, .inl (ca 0, gcap 8000 gr, .inl f))]) (wr := [(a, .inr (2, [.long (lN R), .int (nI sh), .ref cb, .long (lN ((x % 4294967296 + by_) % 4294967296))]))]) hP hD hS hA [1, 2] [0] rfl rfl (by decide) (by decide) (va_runV (As := []) (rest := []) ⟨hx, hb, hml, hown, hts⟩ (c_BR_carry l D ca cb q 8000 gr f (dig n (x / 4294967296)) (hB) (by rw [dig_len]; exact hL) (by decide) (dig_lt _ _) H.size) (cwV 0 hts gX2_raiseLow_X0_carry rfl rfl rfl (by decide +kernel) ⟨Nat.le_of_ble_eq_true rfl, Nat.le_of_ble_eq_true rfl⟩) ⟨rwP_blind, va_recv hK hP (ci := 0) (q0 := 1) rfl rfl, rwP_at hK hN (hP.sub [1, 2] rfl) (hD.sub [1, 2] (by decide) rfl)⟩ rfl rfl hl.1 rfl (lv_room (Nat.le_of_ble_eq_true rfl)) dX2_raiseLow_37 ⟨Nat.le_of_ble_eq_true rfl, Nat.le_of_ble_eq_true rfl⟩) (fun u H locs hq hP hD hS => ?_)
    obtain ⟨f1_2, rfl⟩ : ∃ z, z = u := ⟨_, rfl⟩
    try dsimp only at hq
    have hP : va_P D vwCl [(a, .inr (2, [.long (lN R), .int (nI sh), .ref cb, .long (lN ((x % 4294967296 + by_) % 4294967296))])), (cb, .inr (0, [.int (nI 8000), .ref q, .int (nI (cryL (dig n (x / 4294967296)) (dig n (x / 4294967296)).length).length)])), (q, .inl (ca 0, gcap 8000 gr, .inl f1_2))] H := hP
    have hD : va_D A [(a, .inr (2, [.long (lN R), .int (nI sh), .ref cb, .long (lN ((x % 4294967296 + by_) % 4294967296))])), (cb, .inr (0, [.int (nI 8000), .ref q, .int (nI (cryL (dig n (x / 4294967296)) (dig n (x / 4294967296)).length).length)])), (q, .inl (ca 0, gcap 8000 gr, .inl f1_2))] := hD
    have e1 : (x + by_) % 4294967296 = (x % 4294967296 + by_) % 4294967296 := by omega
    have e2 : cryL (dig n (x / 4294967296)) (dig n (x / 4294967296)).length = dig n ((x + by_) / 4294967296) := by
      have h3 := cryL_dig n (x / 4294967296) []
      rw [List.append_nil, List.append_nil] at h3
      rw [dig_len, h3, show x / 4294967296 + 1 = (x + by_) / 4294967296 by omega]
    have hP : va_P D vwCl [(a, .inr (2, [.long (lN R), .int (nI sh), .ref cb, .long (lN ((x + by_) % 4294967296))])), (cb, .inr (0, [.int (nI 8000), .ref q, .int (nI (dig n ((x + by_) / 4294967296)).length)])), (q, .inl (ca 0, gcap 8000 gr, .inl f1_2))] H := by rw [← e2, e1]; exact hP
    have hD : va_D A [(a, .inr (2, [.long (lN R), .int (nI sh), .ref cb, .long (lN ((x + by_) % 4294967296))])), (cb, .inr (0, [.int (nI 8000), .ref q, .int (nI (dig n ((x + by_) / 4294967296)).length)])), (q, .inl (ca 0, gcap 8000 gr, .inl f1_2))] := by rw [← e2, e1]; exact hD
    exact rw_vret (u := f1_2) hx hb hr hlocks (e2 ▸ hq) (hP.sub [0, 1, 2] rfl) (hD.sub [0, 1, 2] (by decide) rfl) hS (Nat.le_refl _) (Nat.le_refl _) dX2_raiseLow_40

set_option maxHeartbeats 4000000 in
set_option maxRecDepth 100000 in
theorem c_W_shift (l : Launch) (D : va_G) (ca : Nat → ClassId) (a : Nat) (cb : Nat) (q : Nat) (gr : Nat) (R : Nat) (sh : Nat) (x : Nat) (n : Nat) (f : Nat → Int32) (hB : BR f (dig n (x / 4294967296))) (hL : n ≤ gcap 8000 gr) (hn : n < 8000) (sz : Nat) : Met l yX2_shiftOnce wsX2_shiftOnce { frames := 3, cells := max gr (gN (n + 1)) - gr, slots := 20000 * (max gr (gN (n + 1)) - gr), locals := 69 } (rwP D vwCl (ATy ca) [(a, .inr (2, [.long (lN R), .int (nI sh), .ref cb, .long (lN (x % 4294967296))])), (cb, .inr (0, [.int (nI 8000), .ref q, .int (nI (dig n (x / 4294967296)).length)])), (q, .inl (ca 0, gcap 8000 gr, .inl f))] sz [.ref a]) (va_Qv (fun (u : Nat × (Nat → Int32)) => BR u.2 (dig (n + 1) (x * 256 / 4294967296))) (bB D vwCl (fun (u : Nat × (Nat → Int32)) => [(a, .inr (2, [.long (lN R), .int (nI sh), .ref cb, .long (lN ((x * 256) % 4294967296))])), (cb, .inr (0, [.int (nI 8000), .ref u.1, .int (nI (dig (n + 1) ((x * 256) / 4294967296)).length)])), (u.1, .inl (ca 0, gcap 8000 (max gr (gN (n + 1))), .inl u.2))]) (va_A [(a, .inr (2, [.long (lN R), .int (nI sh), .ref cb, .long (lN (x % 4294967296))])), (cb, .inr (0, [.int (nI 8000), .ref q, .int (nI (dig n (x / 4294967296)).length)])), (q, .inl (ca 0, gcap 8000 gr, .inl f))] sz)) (va_A [(a, .inr (2, [.long (lN R), .int (nI sh), .ref cb, .long (lN (x % 4294967296))])), (cb, .inr (0, [.int (nI 8000), .ref q, .int (nI (dig n (x / 4294967296)).length)])), (q, .inl (ca 0, gcap 8000 gr, .inl f))] sz)) (max gr (gN (n + 1)) - gr) (20000 * (max gr (gN (n + 1)) - gr)) (va_A [(a, .inr (2, [.long (lN R), .int (nI sh), .ref cb, .long (lN (x % 4294967296))])), (cb, .inr (0, [.int (nI 8000), .ref q, .int (nI (dig n (x / 4294967296)).length)])), (q, .inl (ca 0, gcap 8000 gr, .inl f))] sz) := by
  refine rw_enter (Q := fun A => va_Qv (fun (u : Nat × (Nat → Int32)) => BR u.2 (dig (n + 1) (x * 256 / 4294967296))) (bB D vwCl (fun (u : Nat × (Nat → Int32)) => [(a, .inr (2, [.long (lN R), .int (nI sh), .ref cb, .long (lN ((x * 256) % 4294967296))])), (cb, .inr (0, [.int (nI 8000), .ref u.1, .int (nI (dig (n + 1) ((x * 256) / 4294967296)).length)])), (u.1, .inl (ca 0, gcap 8000 (max gr (gN (n + 1))), .inl u.2))]) A) A) (by decide) rfl (Nat.le_of_ble_eq_true rfl) ?_
  intro p e s m below meth c ls A C hnm hK hN hP hD hA hl
  have hS : va_S A s.heap s.heap [] := va_S.rf
  obtain ⟨hx, hb, hr, hml, hown, hlocks, hts⟩ := C
  have hl : lv_has ls 1 [(0, .ref a)] := hl
  have hin_X2 : ∀ w ∈ wsX20, w ∈ wsX2_shiftOnce := by decide +kernel
  have hl_9 := hts (.fieldLink RX2 9 "EscapeCoder$CodeWriter" "code" "LEscapeCoder$ByteRow;") (by decide +kernel)
  have hl_23 := hts (.fieldLink RX2 23 "EscapeCoder$CodeWriter" "low" "J") (by decide +kernel)
  have hw_774d20 := hts (.constantLong RX2 27 (lN 4294967295)) (by decide +kernel)
  have hd : x % 4294967296 / 16777216 < 256 := by omega
  have e0 : (dig n (x / 4294967296)).length = n := dig_len _ _
  have e3 : grA 8000 gr (dig n (x / 4294967296)) (nI (x % 4294967296 / 16777216)) = max gr (gN (n + 1)) := by rw [grA_z hd (by omega), e0]
  have e4 : addL 8000 (dig n (x / 4294967296)) (nI (x % 4294967296 / 16777216)) = dig (n + 1) (x * 256 / 4294967296) := by rw [addL_y hd (by omega), dig_sh]
  refine lv_aload_n hx hb dX2_shiftOnce_0 rfl (lv_at hl 0 rfl) ?_
  refine va_get (D := D) (ci := 2) (v := .ref cb) (C := RX2) (T := TX2) (N := 4) hx hb hts hin_X2 hown hK hP 0 rfl rfl 2 (by decide) hl_9 (fun _ h9 => h9) rfl dX2_shiftOnce_1 ?_
  refine lv_aload_n hx hb dX2_shiftOnce_4 rfl (lv_at hl 0 rfl) ?_
  refine va_get (D := D) (ci := 2) (v := .long (lN (x % 4294967296))) (C := RX2) (T := TX2) (N := 4) hx hb hts hin_X2 hown hK hP 0 rfl rfl 3 (by decide) hl_23 (fun _ h9 => h9) rfl dX2_shiftOnce_5 ?_
  refine lv_bipush (v := nI 24) hx hb dX2_shiftOnce_8 (by decide) ?_
  refine lv_lushr (v := lN (x % 4294967296 / 16777216)) hx hb dX2_shiftOnce_10 (shr24 (by omega)) ?_
  refine lv_l2i (v := nI (x % 4294967296 / 16777216)) hx hb dX2_shiftOnce_11 (lN_i _) ?_
  refine rw_calli (wc := [(cb, .inr (0, [.int (nI 8000), .ref q, .int (nI (dig n (x / 4294967296)).length)])), (q, .inl (ca 0, gcap 8000 gr, .inl f))]) (wr := [(a, .inr (2, [.long (lN R), .int (nI sh), .ref cb, .long (lN (x % 4294967296))]))]) hP hD hS hA [1, 2] [0] rfl rfl (by decide) (by decide) (va_runV (As := [.int (nI (x % 4294967296 / 16777216))]) (rest := []) ⟨hx, hb, hml, hown, hts⟩ (c_BR_add l D ca cb q 8000 gr f (dig n (x / 4294967296)) (nI (x % 4294967296 / 16777216)) (hB) (by rw [e0]; exact hL) (by decide) s.heap.size) (cwV 1 hts gX2_shiftOnce_X0_add rfl rfl rfl (by decide +kernel) ⟨Nat.le_of_ble_eq_true rfl, Nat.le_of_ble_eq_true rfl⟩) ⟨rwP_blind, va_recv hK hP (ci := 0) (q0 := 1) rfl rfl, rwP_at hK hN (hP.sub [1, 2] rfl) (hD.sub [1, 2] (by decide) rfl)⟩ rfl rfl hl.1 rfl (lv_room (Nat.le_of_ble_eq_true rfl)) dX2_shiftOnce_12 ⟨by show 0 + _ ≤ max gr (gN (n + 1)) - gr; rw [e3]; omega, by show 0 + _ ≤ 20000 * (max gr (gN (n + 1)) - gr); rw [e3]; omega⟩) (fun r_1 u H locs hq hP hD hS => ?_)
  obtain ⟨q1_2, f1_3⟩ := u
  try dsimp only at hq
  have hP : va_P D vwCl [(a, .inr (2, [.long (lN R), .int (nI sh), .ref cb, .long (lN (x % 4294967296))])), (cb, .inr (0, [.int (nI 8000), .ref q1_2, .int (nI (addL 8000 (dig n (x / 4294967296)) (nI (x % 4294967296 / 16777216))).length)])), (q1_2, .inl (ca 0, gcap 8000 (grA 8000 gr (dig n (x / 4294967296)) (nI (x % 4294967296 / 16777216))), .inl f1_3))] H := hP
  have hD : va_D A [(a, .inr (2, [.long (lN R), .int (nI sh), .ref cb, .long (lN (x % 4294967296))])), (cb, .inr (0, [.int (nI 8000), .ref q1_2, .int (nI (addL 8000 (dig n (x / 4294967296)) (nI (x % 4294967296 / 16777216))).length)])), (q1_2, .inl (ca 0, gcap 8000 (grA 8000 gr (dig n (x / 4294967296)) (nI (x % 4294967296 / 16777216))), .inl f1_3))] := hD
  refine W.widen (k := max gr (gN (n + 1)) - gr) (n := 20000 * (max gr (gN (n + 1)) - gr)) (by rw [e3]; omega) (by rw [e3]; omega) ?_
  obtain ⟨hq1, hq2, hq3⟩ := hq
  rw [e4] at hq2
  refine lv_pop hx hb dX2_shiftOnce_15 rfl ?_
  refine lv_aload_n hx hb dX2_shiftOnce_16 rfl (lv_at hl 0 rfl) ?_
  refine lv_aload_n hx hb dX2_shiftOnce_17 rfl (lv_at hl 0 rfl) ?_
  refine va_get (D := D) (ci := 2) (v := .long (lN (x % 4294967296))) (C := RX2) (T := TX2) (N := 4) hx hb hts hin_X2 hown hK hP 0 rfl rfl 3 (by decide) hl_23 (fun _ h9 => h9) rfl dX2_shiftOnce_18 ?_
  refine lv_bipush (v := nI 8) hx hb dX2_shiftOnce_21 (by decide) ?_
  refine lv_lshl (v := lN (x % 4294967296 * 256)) hx hb dX2_shiftOnce_23 (shl8 _) ?_
  refine lv_ldc2 (v := lN 4294967295) hx hb hown hw_774d20 dX2_shiftOnce_24 ?_
  refine lv_land hx hb dX2_shiftOnce_27 ?_
  refine tp_l (y := lN (x * 256 % 4294967296)) ((m32 (by omega)).trans (congrArg lN (by omega))) ?_
  refine va_put (D := D) (ci := 2) (v := .long (lN (x * 256 % 4294967296))) (ty := .long) (C := RX2) (T := TX2) (N := 4) hx hb hts hin_X2 tyX2 tyX2_ok nmX2 hown hK hP hD hS 0 rfl rfl 3 (by decide) hl_23 (fun _ h9 => h9) rfl (by decide +kernel) rfl rfl (Nat.le_of_ble_eq_true rfl) dX2_shiftOnce_28 (fun H locs hP hD hS => ?_)
  have hP : va_P D vwCl [(a, .inr (2, [.long (lN R), .int (nI sh), .ref cb, .long (lN (x * 256 % 4294967296))])), (cb, .inr (0, [.int (nI 8000), .ref q1_2, .int (nI (addL 8000 (dig n (x / 4294967296)) (nI (x % 4294967296 / 16777216))).length)])), (q1_2, .inl (ca 0, gcap 8000 (grA 8000 gr (dig n (x / 4294967296)) (nI (x % 4294967296 / 16777216))), .inl f1_3))] H := hP
  have hD : va_D A [(a, .inr (2, [.long (lN R), .int (nI sh), .ref cb, .long (lN (x * 256 % 4294967296))])), (cb, .inr (0, [.int (nI 8000), .ref q1_2, .int (nI (addL 8000 (dig n (x / 4294967296)) (nI (x % 4294967296 / 16777216))).length)])), (q1_2, .inl (ca 0, gcap 8000 (grA 8000 gr (dig n (x / 4294967296)) (nI (x % 4294967296 / 16777216))), .inl f1_3))] := hD
  have hP : va_P D vwCl [(a, .inr (2, [.long (lN R), .int (nI sh), .ref cb, .long (lN (x * 256 % 4294967296))])), (cb, .inr (0, [.int (nI 8000), .ref q1_2, .int (nI (dig (n + 1) ((x * 256) / 4294967296)).length)])), (q1_2, .inl (ca 0, gcap 8000 (max gr (gN (n + 1))), .inl f1_3))] H := by rw [← e3, ← e4]; exact hP
  have hD : va_D A [(a, .inr (2, [.long (lN R), .int (nI sh), .ref cb, .long (lN (x * 256 % 4294967296))])), (cb, .inr (0, [.int (nI 8000), .ref q1_2, .int (nI (dig (n + 1) ((x * 256) / 4294967296)).length)])), (q1_2, .inl (ca 0, gcap 8000 (max gr (gN (n + 1))), .inl f1_3))] := by rw [← e3, ← e4]; exact hD
  exact rw_vret (u := (q1_2, f1_3)) hx hb hr hlocks (hq2) (hP.sub [0, 1, 2] rfl) (hD.sub [0, 1, 2] (by decide) rfl) hS (Nat.le_refl _) (Nat.le_refl _) dX2_shiftOnce_31

set_option maxHeartbeats 4000000 in
set_option maxRecDepth 100000 in
theorem c_W_place (l : Launch) (D : va_G) (ca : Nat → ClassId) (a : Nat) (cb : Nat) (rg : Int64) (lo : Int64) (sv : Int32) (t : Int32) (w : Int32)  : Met l yX2_placeIn wsX2_placeIn { frames := 0, cells := 0, slots := 0, locals := 0 } (roP D vwCl (ATy ca) [(a, .inr (2, [.long rg, .int sv, .ref cb, .long lo]))] [.ref a, .int t, .int w]) (vp_Si (fun r : Int32 => r = w)) 0 0 (fun _ => False) := by
  refine ro_enter (by decide) rfl (Nat.le_of_ble_eq_true rfl) ?_
  intro p e s m below meth c ls C hK hN hP hl
  obtain ⟨hx, hb, hr, hml, hown, hlocks, hts⟩ := C
  have hl : lv_has ls 3 [(0, .ref a), (1, .int t), (2, .int w)] := hl
  refine lv_iload_n hx hb dX2_placeIn_0 rfl (lv_at hl 2 rfl) ?_
  exact ro_iret hx hb hr hlocks (rfl) dX2_placeIn_1

set_option maxHeartbeats 4000000 in
set_option maxRecDepth 100000 in
theorem c_W_restart (l : Launch) (D : va_G) (ca : Nat → ClassId) (a : Nat) (cb : Nat) (q : Nat) (gr : Nat) (rg : Int64) (lo : Int64) (sv : Int32) (f : Nat → Int32) (L : List Nat)  (sz : Nat) : Met l yX2_restart wsX2_restart { frames := 1, cells := 0, slots := 0, locals := 20 } (rwP D vwCl (ATy ca) [(a, .inr (2, [.long rg, .int sv, .ref cb, .long lo])), (cb, .inr (0, [.int (nI 8000), .ref q, .int (nI L.length)])), (q, .inl (ca 0, gcap 8000 gr, .inl f))] sz [.ref a]) (va_Qv (fun (u : Unit) => True) (bB D vwCl (fun (u : Unit) => [(a, .inr (2, [.long (lN 4294967295), .int (nI 0), .ref cb, .long (lN (0 % 4294967296))])), (cb, .inr (0, [.int (nI 8000), .ref q, .int (nI (dig 0 (0 / 4294967296)).length)])), (q, .inl (ca 0, gcap 8000 gr, .inl f))]) (va_A [(a, .inr (2, [.long rg, .int sv, .ref cb, .long lo])), (cb, .inr (0, [.int (nI 8000), .ref q, .int (nI L.length)])), (q, .inl (ca 0, gcap 8000 gr, .inl f))] sz)) (va_A [(a, .inr (2, [.long rg, .int sv, .ref cb, .long lo])), (cb, .inr (0, [.int (nI 8000), .ref q, .int (nI L.length)])), (q, .inl (ca 0, gcap 8000 gr, .inl f))] sz)) 0 0 (va_A [(a, .inr (2, [.long rg, .int sv, .ref cb, .long lo])), (cb, .inr (0, [.int (nI 8000), .ref q, .int (nI L.length)])), (q, .inl (ca 0, gcap 8000 gr, .inl f))] sz) := by
  refine rw_enter (Q := fun A => va_Qv (fun (u : Unit) => True) (bB D vwCl (fun (u : Unit) => [(a, .inr (2, [.long (lN 4294967295), .int (nI 0), .ref cb, .long (lN (0 % 4294967296))])), (cb, .inr (0, [.int (nI 8000), .ref q, .int (nI (dig 0 (0 / 4294967296)).length)])), (q, .inl (ca 0, gcap 8000 gr, .inl f))]) A) A) (by decide) rfl (Nat.le_of_ble_eq_true rfl) ?_
  intro p e s m below meth c ls A C hnm hK hN hP hD hA hl
  have hS : va_S A s.heap s.heap [] := va_S.rf
  obtain ⟨hx, hb, hr, hml, hown, hlocks, hts⟩ := C
  have hl : lv_has ls 1 [(0, .ref a)] := hl
  have hin_X2 : ∀ w ∈ wsX20, w ∈ wsX2_restart := by decide +kernel
  have hl_9 := hts (.fieldLink RX2 9 "EscapeCoder$CodeWriter" "code" "LEscapeCoder$ByteRow;") (by decide +kernel)
  have hl_23 := hts (.fieldLink RX2 23 "EscapeCoder$CodeWriter" "low" "J") (by decide +kernel)
  refine lv_aload_n hx hb dX2_restart_0 rfl (lv_at hl 0 rfl) ?_
  refine rw_callv (wc := [(a, .inr (2, [.long rg, .int sv, .ref cb, .long lo]))]) (wr := [(cb, .inr (0, [.int (nI 8000), .ref q, .int (nI L.length)])), (q, .inl (ca 0, gcap 8000 gr, .inl f))]) hP hD hS hA [0] [1, 2] rfl rfl (by decide) (by decide) (va_runU (As := []) (rest := []) ⟨hx, hb, hml, hown, hts⟩ (c_W_widen l D ca a cb rg lo sv  s.heap.size) (va_cwU 0 hts gX2_restart_X3_widen_u15X2 rfl rfl rfl rfl (by decide +kernel) ⟨Nat.le_of_ble_eq_true rfl, Nat.le_of_ble_eq_true rfl⟩) ⟨rwP_blind, va_recv hK hP (ci := 2) (q0 := 0) rfl rfl, rwP_at hK hN (hP.sub [0] rfl) (hD.sub [0] (by decide) rfl)⟩ rfl rfl hl.1 rfl (lv_room (Nat.le_of_ble_eq_true rfl)) dX2_restart_1 ⟨Nat.le_of_ble_eq_true rfl, Nat.le_of_ble_eq_true rfl⟩) (fun u H locs hq hP hD hS => ?_)
  try dsimp only at hq
  have hP : va_P D vwCl [(cb, .inr (0, [.int (nI 8000), .ref q, .int (nI L.length)])), (q, .inl (ca 0, gcap 8000 gr, .inl f)), (a, .inr (2, [.long (lN 4294967295), .int (nI 0), .ref cb, .long lo]))] H := hP
  have hD : va_D A [(cb, .inr (0, [.int (nI 8000), .ref q, .int (nI L.length)])), (q, .inl (ca 0, gcap 8000 gr, .inl f)), (a, .inr (2, [.long (lN 4294967295), .int (nI 0), .ref cb, .long lo]))] := hD
  refine lv_aload_n hx hb dX2_restart_4 rfl (lv_at hl 0 rfl) ?_
  refine va_get (D := D) (ci := 2) (v := .ref cb) (C := RX2) (T := TX2) (N := 4) hx hb hts hin_X2 hown hK hP 2 rfl rfl 2 (by decide) hl_9 (fun _ h9 => h9) rfl dX2_restart_5 ?_
  refine rw_callv (wc := [(cb, .inr (0, [.int (nI 8000), .ref q, .int (nI L.length)])), (q, .inl (ca 0, gcap 8000 gr, .inl f))]) (wr := [(a, .inr (2, [.long (lN 4294967295), .int (nI 0), .ref cb, .long lo]))]) hP hD hS hA [0, 1] [2] rfl rfl (by decide) (by decide) (va_runV (As := []) (rest := []) ⟨hx, hb, hml, hown, hts⟩ (c_BR_clear l D ca cb q 8000 gr f L  H.size) (cwV 0 hts gX2_restart_X0_clear rfl rfl rfl (by decide +kernel) ⟨Nat.le_of_ble_eq_true rfl, Nat.le_of_ble_eq_true rfl⟩) ⟨rwP_blind, va_recv hK hP (ci := 0) (q0 := 0) rfl rfl, rwP_at hK hN (hP.sub [0, 1] rfl) (hD.sub [0, 1] (by decide) rfl)⟩ rfl rfl hl.1 rfl (lv_room (Nat.le_of_ble_eq_true rfl)) dX2_restart_8 ⟨Nat.le_of_ble_eq_true rfl, Nat.le_of_ble_eq_true rfl⟩) (fun u H locs hq hP hD hS => ?_)
  try dsimp only at hq
  have hP : va_P D vwCl [(a, .inr (2, [.long (lN 4294967295), .int (nI 0), .ref cb, .long lo])), (cb, .inr (0, [.int (nI 8000), .ref q, .int (nI ([] : List Nat).length)])), (q, .inl (ca 0, gcap 8000 gr, .inl f))] H := hP
  have hD : va_D A [(a, .inr (2, [.long (lN 4294967295), .int (nI 0), .ref cb, .long lo])), (cb, .inr (0, [.int (nI 8000), .ref q, .int (nI ([] : List Nat).length)])), (q, .inl (ca 0, gcap 8000 gr, .inl f))] := hD
  refine lv_aload_n hx hb dX2_restart_11 rfl (lv_at hl 0 rfl) ?_
  refine lv_lconst (v := lN 0) hx hb dX2_restart_12 (by decide) ?_
  refine va_put (D := D) (ci := 2) (v := .long (lN 0)) (ty := .long) (C := RX2) (T := TX2) (N := 4) hx hb hts hin_X2 tyX2 tyX2_ok nmX2 hown hK hP hD hS 0 rfl rfl 3 (by decide) hl_23 (fun _ h9 => h9) rfl (by decide +kernel) rfl rfl (Nat.le_of_ble_eq_true rfl) dX2_restart_13 (fun H locs hP hD hS => ?_)
  have hP : va_P D vwCl [(a, .inr (2, [.long (lN 4294967295), .int (nI 0), .ref cb, .long (lN 0)])), (cb, .inr (0, [.int (nI 8000), .ref q, .int (nI ([] : List Nat).length)])), (q, .inl (ca 0, gcap 8000 gr, .inl f))] H := hP
  have hD : va_D A [(a, .inr (2, [.long (lN 4294967295), .int (nI 0), .ref cb, .long (lN 0)])), (cb, .inr (0, [.int (nI 8000), .ref q, .int (nI ([] : List Nat).length)])), (q, .inl (ca 0, gcap 8000 gr, .inl f))] := hD
  exact rw_vret (u := ()) hx hb hr hlocks (trivial) (hP.sub [0, 1, 2] rfl) (hD.sub [0, 1, 2] (by decide) rfl) hS (Nat.le_refl _) (Nat.le_refl _) dX2_restart_16

set_option maxHeartbeats 4000000 in
set_option maxRecDepth 100000 in
theorem c_W_finish (l : Launch) (D : va_G) (ca : Nat → ClassId) (a : Nat) (cb : Nat) (q : Nat) (gr : Nat) (R : Nat) (sh : Nat) (x : Nat) (f : Nat → Int32) (hB : BR f (dig sh (x / 4294967296))) (hL : sh ≤ gcap 8000 gr) (hn : sh + 4 ≤ 8000) (sz : Nat) : Met l yX2_finish wsX2_finish { frames := 3, cells := max gr (gN (sh + 4)) - gr, slots := 20000 * (max gr (gN (sh + 4)) - gr), locals := 69 } (rwP D vwCl (ATy ca) [(a, .inr (2, [.long (lN R), .int (nI sh), .ref cb, .long (lN (x % 4294967296))])), (cb, .inr (0, [.int (nI 8000), .ref q, .int (nI (dig sh (x / 4294967296)).length)])), (q, .inl (ca 0, gcap 8000 gr, .inl f))] sz [.ref a]) (va_Qi (fun (r : Int32) (u : Nat × (Nat → Int32)) => r = bI true ∧ BR u.2 (dig (sh + 4) x)) (bB D vwCl (fun (u : Nat × (Nat → Int32)) => [(a, .inr (2, [.long (lN R), .int (nI sh), .ref cb, .long (lN (x % 4294967296))])), (cb, .inr (0, [.int (nI 8000), .ref u.1, .int (nI (dig (sh + 4) x).length)])), (u.1, .inl (ca 0, gcap 8000 (max gr (gN (sh + 4))), .inl u.2))]) (va_A [(a, .inr (2, [.long (lN R), .int (nI sh), .ref cb, .long (lN (x % 4294967296))])), (cb, .inr (0, [.int (nI 8000), .ref q, .int (nI (dig sh (x / 4294967296)).length)])), (q, .inl (ca 0, gcap 8000 gr, .inl f))] sz)) (va_A [(a, .inr (2, [.long (lN R), .int (nI sh), .ref cb, .long (lN (x % 4294967296))])), (cb, .inr (0, [.int (nI 8000), .ref q, .int (nI (dig sh (x / 4294967296)).length)])), (q, .inl (ca 0, gcap 8000 gr, .inl f))] sz)) (max gr (gN (sh + 4)) - gr) (20000 * (max gr (gN (sh + 4)) - gr)) (va_A [(a, .inr (2, [.long (lN R), .int (nI sh), .ref cb, .long (lN (x % 4294967296))])), (cb, .inr (0, [.int (nI 8000), .ref q, .int (nI (dig sh (x / 4294967296)).length)])), (q, .inl (ca 0, gcap 8000 gr, .inl f))] sz) := by
  refine rw_enter (Q := fun A => va_Qi (fun (r : Int32) (u : Nat × (Nat → Int32)) => r = bI true ∧ BR u.2 (dig (sh + 4) x)) (bB D vwCl (fun (u : Nat × (Nat → Int32)) => [(a, .inr (2, [.long (lN R), .int (nI sh), .ref cb, .long (lN (x % 4294967296))])), (cb, .inr (0, [.int (nI 8000), .ref u.1, .int (nI (dig (sh + 4) x).length)])), (u.1, .inl (ca 0, gcap 8000 (max gr (gN (sh + 4))), .inl u.2))]) A) A) (by decide) rfl (Nat.le_of_ble_eq_true rfl) ?_
  intro p e s m below meth c ls A C hnm hK hN hP hD hA hl
  have hS : va_S A s.heap s.heap [] := va_S.rf
  obtain ⟨hx, hb, hr, hml, hown, hlocks, hts⟩ := C
  have hl : lv_has ls 2 [(0, .ref a)] := hl
  have hin_X2 : ∀ w ∈ wsX20, w ∈ wsX2_finish := by decide +kernel
  have hl_9 := hts (.fieldLink RX2 9 "EscapeCoder$CodeWriter" "code" "LEscapeCoder$ByteRow;") (by decide +kernel)
  have hl_23 := hts (.fieldLink RX2 23 "EscapeCoder$CodeWriter" "low" "J") (by decide +kernel)
  have hw_e97b26 := hts (.constantLong RX2 40 (lN 255)) (by decide +kernel)
  refine lv_aload_n hx hb dX2_finish_0 rfl (lv_at hl 0 rfl) ?_
  refine vp_callSi (va_Run.run (va_runU (As := []) (rest := []) ⟨hx, hb, hml, hown, hts⟩ (c_W_shifts l D ca a cb (lN R) (lN (x % 4294967296)) (nI sh) ) (va_cwU 0 hts gX2_finish_X3_shifts_u36X2 rfl rfl rfl rfl (by decide +kernel) ⟨Nat.le_of_ble_eq_true rfl, Nat.le_of_ble_eq_true rfl⟩) ⟨roP_blind, va_recv hK hP (ci := 2) (q0 := 0) rfl rfl, roP_at hK hN (hP.sub [0] rfl)⟩ rfl rfl hl.1 rfl (lv_room (Nat.le_of_ble_eq_true rfl)) dX2_finish_1 ⟨Nat.zero_le _, Nat.zero_le _⟩)) (fun r_1 hq => ?_)
  subst hq
  refine lv_iconst (v := nI 4) hx hb dX2_finish_4 (by decide) ?_
  refine lv_iadd hx hb dX2_finish_5 ?_
  refine tp_i (y := nI (sh + 4)) (nI_add sh 4) ?_
  refine lv_sipush (v := nI 8000) hx hb dX2_finish_6 (by decide) ?_
  refine bn_le (tgt := 21) hx hb dX2_finish_9 (by decide) (by omega) (by omega) (fun h1 => ?_) (fun h1 => ?_)
  · refine lv_bipush (v := nI 24) hx hb dX2_finish_21 (by decide) ?_
    refine lv_istore_n (lv' := [(1, .int (nI 24)), (0, .ref a)]) hx hb dX2_finish_23 rfl hl (by decide) rfl (fun ls hl => ?_)
    refine lv_iload_n hx hb dX2_finish_24 rfl (lv_at hl 0 rfl) ?_
    have e0 : (dig sh (x / 4294967296)).length = sh := dig_len _ _
    refine lv_if_lt (tgt := 53) hx hb dX2_finish_25 (by decide) (fun hh => ?_) (fun hh => ?_)
    · exact absurd hh (by decide)
    · refine lv_aload_n hx hb dX2_finish_28 rfl (lv_at hl 1 rfl) ?_
      refine va_get (D := D) (ci := 2) (v := .ref cb) (C := RX2) (T := TX2) (N := 4) hx hb hts hin_X2 hown hK hP 0 rfl rfl 2 (by decide) hl_9 (fun _ h9 => h9) rfl dX2_finish_29 ?_
      refine lv_aload_n hx hb dX2_finish_32 rfl (lv_at hl 1 rfl) ?_
      refine va_get (D := D) (ci := 2) (v := .long (lN (x % 4294967296))) (C := RX2) (T := TX2) (N := 4) hx hb hts hin_X2 hown hK hP 0 rfl rfl 3 (by decide) hl_23 (fun _ h9 => h9) rfl dX2_finish_33 ?_
      refine lv_iload_n hx hb dX2_finish_36 rfl (lv_at hl 0 rfl) ?_
      refine lv_lushr (v := lN (x % 4294967296 / 16777216)) hx hb dX2_finish_37 (shr24 (by omega)) ?_
      refine lv_ldc2 (v := lN 255) hx hb hown hw_e97b26 dX2_finish_38 ?_
      refine lv_land hx hb dX2_finish_41 ?_
      refine tp_l (y := lN (x % 4294967296 / 16777216 % 256)) (m8 (by omega)) ?_
      refine lv_l2i (v := nI (x % 4294967296 / 16777216 % 256)) hx hb dX2_finish_42 (lN_i _) ?_
      have d1 : x % 4294967296 / 16777216 % 256 < 256 := by omega
      have l1 : (dig sh (x / 4294967296)).length = sh + 0 := by simp [e0]
      have g1 : grA 8000 gr (dig sh (x / 4294967296)) (nI (x % 4294967296 / 16777216 % 256)) = max gr (gN (sh + 1)) := by rw [grA_z d1 (by omega), l1]
      have a1 : addL 8000 (dig sh (x / 4294967296)) (nI (x % 4294967296 / 16777216 % 256)) = dig sh (x / 4294967296) ++ [x % 4294967296 / 16777216 % 256] := addL_y d1 (by omega)
      refine rw_calli (wc := [(cb, .inr (0, [.int (nI 8000), .ref q, .int (nI (dig sh (x / 4294967296)).length)])), (q, .inl (ca 0, gcap 8000 gr, .inl f))]) (wr := [(a, .inr (2, [.long (lN R), .int (nI sh), .ref cb, .long (lN (x % 4294967296))]))]) hP hD hS hA [1, 2] [0] rfl rfl (by decide) (by decide) (va_runV (As := [.int (nI (x % 4294967296 / 16777216 % 256))]) (rest := []) ⟨hx, hb, hml, hown, hts⟩ (c_BR_add l D ca cb q 8000 gr f (dig sh (x / 4294967296)) (nI (x % 4294967296 / 16777216 % 256)) (hB) (by rw [l1]; exact hL) (by decide) s.heap.size) (cwV 1 hts gX2_finish_X0_add rfl rfl rfl (by decide +kernel) ⟨Nat.le_of_ble_eq_true rfl, Nat.le_of_ble_eq_true rfl⟩) ⟨rwP_blind, va_recv hK hP (ci := 0) (q0 := 1) rfl rfl, rwP_at hK hN (hP.sub [1, 2] rfl) (hD.sub [1, 2] (by decide) rfl)⟩ rfl rfl hl.1 rfl (lv_room (Nat.le_of_ble_eq_true rfl)) dX2_finish_43 ⟨by show _ + _ ≤ max gr (gN (sh + 4)) - gr; rw [g1]; have m1 := gN_mono (show sh + 1 ≤ sh + 4 by omega); omega, by show _ + _ ≤ 20000 * (max gr (gN (sh + 4)) - gr); rw [g1]; have m1 := gN_mono (show sh + 1 ≤ sh + 4 by omega); omega⟩) (fun r_2 u H locs hq hP hD hS => ?_)
      obtain ⟨q1_3, f1_4⟩ := u
      try dsimp only at hq
      have hP : va_P D vwCl [(a, .inr (2, [.long (lN R), .int (nI sh), .ref cb, .long (lN (x % 4294967296))])), (cb, .inr (0, [.int (nI 8000), .ref q1_3, .int (nI (addL 8000 (dig sh (x / 4294967296)) (nI (x % 4294967296 / 16777216 % 256))).length)])), (q1_3, .inl (ca 0, gcap 8000 (grA 8000 gr (dig sh (x / 4294967296)) (nI (x % 4294967296 / 16777216 % 256))), .inl f1_4))] H := hP
      have hD : va_D A [(a, .inr (2, [.long (lN R), .int (nI sh), .ref cb, .long (lN (x % 4294967296))])), (cb, .inr (0, [.int (nI 8000), .ref q1_3, .int (nI (addL 8000 (dig sh (x / 4294967296)) (nI (x % 4294967296 / 16777216 % 256))).length)])), (q1_3, .inl (ca 0, gcap 8000 (grA 8000 gr (dig sh (x / 4294967296)) (nI (x % 4294967296 / 16777216 % 256))), .inl f1_4))] := hD
      refine W.widen (k := max gr (gN (sh + 1)) - gr) (n := 20000 * (max gr (gN (sh + 1)) - gr)) (by rw [g1]; omega) (by rw [g1]; omega) ?_
      obtain ⟨hq1, hb1, hz1⟩ := hq
      rw [a1] at hb1
      rw [a1, g1] at hz1
      have hP : va_P D vwCl [(a, .inr (2, [.long (lN R), .int (nI sh), .ref cb, .long (lN (x % 4294967296))])), (cb, .inr (0, [.int (nI 8000), .ref q1_3, .int (nI (dig sh (x / 4294967296) ++ [x % 4294967296 / 16777216 % 256]).length)])), (q1_3, .inl (ca 0, gcap 8000 (max gr (gN (sh + 1))), .inl f1_4))] H := by rw [← a1, ← g1]; exact hP
      have hD : va_D A [(a, .inr (2, [.long (lN R), .int (nI sh), .ref cb, .long (lN (x % 4294967296))])), (cb, .inr (0, [.int (nI 8000), .ref q1_3, .int (nI (dig sh (x / 4294967296) ++ [x % 4294967296 / 16777216 % 256]).length)])), (q1_3, .inl (ca 0, gcap 8000 (max gr (gN (sh + 1))), .inl f1_4))] := by rw [← a1, ← g1]; exact hD
      refine lv_pop hx hb dX2_finish_46 rfl ?_
      refine lv_iinc (v := nI 16) (lv' := [(1, .int (nI 16)), (0, .ref a)]) hx hb dX2_finish_47 hl (k := 0) rfl (by decide) (by decide) rfl (fun ls hl => ?_)
      refine lv_goto (tgt := 24) hx hb dX2_finish_50 (by decide) ?_
      refine lv_iload_n hx hb dX2_finish_24 rfl (lv_at hl 0 rfl) ?_
      refine lv_if_lt (tgt := 53) hx hb dX2_finish_25 (by decide) (fun hh => ?_) (fun hh => ?_)
      · exact absurd hh (by decide)
      · refine lv_aload_n hx hb dX2_finish_28 rfl (lv_at hl 1 rfl) ?_
        refine va_get (D := D) (ci := 2) (v := .ref cb) (C := RX2) (T := TX2) (N := 4) hx hb hts hin_X2 hown hK hP 0 rfl rfl 2 (by decide) hl_9 (fun _ h9 => h9) rfl dX2_finish_29 ?_
        refine lv_aload_n hx hb dX2_finish_32 rfl (lv_at hl 1 rfl) ?_
        refine va_get (D := D) (ci := 2) (v := .long (lN (x % 4294967296))) (C := RX2) (T := TX2) (N := 4) hx hb hts hin_X2 hown hK hP 0 rfl rfl 3 (by decide) hl_23 (fun _ h9 => h9) rfl dX2_finish_33 ?_
        refine lv_iload_n hx hb dX2_finish_36 rfl (lv_at hl 0 rfl) ?_
        refine lv_lushr (v := lN (x % 4294967296 / 65536)) hx hb dX2_finish_37 (shr16 (by omega)) ?_
        refine lv_ldc2 (v := lN 255) hx hb hown hw_e97b26 dX2_finish_38 ?_
        refine lv_land hx hb dX2_finish_41 ?_
        refine tp_l (y := lN (x % 4294967296 / 65536 % 256)) (m8 (by omega)) ?_
        refine lv_l2i (v := nI (x % 4294967296 / 65536 % 256)) hx hb dX2_finish_42 (lN_i _) ?_
        have d2 : x % 4294967296 / 65536 % 256 < 256 := by omega
        have l2 : (dig sh (x / 4294967296) ++ [x % 4294967296 / 16777216 % 256]).length = sh + 1 := by simp [e0]
        have g2 : grA 8000 (max gr (gN (sh + 1))) (dig sh (x / 4294967296) ++ [x % 4294967296 / 16777216 % 256]) (nI (x % 4294967296 / 65536 % 256)) = max gr (gN (sh + 2)) := by rw [grA_z d2 (by omega), l2]; exact max_gN (by omega)
        have a2 : addL 8000 (dig sh (x / 4294967296) ++ [x % 4294967296 / 16777216 % 256]) (nI (x % 4294967296 / 65536 % 256)) = dig sh (x / 4294967296) ++ [x % 4294967296 / 16777216 % 256] ++ [x % 4294967296 / 65536 % 256] := addL_y d2 (by omega)
        refine rw_calli (wc := [(cb, .inr (0, [.int (nI 8000), .ref q1_3, .int (nI (dig sh (x / 4294967296) ++ [x % 4294967296 / 16777216 % 256]).length)])), (q1_3, .inl (ca 0, gcap 8000 (max gr (gN (sh + 1))), .inl f1_4))]) (wr := [(a, .inr (2, [.long (lN R), .int (nI sh), .ref cb, .long (lN (x % 4294967296))]))]) hP hD hS hA [1, 2] [0] rfl rfl (by decide) (by decide) (va_runV (As := [.int (nI (x % 4294967296 / 65536 % 256))]) (rest := []) ⟨hx, hb, hml, hown, hts⟩ (c_BR_add l D ca cb q1_3 8000 (max gr (gN (sh + 1))) f1_4 (dig sh (x / 4294967296) ++ [x % 4294967296 / 16777216 % 256]) (nI (x % 4294967296 / 65536 % 256)) (hb1) (by rw [l2]; have := hz1; rw [l2] at this; exact this) (by decide) H.size) (cwV 1 hts gX2_finish_X0_add rfl rfl rfl (by decide +kernel) ⟨Nat.le_of_ble_eq_true rfl, Nat.le_of_ble_eq_true rfl⟩) ⟨rwP_blind, va_recv hK hP (ci := 0) (q0 := 1) rfl rfl, rwP_at hK hN (hP.sub [1, 2] rfl) (hD.sub [1, 2] (by decide) rfl)⟩ rfl rfl hl.1 rfl (lv_room (Nat.le_of_ble_eq_true rfl)) dX2_finish_43 ⟨by show _ + _ ≤ max gr (gN (sh + 4)) - gr; rw [g2]; have m0 := gN_mono (show sh + 1 ≤ sh + 2 by omega); have m1 := gN_mono (show sh + 2 ≤ sh + 4 by omega); omega, by show _ + _ ≤ 20000 * (max gr (gN (sh + 4)) - gr); rw [g2]; have m0 := gN_mono (show sh + 1 ≤ sh + 2 by omega); have m1 := gN_mono (show sh + 2 ≤ sh + 4 by omega); omega⟩) (fun r_5 u H locs hq hP hD hS => ?_)
        obtain ⟨q1_6, f1_7⟩ := u
        try dsimp only at hq
        have hP : va_P D vwCl [(a, .inr (2, [.long (lN R), .int (nI sh), .ref cb, .long (lN (x % 4294967296))])), (cb, .inr (0, [.int (nI 8000), .ref q1_6, .int (nI (addL 8000 (dig sh (x / 4294967296) ++ [x % 4294967296 / 16777216 % 256]) (nI (x % 4294967296 / 65536 % 256))).length)])), (q1_6, .inl (ca 0, gcap 8000 (grA 8000 (max gr (gN (sh + 1))) (dig sh (x / 4294967296) ++ [x % 4294967296 / 16777216 % 256]) (nI (x % 4294967296 / 65536 % 256))), .inl f1_7))] H := hP
        have hD : va_D A [(a, .inr (2, [.long (lN R), .int (nI sh), .ref cb, .long (lN (x % 4294967296))])), (cb, .inr (0, [.int (nI 8000), .ref q1_6, .int (nI (addL 8000 (dig sh (x / 4294967296) ++ [x % 4294967296 / 16777216 % 256]) (nI (x % 4294967296 / 65536 % 256))).length)])), (q1_6, .inl (ca 0, gcap 8000 (grA 8000 (max gr (gN (sh + 1))) (dig sh (x / 4294967296) ++ [x % 4294967296 / 16777216 % 256]) (nI (x % 4294967296 / 65536 % 256))), .inl f1_7))] := hD
        refine W.widen (k := max gr (gN (sh + 2)) - gr) (n := 20000 * (max gr (gN (sh + 2)) - gr)) (by rw [g2]; have m0 := gN_mono (show sh + 1 ≤ sh + 2 by omega); omega) (by rw [g2]; have m0 := gN_mono (show sh + 1 ≤ sh + 2 by omega); omega) ?_
        obtain ⟨hq1, hb2, hz2⟩ := hq
        rw [a2] at hb2
        rw [a2, g2] at hz2
        have hP : va_P D vwCl [(a, .inr (2, [.long (lN R), .int (nI sh), .ref cb, .long (lN (x % 4294967296))])), (cb, .inr (0, [.int (nI 8000), .ref q1_6, .int (nI (dig sh (x / 4294967296) ++ [x % 4294967296 / 16777216 % 256] ++ [x % 4294967296 / 65536 % 256]).length)])), (q1_6, .inl (ca 0, gcap 8000 (max gr (gN (sh + 2))), .inl f1_7))] H := by rw [← a2, ← g2]; exact hP
        have hD : va_D A [(a, .inr (2, [.long (lN R), .int (nI sh), .ref cb, .long (lN (x % 4294967296))])), (cb, .inr (0, [.int (nI 8000), .ref q1_6, .int (nI (dig sh (x / 4294967296) ++ [x % 4294967296 / 16777216 % 256] ++ [x % 4294967296 / 65536 % 256]).length)])), (q1_6, .inl (ca 0, gcap 8000 (max gr (gN (sh + 2))), .inl f1_7))] := by rw [← a2, ← g2]; exact hD
        refine lv_pop hx hb dX2_finish_46 rfl ?_
        refine lv_iinc (v := nI 8) (lv' := [(1, .int (nI 8)), (0, .ref a)]) hx hb dX2_finish_47 hl (k := 0) rfl (by decide) (by decide) rfl (fun ls hl => ?_)
        refine lv_goto (tgt := 24) hx hb dX2_finish_50 (by decide) ?_
        refine lv_iload_n hx hb dX2_finish_24 rfl (lv_at hl 0 rfl) ?_
        refine lv_if_lt (tgt := 53) hx hb dX2_finish_25 (by decide) (fun hh => ?_) (fun hh => ?_)
        · exact absurd hh (by decide)
        · refine lv_aload_n hx hb dX2_finish_28 rfl (lv_at hl 1 rfl) ?_
          refine va_get (D := D) (ci := 2) (v := .ref cb) (C := RX2) (T := TX2) (N := 4) hx hb hts hin_X2 hown hK hP 0 rfl rfl 2 (by decide) hl_9 (fun _ h9 => h9) rfl dX2_finish_29 ?_
          refine lv_aload_n hx hb dX2_finish_32 rfl (lv_at hl 1 rfl) ?_
          refine va_get (D := D) (ci := 2) (v := .long (lN (x % 4294967296))) (C := RX2) (T := TX2) (N := 4) hx hb hts hin_X2 hown hK hP 0 rfl rfl 3 (by decide) hl_23 (fun _ h9 => h9) rfl dX2_finish_33 ?_
          refine lv_iload_n hx hb dX2_finish_36 rfl (lv_at hl 0 rfl) ?_
          refine lv_lushr (v := lN (x % 4294967296 / 256)) hx hb dX2_finish_37 (shr8 (by omega)) ?_
          refine lv_ldc2 (v := lN 255) hx hb hown hw_e97b26 dX2_finish_38 ?_
          refine lv_land hx hb dX2_finish_41 ?_
          refine tp_l (y := lN (x % 4294967296 / 256 % 256)) (m8 (by omega)) ?_
          refine lv_l2i (v := nI (x % 4294967296 / 256 % 256)) hx hb dX2_finish_42 (lN_i _) ?_
          have d3 : x % 4294967296 / 256 % 256 < 256 := by omega
          have l3 : (dig sh (x / 4294967296) ++ [x % 4294967296 / 16777216 % 256] ++ [x % 4294967296 / 65536 % 256]).length = sh + 2 := by simp [e0]
          have g3 : grA 8000 (max gr (gN (sh + 2))) (dig sh (x / 4294967296) ++ [x % 4294967296 / 16777216 % 256] ++ [x % 4294967296 / 65536 % 256]) (nI (x % 4294967296 / 256 % 256)) = max gr (gN (sh + 3)) := by rw [grA_z d3 (by omega), l3]; exact max_gN (by omega)
          have a3 : addL 8000 (dig sh (x / 4294967296) ++ [x % 4294967296 / 16777216 % 256] ++ [x % 4294967296 / 65536 % 256]) (nI (x % 4294967296 / 256 % 256)) = dig sh (x / 4294967296) ++ [x % 4294967296 / 16777216 % 256] ++ [x % 4294967296 / 65536 % 256] ++ [x % 4294967296 / 256 % 256] := addL_y d3 (by omega)
          refine rw_calli (wc := [(cb, .inr (0, [.int (nI 8000), .ref q1_6, .int (nI (dig sh (x / 4294967296) ++ [x % 4294967296 / 16777216 % 256] ++ [x % 4294967296 / 65536 % 256]).length)])), (q1_6, .inl (ca 0, gcap 8000 (max gr (gN (sh + 2))), .inl f1_7))]) (wr := [(a, .inr (2, [.long (lN R), .int (nI sh), .ref cb, .long (lN (x % 4294967296))]))]) hP hD hS hA [1, 2] [0] rfl rfl (by decide) (by decide) (va_runV (As := [.int (nI (x % 4294967296 / 256 % 256))]) (rest := []) ⟨hx, hb, hml, hown, hts⟩ (c_BR_add l D ca cb q1_6 8000 (max gr (gN (sh + 2))) f1_7 (dig sh (x / 4294967296) ++ [x % 4294967296 / 16777216 % 256] ++ [x % 4294967296 / 65536 % 256]) (nI (x % 4294967296 / 256 % 256)) (hb2) (by rw [l3]; have := hz2; rw [l3] at this; exact this) (by decide) H.size) (cwV 1 hts gX2_finish_X0_add rfl rfl rfl (by decide +kernel) ⟨Nat.le_of_ble_eq_true rfl, Nat.le_of_ble_eq_true rfl⟩) ⟨rwP_blind, va_recv hK hP (ci := 0) (q0 := 1) rfl rfl, rwP_at hK hN (hP.sub [1, 2] rfl) (hD.sub [1, 2] (by decide) rfl)⟩ rfl rfl hl.1 rfl (lv_room (Nat.le_of_ble_eq_true rfl)) dX2_finish_43 ⟨by show _ + _ ≤ max gr (gN (sh + 4)) - gr; rw [g3]; have m0 := gN_mono (show sh + 2 ≤ sh + 3 by omega); have m1 := gN_mono (show sh + 3 ≤ sh + 4 by omega); omega, by show _ + _ ≤ 20000 * (max gr (gN (sh + 4)) - gr); rw [g3]; have m0 := gN_mono (show sh + 2 ≤ sh + 3 by omega); have m1 := gN_mono (show sh + 3 ≤ sh + 4 by omega); omega⟩) (fun r_8 u H locs hq hP hD hS => ?_)
          obtain ⟨q1_9, f1_10⟩ := u
          try dsimp only at hq
          have hP : va_P D vwCl [(a, .inr (2, [.long (lN R), .int (nI sh), .ref cb, .long (lN (x % 4294967296))])), (cb, .inr (0, [.int (nI 8000), .ref q1_9, .int (nI (addL 8000 (dig sh (x / 4294967296) ++ [x % 4294967296 / 16777216 % 256] ++ [x % 4294967296 / 65536 % 256]) (nI (x % 4294967296 / 256 % 256))).length)])), (q1_9, .inl (ca 0, gcap 8000 (grA 8000 (max gr (gN (sh + 2))) (dig sh (x / 4294967296) ++ [x % 4294967296 / 16777216 % 256] ++ [x % 4294967296 / 65536 % 256]) (nI (x % 4294967296 / 256 % 256))), .inl f1_10))] H := hP
          have hD : va_D A [(a, .inr (2, [.long (lN R), .int (nI sh), .ref cb, .long (lN (x % 4294967296))])), (cb, .inr (0, [.int (nI 8000), .ref q1_9, .int (nI (addL 8000 (dig sh (x / 4294967296) ++ [x % 4294967296 / 16777216 % 256] ++ [x % 4294967296 / 65536 % 256]) (nI (x % 4294967296 / 256 % 256))).length)])), (q1_9, .inl (ca 0, gcap 8000 (grA 8000 (max gr (gN (sh + 2))) (dig sh (x / 4294967296) ++ [x % 4294967296 / 16777216 % 256] ++ [x % 4294967296 / 65536 % 256]) (nI (x % 4294967296 / 256 % 256))), .inl f1_10))] := hD
          refine W.widen (k := max gr (gN (sh + 3)) - gr) (n := 20000 * (max gr (gN (sh + 3)) - gr)) (by rw [g3]; have m0 := gN_mono (show sh + 2 ≤ sh + 3 by omega); omega) (by rw [g3]; have m0 := gN_mono (show sh + 2 ≤ sh + 3 by omega); omega) ?_
          obtain ⟨hq1, hb3, hz3⟩ := hq
          rw [a3] at hb3
          rw [a3, g3] at hz3
          have hP : va_P D vwCl [(a, .inr (2, [.long (lN R), .int (nI sh), .ref cb, .long (lN (x % 4294967296))])), (cb, .inr (0, [.int (nI 8000), .ref q1_9, .int (nI (dig sh (x / 4294967296) ++ [x % 4294967296 / 16777216 % 256] ++ [x % 4294967296 / 65536 % 256] ++ [x % 4294967296 / 256 % 256]).length)])), (q1_9, .inl (ca 0, gcap 8000 (max gr (gN (sh + 3))), .inl f1_10))] H := by rw [← a3, ← g3]; exact hP
          have hD : va_D A [(a, .inr (2, [.long (lN R), .int (nI sh), .ref cb, .long (lN (x % 4294967296))])), (cb, .inr (0, [.int (nI 8000), .ref q1_9, .int (nI (dig sh (x / 4294967296) ++ [x % 4294967296 / 16777216 % 256] ++ [x % 4294967296 / 65536 % 256] ++ [x % 4294967296 / 256 % 256]).length)])), (q1_9, .inl (ca 0, gcap 8000 (max gr (gN (sh + 3))), .inl f1_10))] := by rw [← a3, ← g3]; exact hD
          refine lv_pop hx hb dX2_finish_46 rfl ?_
          refine lv_iinc (v := nI 0) (lv' := [(1, .int (nI 0)), (0, .ref a)]) hx hb dX2_finish_47 hl (k := 0) rfl (by decide) (by decide) rfl (fun ls hl => ?_)
          refine lv_goto (tgt := 24) hx hb dX2_finish_50 (by decide) ?_
          refine lv_iload_n hx hb dX2_finish_24 rfl (lv_at hl 0 rfl) ?_
          refine lv_if_lt (tgt := 53) hx hb dX2_finish_25 (by decide) (fun hh => ?_) (fun hh => ?_)
          · exact absurd hh (by decide)
          · refine lv_aload_n hx hb dX2_finish_28 rfl (lv_at hl 1 rfl) ?_
            refine va_get (D := D) (ci := 2) (v := .ref cb) (C := RX2) (T := TX2) (N := 4) hx hb hts hin_X2 hown hK hP 0 rfl rfl 2 (by decide) hl_9 (fun _ h9 => h9) rfl dX2_finish_29 ?_
            refine lv_aload_n hx hb dX2_finish_32 rfl (lv_at hl 1 rfl) ?_
            refine va_get (D := D) (ci := 2) (v := .long (lN (x % 4294967296))) (C := RX2) (T := TX2) (N := 4) hx hb hts hin_X2 hown hK hP 0 rfl rfl 3 (by decide) hl_23 (fun _ h9 => h9) rfl dX2_finish_33 ?_
            refine lv_iload_n hx hb dX2_finish_36 rfl (lv_at hl 0 rfl) ?_
            refine lv_lushr (v := lN (x % 4294967296)) hx hb dX2_finish_37 (shr0 (by omega)) ?_
            refine lv_ldc2 (v := lN 255) hx hb hown hw_e97b26 dX2_finish_38 ?_
            refine lv_land hx hb dX2_finish_41 ?_
            refine tp_l (y := lN (x % 4294967296 % 256)) (m8 (by omega)) ?_
            refine lv_l2i (v := nI (x % 4294967296 % 256)) hx hb dX2_finish_42 (lN_i _) ?_
            have d4 : x % 4294967296 % 256 < 256 := by omega
            have l4 : (dig sh (x / 4294967296) ++ [x % 4294967296 / 16777216 % 256] ++ [x % 4294967296 / 65536 % 256] ++ [x % 4294967296 / 256 % 256]).length = sh + 3 := by simp [e0]
            have g4 : grA 8000 (max gr (gN (sh + 3))) (dig sh (x / 4294967296) ++ [x % 4294967296 / 16777216 % 256] ++ [x % 4294967296 / 65536 % 256] ++ [x % 4294967296 / 256 % 256]) (nI (x % 4294967296 % 256)) = max gr (gN (sh + 4)) := by rw [grA_z d4 (by omega), l4]; exact max_gN (by omega)
            have a4 : addL 8000 (dig sh (x / 4294967296) ++ [x % 4294967296 / 16777216 % 256] ++ [x % 4294967296 / 65536 % 256] ++ [x % 4294967296 / 256 % 256]) (nI (x % 4294967296 % 256)) = dig sh (x / 4294967296) ++ [x % 4294967296 / 16777216 % 256] ++ [x % 4294967296 / 65536 % 256] ++ [x % 4294967296 / 256 % 256] ++ [x % 4294967296 % 256] := addL_y d4 (by omega)
            refine rw_calli (wc := [(cb, .inr (0, [.int (nI 8000), .ref q1_9, .int (nI (dig sh (x / 4294967296) ++ [x % 4294967296 / 16777216 % 256] ++ [x % 4294967296 / 65536 % 256] ++ [x % 4294967296 / 256 % 256]).length)])), (q1_9, .inl (ca 0, gcap 8000 (max gr (gN (sh + 3))), .inl f1_10))]) (wr := [(a, .inr (2, [.long (lN R), .int (nI sh), .ref cb, .long (lN (x % 4294967296))]))]) hP hD hS hA [1, 2] [0] rfl rfl (by decide) (by decide) (va_runV (As := [.int (nI (x % 4294967296 % 256))]) (rest := []) ⟨hx, hb, hml, hown, hts⟩ (c_BR_add l D ca cb q1_9 8000 (max gr (gN (sh + 3))) f1_10 (dig sh (x / 4294967296) ++ [x % 4294967296 / 16777216 % 256] ++ [x % 4294967296 / 65536 % 256] ++ [x % 4294967296 / 256 % 256]) (nI (x % 4294967296 % 256)) (hb3) (by rw [l4]; have := hz3; rw [l4] at this; exact this) (by decide) H.size) (cwV 1 hts gX2_finish_X0_add rfl rfl rfl (by decide +kernel) ⟨Nat.le_of_ble_eq_true rfl, Nat.le_of_ble_eq_true rfl⟩) ⟨rwP_blind, va_recv hK hP (ci := 0) (q0 := 1) rfl rfl, rwP_at hK hN (hP.sub [1, 2] rfl) (hD.sub [1, 2] (by decide) rfl)⟩ rfl rfl hl.1 rfl (lv_room (Nat.le_of_ble_eq_true rfl)) dX2_finish_43 ⟨by show _ + _ ≤ max gr (gN (sh + 4)) - gr; rw [g4]; have m0 := gN_mono (show sh + 3 ≤ sh + 4 by omega); have m1 := gN_mono (show sh + 4 ≤ sh + 4 by omega); omega, by show _ + _ ≤ 20000 * (max gr (gN (sh + 4)) - gr); rw [g4]; have m0 := gN_mono (show sh + 3 ≤ sh + 4 by omega); have m1 := gN_mono (show sh + 4 ≤ sh + 4 by omega); omega⟩) (fun r_11 u H locs hq hP hD hS => ?_)
            obtain ⟨q1_12, f1_13⟩ := u
            try dsimp only at hq
            have hP : va_P D vwCl [(a, .inr (2, [.long (lN R), .int (nI sh), .ref cb, .long (lN (x % 4294967296))])), (cb, .inr (0, [.int (nI 8000), .ref q1_12, .int (nI (addL 8000 (dig sh (x / 4294967296) ++ [x % 4294967296 / 16777216 % 256] ++ [x % 4294967296 / 65536 % 256] ++ [x % 4294967296 / 256 % 256]) (nI (x % 4294967296 % 256))).length)])), (q1_12, .inl (ca 0, gcap 8000 (grA 8000 (max gr (gN (sh + 3))) (dig sh (x / 4294967296) ++ [x % 4294967296 / 16777216 % 256] ++ [x % 4294967296 / 65536 % 256] ++ [x % 4294967296 / 256 % 256]) (nI (x % 4294967296 % 256))), .inl f1_13))] H := hP
            have hD : va_D A [(a, .inr (2, [.long (lN R), .int (nI sh), .ref cb, .long (lN (x % 4294967296))])), (cb, .inr (0, [.int (nI 8000), .ref q1_12, .int (nI (addL 8000 (dig sh (x / 4294967296) ++ [x % 4294967296 / 16777216 % 256] ++ [x % 4294967296 / 65536 % 256] ++ [x % 4294967296 / 256 % 256]) (nI (x % 4294967296 % 256))).length)])), (q1_12, .inl (ca 0, gcap 8000 (grA 8000 (max gr (gN (sh + 3))) (dig sh (x / 4294967296) ++ [x % 4294967296 / 16777216 % 256] ++ [x % 4294967296 / 65536 % 256] ++ [x % 4294967296 / 256 % 256]) (nI (x % 4294967296 % 256))), .inl f1_13))] := hD
            refine W.widen (k := max gr (gN (sh + 4)) - gr) (n := 20000 * (max gr (gN (sh + 4)) - gr)) (by rw [g4]; have m0 := gN_mono (show sh + 3 ≤ sh + 4 by omega); omega) (by rw [g4]; have m0 := gN_mono (show sh + 3 ≤ sh + 4 by omega); omega) ?_
            obtain ⟨hq1, hb4, hz4⟩ := hq
            rw [a4] at hb4
            rw [a4, g4] at hz4
            have hP : va_P D vwCl [(a, .inr (2, [.long (lN R), .int (nI sh), .ref cb, .long (lN (x % 4294967296))])), (cb, .inr (0, [.int (nI 8000), .ref q1_12, .int (nI (dig sh (x / 4294967296) ++ [x % 4294967296 / 16777216 % 256] ++ [x % 4294967296 / 65536 % 256] ++ [x % 4294967296 / 256 % 256] ++ [x % 4294967296 % 256]).length)])), (q1_12, .inl (ca 0, gcap 8000 (max gr (gN (sh + 4))), .inl f1_13))] H := by rw [← a4, ← g4]; exact hP
            have hD : va_D A [(a, .inr (2, [.long (lN R), .int (nI sh), .ref cb, .long (lN (x % 4294967296))])), (cb, .inr (0, [.int (nI 8000), .ref q1_12, .int (nI (dig sh (x / 4294967296) ++ [x % 4294967296 / 16777216 % 256] ++ [x % 4294967296 / 65536 % 256] ++ [x % 4294967296 / 256 % 256] ++ [x % 4294967296 % 256]).length)])), (q1_12, .inl (ca 0, gcap 8000 (max gr (gN (sh + 4))), .inl f1_13))] := by rw [← a4, ← g4]; exact hD
            refine lv_pop hx hb dX2_finish_46 rfl ?_
            refine lv_iinc (v := (-8)) (lv' := [(1, .int (-8)), (0, .ref a)]) hx hb dX2_finish_47 hl (k := 0) rfl (by decide) (by decide) rfl (fun ls hl => ?_)
            refine lv_goto (tgt := 24) hx hb dX2_finish_50 (by decide) ?_
            refine lv_iload_n hx hb dX2_finish_24 rfl (lv_at hl 0 rfl) ?_
            refine lv_if_lt (tgt := 53) hx hb dX2_finish_25 (by decide) (fun hh => ?_) (fun hh => ?_)
            · refine lv_iconst (v := nI 1) hx hb dX2_finish_53 (by decide) ?_
              have hP : va_P D vwCl [(a, .inr (2, [.long (lN R), .int (nI sh), .ref cb, .long (lN (x % 4294967296))])), (cb, .inr (0, [.int (nI 8000), .ref q1_12, .int (nI (dig (sh + 4) x).length)])), (q1_12, .inl (ca 0, gcap 8000 (max gr (gN (sh + 4))), .inl f1_13))] H := by rw [dig_4]; exact hP
              have hD : va_D A [(a, .inr (2, [.long (lN R), .int (nI sh), .ref cb, .long (lN (x % 4294967296))])), (cb, .inr (0, [.int (nI 8000), .ref q1_12, .int (nI (dig (sh + 4) x).length)])), (q1_12, .inl (ca 0, gcap 8000 (max gr (gN (sh + 4))), .inl f1_13))] := by rw [dig_4]; exact hD
              exact rw_zret (u := (q1_12, f1_13)) hx hb hr hlocks (by decide) (⟨rfl, by rw [dig_4]; exact hb4⟩) (hP.sub [0, 1, 2] rfl) (hD.sub [0, 1, 2] (by decide) rfl) hS (Nat.le_refl _) (Nat.le_refl _) dX2_finish_54
            · exact absurd (by decide) hh
  · exact absurd h1 (by omega)
