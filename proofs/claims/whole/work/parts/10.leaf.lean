set_option maxHeartbeats 4000000 in
set_option maxRecDepth 100000 in
/-- isByte: as isB says -/
theorem c_isByte (l : Launch) (D : va_G) (ca : Nat → ClassId) (b : Int32)  : Met l yX7_isByte wsX7_isByte { frames := 0, cells := 0, slots := 0, locals := 0 } (roP D vwCl (ATy ca) [] [.int b]) (vp_Si (fun r : Int32 => r = bI (isB b))) 0 0 (fun _ => False) := by
  refine ro_enter (by decide) rfl (Nat.le_of_ble_eq_true rfl) ?_
  intro p e s m below meth c ls C hK hN hP hl
  obtain ⟨hx, hb, hr, hml, hown, hlocks, hts⟩ := C
  have hl : lv_has ls 1 [(0, .int b)] := hl
  refine lv_iload_n hx hb dX7_isByte_0 rfl (lv_at hl 0 rfl) ?_
  refine lv_if_lt (tgt := 15) hx hb dX7_isByte_1 (by decide) (fun h1 => ?_) (fun h1 => ?_)
  · refine lv_iconst (v := nI 0) hx hb dX7_isByte_15 (by decide) ?_
    exact ro_zret hx hb hr hlocks (by decide) (by rw [isB_neg h1]; rfl) dX7_isByte_16
  · refine lv_iload_n hx hb dX7_isByte_4 rfl (lv_at hl 0 rfl) ?_
    refine lv_sipush (v := nI 256) hx hb dX7_isByte_5 (by decide) ?_
    refine lv_icmp_ge (tgt := 15) hx hb dX7_isByte_8 (by decide) (fun h2 => ?_) (fun h2 => ?_)
    · refine lv_iconst (v := nI 0) hx hb dX7_isByte_15 (by decide) ?_
      exact ro_zret hx hb hr hlocks (by decide) (by rw [isB_big h2]; rfl) dX7_isByte_16
    · refine lv_iconst (v := nI 1) hx hb dX7_isByte_11 (by decide) ?_
      refine lv_goto (tgt := 16) hx hb dX7_isByte_12 (by decide) ?_
      exact ro_zret hx hb hr hlocks (by decide) (by rw [isB_ok h1 h2]; rfl) dX7_isByte_16

set_option maxHeartbeats 4000000 in
set_option maxRecDepth 100000 in
theorem c_grown (l : Launch) (D : va_G) (ca : Nat → ClassId) (n : Nat) (mo : Nat) (hn : n < 2 ^ 30) (hm : mo < 2 ^ 31) : Met l yX7_grown wsX7_grown { frames := 1, cells := 0, slots := 0, locals := 21 } (roP D vwCl (ATy ca) [] [.int (nI n), .int (nI mo)]) (vp_Si (fun r : Int32 => r = nI (min mo (2 * n)))) 0 0 (fun _ => False) := by
  refine ro_enter (by decide) rfl (Nat.le_of_ble_eq_true rfl) ?_
  intro p e s m below meth c ls C hK hN hP hl
  obtain ⟨hx, hb, hr, hml, hown, hlocks, hts⟩ := C
  have hl : lv_has ls 2 [(0, .int (nI n)), (1, .int (nI mo))] := hl
  have hw_89228d := hts (.methodLink RX7 183 Lib.Math.min.name) (by decide +kernel)
  have hw_79b26a := hts (.static Lib.Math.min.name) (by decide +kernel)
  have hw_868a92 := hts (.initialized "java/lang/Math") (by decide +kernel)
  have hw_0fd793 := hts (.code Lib.Math.min.name Lib.Math.min.code 2 (some .int)) (by decide +kernel)
  refine lv_iload_n hx hb dX7_grown_0 rfl (lv_at hl 1 rfl) ?_
  refine lv_iconst (v := nI 2) hx hb dX7_grown_1 (by decide) ?_
  refine lv_iload_n hx hb dX7_grown_2 rfl (lv_at hl 0 rfl) ?_
  refine lv_imul hx hb dX7_grown_3 ?_
  refine tp_i (y := nI (2 * n)) (pk_mul 2 n) ?_
  refine mn (x := mo) (y := 2 * n) hx hb (hml.trans hl.1.symm) hown hw_89228d hw_79b26a hw_868a92 hw_0fd793 (Nat.le_of_ble_eq_true rfl) (Nat.le_of_ble_eq_true rfl) (Nat.zero_le _) (Nat.zero_le _) (by omega) (by omega) dX7_grown_4 ?_
  exact ro_iret hx hb hr hlocks (rfl) dX7_grown_7

set_option maxHeartbeats 4000000 in
set_option maxRecDepth 100000 in
/-- Arrays.copyOf where the length is another one -/
theorem c_copyI (l : Launch) (D : va_G) (ca : Nat → ClassId) (q : Nat) (n : Nat) (k : Nat) (f : Nat → Int32) (hn : n < 2 ^ 31) (hk : k ≤ 20000) (hne : ¬ k = n) (sz : Nat) : Met l yJ7_copyOf_59c91 wsJ7_copyOf_59c91 { frames := 1, cells := 1, slots := 20000, locals := 26 } (rwP D vwCl (ATy ca) [(q, .inl (ca 0, n, .inl f))] sz [.ref q, .int (nI k)]) (va_Qr (fun _ : Nat => True) (fun u r t => (fun (u : Nat) (r : Nat) => r = u) u r ∧ bB D vwCl (fun (u : Nat) => [(q, .inl (ca 0, n, .inl f)), (u, .inl (ca 0, k, .inl (va_cpy f (fun _ => 0) 0 0 (min n k))))]) (va_A [(q, .inl (ca 0, n, .inl f))] sz) u t) (va_A [(q, .inl (ca 0, n, .inl f))] sz)) 1 20000 (va_A [(q, .inl (ca 0, n, .inl f))] sz) := by
  refine rw_enter (Q := fun A => va_Qr (fun _ : Nat => True) (fun u r t => (fun (u : Nat) (r : Nat) => r = u) u r ∧ bB D vwCl (fun (u : Nat) => [(q, .inl (ca 0, n, .inl f)), (u, .inl (ca 0, k, .inl (va_cpy f (fun _ => 0) 0 0 (min n k))))]) A u t) A) (by decide) rfl (Nat.le_of_ble_eq_true rfl) ?_
  intro p e s m below meth c ls A C hnm hK hN hP hD hA hl
  have hS : va_S A s.heap s.heap [] := va_S.rf
  obtain ⟨hx, hb, hr, hml, hown, hlocks, hts⟩ := C
  have hl : lv_has ls 3 [(0, .ref q), (1, .int (nI k))] := hl
  have hw_d160d5 := hts (.arrayClass .int) (by decide +kernel)
  have hw_b435a9 := hts (.methodLink RJ7 304 Lib.Math.min.name) (by decide +kernel)
  have hw_79b26a := hts (.static Lib.Math.min.name) (by decide +kernel)
  have hw_868a92 := hts (.initialized "java/lang/Math") (by decide +kernel)
  have hw_0fd793 := hts (.code Lib.Math.min.name Lib.Math.min.code 2 (some .int)) (by decide +kernel)
  have hw_018043 := hts (.methodLink RJ7 150 arraycopyName) (by decide +kernel)
  have hw_a648c8 := hts (.native arraycopyName) (by decide +kernel)
  have hw_410d49 := hts (.static arraycopyName) (by decide +kernel)
  have hw_4260ff := hts (.initialized "java/lang/System") (by decide +kernel)
  refine lv_iload_n hx hb dJ7_copyOf_59c91_0 rfl (lv_at hl 1 rfl) ?_
  refine lv_aload_n hx hb dJ7_copyOf_59c91_1 rfl (lv_at hl 0 rfl) ?_
  refine va_alen hx hb hK hP 0 0 rfl rfl (v := nI n) rfl dJ7_copyOf_59c91_2 ?_
  refine bn_ne (tgt := 14) hx hb dJ7_copyOf_59c91_3 (by decide) (by omega) (by omega) (fun h1 => ?_) (fun h1 => ?_)
  · refine lv_iload_n hx hb dJ7_copyOf_59c91_14 rfl (lv_at hl 1 rfl) ?_
    refine na (atype := .int) (n := nI k) (ty := .int) (N' := k) (a0 := (k, .inl (fun _ => 0))) hx hb hw_d160d5 rfl hK hP hD hS hA (fun _ => rfl) (nI_pos (by omega)) (nI_clamp (by omega)) (by show k * 4 ≤ _; omega) (Nat.le_of_ble_eq_true rfl) (by show 0 + k ≤ 20000; omega) dJ7_copyOf_59c91_15 0 rfl (fun _ h9 => h9) (fun q1 H hP hD hS => ?_)
    have hP : va_P D vwCl [(q, .inl (ca 0, n, .inl f)), (q1, .inl (ca 0, k, .inl (fun _ => 0)))] H := hP
    have hD : va_D A [(q, .inl (ca 0, n, .inl f)), (q1, .inl (ca 0, k, .inl (fun _ => 0)))] := hD
    refine W.widen (k := 1) (n := 20000) (by omega) (by omega) ?_
    refine lv_astore_n (lv' := [(2, .ref q1), (0, .ref q), (1, .int (nI k))]) hx hb dJ7_copyOf_59c91_17 rfl hl (by decide) rfl (fun ls hl => ?_)
    refine lv_aload_n hx hb dJ7_copyOf_59c91_18 rfl (lv_at hl 1 rfl) ?_
    refine lv_iconst (v := nI 0) hx hb dJ7_copyOf_59c91_19 (by decide) ?_
    refine lv_aload_n hx hb dJ7_copyOf_59c91_20 rfl (lv_at hl 0 rfl) ?_
    refine lv_iconst (v := nI 0) hx hb dJ7_copyOf_59c91_21 (by decide) ?_
    refine lv_aload_n hx hb dJ7_copyOf_59c91_22 rfl (lv_at hl 1 rfl) ?_
    refine va_alen hx hb hK hP 0 0 rfl rfl (v := nI n) rfl dJ7_copyOf_59c91_23 ?_
    refine lv_iload_n hx hb dJ7_copyOf_59c91_24 rfl (lv_at hl 2 rfl) ?_
    refine mn (x := n) (y := k) hx hb (hml.trans hl.1.symm) hown hw_b435a9 hw_79b26a hw_868a92 hw_0fd793 (Nat.le_of_ble_eq_true rfl) (Nat.le_of_ble_eq_true rfl) (Nat.le_refl _) (Nat.le_refl _) (by omega) (by omega) dJ7_copyOf_59c91_25 ?_
    refine cp_i (k := min n k) hx hb (hml.trans hl.1.symm) hown hw_018043 hw_a648c8 hw_410d49 hw_4260ff hK hP hD hS 0 1 0 0 rfl rfl rfl rfl (by omega) (by omega) (by omega) (Nat.le_of_ble_eq_true rfl) (Nat.le_of_ble_eq_true rfl) dJ7_copyOf_59c91_28 (fun H locs hP hD hS => ?_)
    have hP : va_P D vwCl [(q, .inl (ca 0, n, .inl f)), (q1, .inl (ca 0, k, .inl (va_cpy f (fun _ => 0) 0 0 (min n k))))] H := hP
    have hD : va_D A [(q, .inl (ca 0, n, .inl f)), (q1, .inl (ca 0, k, .inl (va_cpy f (fun _ => 0) 0 0 (min n k))))] := hD
    refine lv_aload_n hx hb dJ7_copyOf_59c91_31 rfl (lv_at hl 0 rfl) ?_
    exact rw_aret (u := q1) hx hb hr (Or.inr ⟨_, rfl⟩) hlocks (rfl) (hP.sub [0, 1] rfl) (hD.sub [0, 1] (by decide) rfl) hS (Nat.le_refl _) (Nat.le_refl _) dJ7_copyOf_59c91_32
  · exact absurd h1 hne

set_option maxHeartbeats 4000000 in
set_option maxRecDepth 100000 in
/-- Arrays.copyOf where the length is another one -/
theorem c_copyJ (l : Launch) (D : va_G) (ca : Nat → ClassId) (q : Nat) (n : Nat) (k : Nat) (f : Nat → Int64) (hn : n < 2 ^ 31) (hk : k ≤ 20000) (hne : ¬ k = n) (sz : Nat) : Met l yJ7_copyOf_c38d5 wsJ7_copyOf_c38d5 { frames := 1, cells := 1, slots := 20000, locals := 26 } (rwP D vwCl (ATy ca) [(q, .inl (ca 1, n, .inr (.inl f)))] sz [.ref q, .int (nI k)]) (va_Qr (fun _ : Nat => True) (fun u r t => (fun (u : Nat) (r : Nat) => r = u) u r ∧ bB D vwCl (fun (u : Nat) => [(q, .inl (ca 1, n, .inr (.inl f))), (u, .inl (ca 1, k, .inr (.inl (va_cpy f (fun _ => 0) 0 0 (min n k)))))]) (va_A [(q, .inl (ca 1, n, .inr (.inl f)))] sz) u t) (va_A [(q, .inl (ca 1, n, .inr (.inl f)))] sz)) 1 20000 (va_A [(q, .inl (ca 1, n, .inr (.inl f)))] sz) := by
  refine rw_enter (Q := fun A => va_Qr (fun _ : Nat => True) (fun u r t => (fun (u : Nat) (r : Nat) => r = u) u r ∧ bB D vwCl (fun (u : Nat) => [(q, .inl (ca 1, n, .inr (.inl f))), (u, .inl (ca 1, k, .inr (.inl (va_cpy f (fun _ => 0) 0 0 (min n k)))))]) A u t) A) (by decide) rfl (Nat.le_of_ble_eq_true rfl) ?_
  intro p e s m below meth c ls A C hnm hK hN hP hD hA hl
  have hS : va_S A s.heap s.heap [] := va_S.rf
  obtain ⟨hx, hb, hr, hml, hown, hlocks, hts⟩ := C
  have hl : lv_has ls 3 [(0, .ref q), (1, .int (nI k))] := hl
  have hw_f2af49 := hts (.arrayClass .long) (by decide +kernel)
  have hw_b435a9 := hts (.methodLink RJ7 304 Lib.Math.min.name) (by decide +kernel)
  have hw_79b26a := hts (.static Lib.Math.min.name) (by decide +kernel)
  have hw_868a92 := hts (.initialized "java/lang/Math") (by decide +kernel)
  have hw_0fd793 := hts (.code Lib.Math.min.name Lib.Math.min.code 2 (some .int)) (by decide +kernel)
  have hw_018043 := hts (.methodLink RJ7 150 arraycopyName) (by decide +kernel)
  have hw_a648c8 := hts (.native arraycopyName) (by decide +kernel)
  have hw_410d49 := hts (.static arraycopyName) (by decide +kernel)
  have hw_4260ff := hts (.initialized "java/lang/System") (by decide +kernel)
  refine lv_iload_n hx hb dJ7_copyOf_c38d5_0 rfl (lv_at hl 1 rfl) ?_
  refine lv_aload_n hx hb dJ7_copyOf_c38d5_1 rfl (lv_at hl 0 rfl) ?_
  refine va_alen hx hb hK hP 0 1 rfl rfl (v := nI n) rfl dJ7_copyOf_c38d5_2 ?_
  refine bn_ne (tgt := 14) hx hb dJ7_copyOf_c38d5_3 (by decide) (by omega) (by omega) (fun h1 => ?_) (fun h1 => ?_)
  · refine lv_iload_n hx hb dJ7_copyOf_c38d5_14 rfl (lv_at hl 1 rfl) ?_
    refine na (atype := .long) (n := nI k) (ty := .long) (N' := k) (a0 := (k, .inr (.inl (fun _ => 0)))) hx hb hw_f2af49 rfl hK hP hD hS hA (fun _ => rfl) (nI_pos (by omega)) (nI_clamp (by omega)) (by show k * 8 ≤ _; omega) (Nat.le_of_ble_eq_true rfl) (by show 0 + k ≤ 20000; omega) dJ7_copyOf_c38d5_15 1 rfl (fun _ h9 => h9) (fun q1 H hP hD hS => ?_)
    have hP : va_P D vwCl [(q, .inl (ca 1, n, .inr (.inl f))), (q1, .inl (ca 1, k, .inr (.inl (fun _ => 0))))] H := hP
    have hD : va_D A [(q, .inl (ca 1, n, .inr (.inl f))), (q1, .inl (ca 1, k, .inr (.inl (fun _ => 0))))] := hD
    refine W.widen (k := 1) (n := 20000) (by omega) (by omega) ?_
    refine lv_astore_n (lv' := [(2, .ref q1), (0, .ref q), (1, .int (nI k))]) hx hb dJ7_copyOf_c38d5_17 rfl hl (by decide) rfl (fun ls hl => ?_)
    refine lv_aload_n hx hb dJ7_copyOf_c38d5_18 rfl (lv_at hl 1 rfl) ?_
    refine lv_iconst (v := nI 0) hx hb dJ7_copyOf_c38d5_19 (by decide) ?_
    refine lv_aload_n hx hb dJ7_copyOf_c38d5_20 rfl (lv_at hl 0 rfl) ?_
    refine lv_iconst (v := nI 0) hx hb dJ7_copyOf_c38d5_21 (by decide) ?_
    refine lv_aload_n hx hb dJ7_copyOf_c38d5_22 rfl (lv_at hl 1 rfl) ?_
    refine va_alen hx hb hK hP 0 1 rfl rfl (v := nI n) rfl dJ7_copyOf_c38d5_23 ?_
    refine lv_iload_n hx hb dJ7_copyOf_c38d5_24 rfl (lv_at hl 2 rfl) ?_
    refine mn (x := n) (y := k) hx hb (hml.trans hl.1.symm) hown hw_b435a9 hw_79b26a hw_868a92 hw_0fd793 (Nat.le_of_ble_eq_true rfl) (Nat.le_of_ble_eq_true rfl) (Nat.le_refl _) (Nat.le_refl _) (by omega) (by omega) dJ7_copyOf_c38d5_25 ?_
    refine cp_l (k := min n k) hx hb (hml.trans hl.1.symm) hown hw_018043 hw_a648c8 hw_410d49 hw_4260ff hK hP hD hS 0 1 1 1 rfl rfl rfl rfl (by omega) (by omega) (by omega) (Nat.le_of_ble_eq_true rfl) (Nat.le_of_ble_eq_true rfl) dJ7_copyOf_c38d5_28 (fun H locs hP hD hS => ?_)
    have hP : va_P D vwCl [(q, .inl (ca 1, n, .inr (.inl f))), (q1, .inl (ca 1, k, .inr (.inl (va_cpy f (fun _ => 0) 0 0 (min n k)))))] H := hP
    have hD : va_D A [(q, .inl (ca 1, n, .inr (.inl f))), (q1, .inl (ca 1, k, .inr (.inl (va_cpy f (fun _ => 0) 0 0 (min n k)))))] := hD
    refine lv_aload_n hx hb dJ7_copyOf_c38d5_31 rfl (lv_at hl 0 rfl) ?_
    exact rw_aret (u := q1) hx hb hr (Or.inr ⟨_, rfl⟩) hlocks (rfl) (hP.sub [0, 1] rfl) (hD.sub [0, 1] (by decide) rfl) hS (Nat.le_refl _) (Nat.le_refl _) dJ7_copyOf_c38d5_32
  · exact absurd h1 hne

set_option maxHeartbeats 4000000 in
set_option maxRecDepth 100000 in
theorem c_BR_length (l : Launch) (D : va_G) (ca : Nat → ClassId) (a : Nat) (q : Nat) (mo : Nat) (gr : Nat) (f : Nat → Int32) (L : List Nat)  : Met l yX0_length wsX0_length { frames := 0, cells := 0, slots := 0, locals := 0 } (roP D vwCl (ATy ca) [(a, .inr (0, [.int (nI mo), .ref q, .int (nI L.length)])), (q, .inl (ca 0, gcap mo gr, .inl f))] [.ref a]) (vp_Si (fun r : Int32 => r = nI L.length)) 0 0 (fun _ => False) := by
  refine ro_enter (by decide) rfl (Nat.le_of_ble_eq_true rfl) ?_
  intro p e s m below meth c ls C hK hN hP hl
  obtain ⟨hx, hb, hr, hml, hown, hlocks, hts⟩ := C
  have hl : lv_has ls 1 [(0, .ref a)] := hl
  have hin_X0 : ∀ w ∈ wsX00, w ∈ wsX0_length := by decide +kernel
  have hl_19 := hts (.fieldLink RX0 19 "EscapeCoder$ByteRow" "length" "I") (by decide +kernel)
  refine lv_aload_n hx hb dX0_length_0 rfl (lv_at hl 0 rfl) ?_
  refine va_get (D := D) (ci := 0) (v := .int (nI L.length)) (C := RX0) (T := TX0) (N := 3) hx hb hts hin_X0 hown hK hP 0 rfl rfl 2 (by decide) hl_19 (fun _ h9 => h9) rfl dX0_length_1 ?_
  exact ro_iret hx hb hr hlocks (rfl) dX0_length_4

set_option maxHeartbeats 4000000 in
set_option maxRecDepth 100000 in
theorem c_BR_clear (l : Launch) (D : va_G) (ca : Nat → ClassId) (a : Nat) (q : Nat) (mo : Nat) (gr : Nat) (f : Nat → Int32) (L : List Nat)  (sz : Nat) : Met l yX0_clear wsX0_clear { frames := 0, cells := 0, slots := 0, locals := 0 } (rwP D vwCl (ATy ca) [(a, .inr (0, [.int (nI mo), .ref q, .int (nI L.length)])), (q, .inl (ca 0, gcap mo gr, .inl f))] sz [.ref a]) (va_Qv (fun (u : Unit) => True) (bB D vwCl (fun (u : Unit) => [(a, .inr (0, [.int (nI mo), .ref q, .int (nI ([] : List Nat).length)])), (q, .inl (ca 0, gcap mo gr, .inl f))]) (va_A [(a, .inr (0, [.int (nI mo), .ref q, .int (nI L.length)])), (q, .inl (ca 0, gcap mo gr, .inl f))] sz)) (va_A [(a, .inr (0, [.int (nI mo), .ref q, .int (nI L.length)])), (q, .inl (ca 0, gcap mo gr, .inl f))] sz)) 0 0 (va_A [(a, .inr (0, [.int (nI mo), .ref q, .int (nI L.length)])), (q, .inl (ca 0, gcap mo gr, .inl f))] sz) := by
  refine rw_enter (Q := fun A => va_Qv (fun (u : Unit) => True) (bB D vwCl (fun (u : Unit) => [(a, .inr (0, [.int (nI mo), .ref q, .int (nI ([] : List Nat).length)])), (q, .inl (ca 0, gcap mo gr, .inl f))]) A) A) (by decide) rfl (Nat.le_of_ble_eq_true rfl) ?_
  intro p e s m below meth c ls A C hnm hK hN hP hD hA hl
  have hS : va_S A s.heap s.heap [] := va_S.rf
  obtain ⟨hx, hb, hr, hml, hown, hlocks, hts⟩ := C
  have hl : lv_has ls 1 [(0, .ref a)] := hl
  have hin_X0 : ∀ w ∈ wsX00, w ∈ wsX0_clear := by decide +kernel
  have hl_19 := hts (.fieldLink RX0 19 "EscapeCoder$ByteRow" "length" "I") (by decide +kernel)
  refine lv_aload_n hx hb dX0_clear_0 rfl (lv_at hl 0 rfl) ?_
  refine lv_iconst (v := nI 0) hx hb dX0_clear_1 (by decide) ?_
  refine va_put (D := D) (ci := 0) (v := .int (nI 0)) (ty := .int) (C := RX0) (T := TX0) (N := 3) hx hb hts hin_X0 tyX0 tyX0_ok nmX0 hown hK hP hD hS 0 rfl rfl 2 (by decide) hl_19 (fun _ h9 => h9) rfl (by decide +kernel) rfl rfl (Nat.le_of_ble_eq_true rfl) dX0_clear_2 (fun H locs hP hD hS => ?_)
  have hP : va_P D vwCl [(a, .inr (0, [.int (nI mo), .ref q, .int (nI 0)])), (q, .inl (ca 0, gcap mo gr, .inl f))] H := hP
  have hD : va_D A [(a, .inr (0, [.int (nI mo), .ref q, .int (nI 0)])), (q, .inl (ca 0, gcap mo gr, .inl f))] := hD
  exact rw_vret (u := ()) hx hb hr hlocks (trivial) (hP.sub [0, 1] rfl) (hD.sub [0, 1] (by decide) rfl) hS (Nat.le_refl _) (Nat.le_refl _) dX0_clear_5

set_option maxHeartbeats 4000000 in
set_option maxRecDepth 100000 in
theorem c_BR_byteAt (l : Launch) (D : va_G) (ca : Nat → ClassId) (a : Nat) (q : Nat) (mo : Nat) (gr : Nat) (f : Nat → Int32) (L : List Nat) (i : Int32) (hB : BR f L) (hL : L.length ≤ gcap mo gr) (hm : 64 ≤ mo ∧ mo ≤ 20000) : Met l yX0_byteAt wsX0_byteAt { frames := 0, cells := 0, slots := 0, locals := 0 } (roP D vwCl (ATy ca) [(a, .inr (0, [.int (nI mo), .ref q, .int (nI L.length)])), (q, .inl (ca 0, gcap mo gr, .inl f))] [.ref a, .int i]) (vp_Si (fun r : Int32 => r = atI L i)) 0 0 (fun _ => False) := by
  refine ro_enter (by decide) rfl (Nat.le_of_ble_eq_true rfl) ?_
  intro p e s m below meth c ls C hK hN hP hl
  obtain ⟨hx, hb, hr, hml, hown, hlocks, hts⟩ := C
  have hl : lv_has ls 2 [(0, .ref a), (1, .int i)] := hl
  have hin_X0 : ∀ w ∈ wsX00, w ∈ wsX0_byteAt := by decide +kernel
  have hl_19 := hts (.fieldLink RX0 19 "EscapeCoder$ByteRow" "length" "I") (by decide +kernel)
  have hl_15 := hts (.fieldLink RX0 15 "EscapeCoder$ByteRow" "bytes" "[I") (by decide +kernel)
  have hg := gcap_le mo gr
  refine lv_iload_n hx hb dX0_byteAt_0 rfl (lv_at hl 1 rfl) ?_
  refine lv_if_lt (tgt := 12) hx hb dX0_byteAt_1 (by decide) (fun h1 => ?_) (fun h1 => ?_)
  · refine lv_iconst (v := (-1)) hx hb dX0_byteAt_12 (by decide) ?_
    refine lv_goto (tgt := 22) hx hb dX0_byteAt_13 (by decide) ?_
    exact ro_iret hx hb hr hlocks (by unfold atI; rw [inL_neg h1]; rfl) dX0_byteAt_22
  · obtain ⟨j, hj, rfl⟩ := nI_of h1
    refine lv_iload_n hx hb dX0_byteAt_4 rfl (lv_at hl 1 rfl) ?_
    refine lv_aload_n hx hb dX0_byteAt_5 rfl (lv_at hl 0 rfl) ?_
    refine va_get (D := D) (ci := 0) (v := .int (nI L.length)) (C := RX0) (T := TX0) (N := 3) hx hb hts hin_X0 hown hK hP 0 rfl rfl 2 (by decide) hl_19 (fun _ h9 => h9) rfl dX0_byteAt_6 ?_
    refine bn_lt (tgt := 16) hx hb dX0_byteAt_9 (by decide) (by omega) (by omega) (fun h2 => ?_) (fun h2 => ?_)
    · refine lv_aload_n hx hb dX0_byteAt_16 rfl (lv_at hl 0 rfl) ?_
      refine va_get (D := D) (ci := 0) (v := .ref q) (C := RX0) (T := TX0) (N := 3) hx hb hts hin_X0 hown hK hP 0 rfl rfl 1 (by decide) hl_15 (fun _ h9 => h9) rfl dX0_byteAt_17 ?_
      refine lv_iload_n hx hb dX0_byteAt_20 rfl (lv_at hl 1 rfl) ?_
      refine ld_i hx hb hK hP 1 0 rfl rfl (j := j) (by omega) (by omega) dX0_byteAt_21 ?_
      exact ro_iret hx hb hr hlocks (by unfold atI; rw [inL_nI hj, if_pos (by simp [h2]), nI_clamp hj]; exact hB j h2) dX0_byteAt_22
    · refine lv_iconst (v := (-1)) hx hb dX0_byteAt_12 (by decide) ?_
      refine lv_goto (tgt := 22) hx hb dX0_byteAt_13 (by decide) ?_
      exact ro_iret hx hb hr hlocks (by unfold atI; rw [inL_nI hj, if_neg (by simp; omega)]) dX0_byteAt_22

set_option maxHeartbeats 4000000 in
set_option maxRecDepth 100000 in
theorem c_BR_put (l : Launch) (D : va_G) (ca : Nat → ClassId) (a : Nat) (q : Nat) (mo : Nat) (gr : Nat) (f : Nat → Int32) (L : List Nat) (i : Int32) (b : Int32) (hB : BR f L) (hL : L.length ≤ gcap mo gr) (hm : 64 ≤ mo ∧ mo ≤ 20000) (sz : Nat) : Met l yX0_put wsX0_put { frames := 1, cells := 0, slots := 0, locals := 20 } (rwP D vwCl (ATy ca) [(a, .inr (0, [.int (nI mo), .ref q, .int (nI L.length)])), (q, .inl (ca 0, gcap mo gr, .inl f))] sz [.ref a, .int i, .int b]) (va_Qi (fun (r : Int32) (u : (Nat → Int32)) => r = bI (putOk L i b) ∧ BR u (putL L i b)) (bB D vwCl (fun (u : (Nat → Int32)) => [(a, .inr (0, [.int (nI mo), .ref q, .int (nI (putL L i b).length)])), (q, .inl (ca 0, gcap mo gr, .inl u))]) (va_A [(a, .inr (0, [.int (nI mo), .ref q, .int (nI L.length)])), (q, .inl (ca 0, gcap mo gr, .inl f))] sz)) (va_A [(a, .inr (0, [.int (nI mo), .ref q, .int (nI L.length)])), (q, .inl (ca 0, gcap mo gr, .inl f))] sz)) 0 0 (va_A [(a, .inr (0, [.int (nI mo), .ref q, .int (nI L.length)])), (q, .inl (ca 0, gcap mo gr, .inl f))] sz) := by
  refine rw_enter (Q := fun A => va_Qi (fun (r : Int32) (u : (Nat → Int32)) => r = bI (putOk L i b) ∧ BR u (putL L i b)) (bB D vwCl (fun (u : (Nat → Int32)) => [(a, .inr (0, [.int (nI mo), .ref q, .int (nI (putL L i b).length)])), (q, .inl (ca 0, gcap mo gr, .inl u))]) A) A) (by decide) rfl (Nat.le_of_ble_eq_true rfl) ?_
  intro p e s m below meth c ls A C hnm hK hN hP hD hA hl
  have hS : va_S A s.heap s.heap [] := va_S.rf
  obtain ⟨hx, hb, hr, hml, hown, hlocks, hts⟩ := C
  have hl : lv_has ls 3 [(0, .ref a), (1, .int i), (2, .int b)] := hl
  have hw_0fc290 := hts (.initialized RX7) (by decide +kernel)
  have hw_1af174 := hts (.static yX7_isByte) (by decide +kernel)
  have hin_X0 : ∀ w ∈ wsX00, w ∈ wsX0_put := by decide +kernel
  have hl_19 := hts (.fieldLink RX0 19 "EscapeCoder$ByteRow" "length" "I") (by decide +kernel)
  have hl_15 := hts (.fieldLink RX0 15 "EscapeCoder$ByteRow" "bytes" "[I") (by decide +kernel)
  have hg := gcap_le mo gr
  refine lv_iload_n hx hb dX0_put_0 rfl (lv_at hl 2 rfl) ?_
  refine vp_callSi (va_Run.run (va_runSN (As := [.int b]) (rest := []) ⟨hx, hb, hml, hown, hts⟩ (c_isByte l D ca b ) ⟨va_cnB 1 hts gX0_put_X7_isByte_n22 rfl rfl rfl (nw_X0_22 hN) hw_0fc290 (by decide +kernel) ⟨Nat.le_of_ble_eq_true rfl, Nat.le_of_ble_eq_true rfl⟩, hw_1af174, trivial⟩ ⟨roP_blind, roP_at hK hN (hP.sub [] rfl)⟩ rfl rfl hl.1 rfl (lv_room (Nat.le_of_ble_eq_true rfl)) dX0_put_1 ⟨Nat.le_of_ble_eq_true rfl, Nat.le_of_ble_eq_true rfl⟩)) (fun r_1 hq => ?_)
  subst hq
  refine bb_eq (tgt := 19) hx hb dX0_put_4 (by decide) (fun h0 => ?_) (fun h0 => ?_)
  · refine lv_iconst (v := nI 0) hx hb dX0_put_19 (by decide) ?_
    have hP : va_P D vwCl [(a, .inr (0, [.int (nI mo), .ref q, .int (nI (putL L i b).length)])), (q, .inl (ca 0, gcap mo gr, .inl f))] s.heap := by rw [putL_len]; exact hP
    have hD : va_D A [(a, .inr (0, [.int (nI mo), .ref q, .int (nI (putL L i b).length)])), (q, .inl (ca 0, gcap mo gr, .inl f))] := by rw [putL_len]; exact hD
    have e : putOk L i b = false := by unfold putOk; rw [h0]; rfl
    exact rw_zret (u := f) hx hb hr hlocks (by decide) (⟨by rw [e]; rfl, by unfold putL; rw [e]; exact hB⟩) (hP.sub [0, 1] rfl) (hD.sub [0, 1] (by decide) rfl) hS (Nat.le_refl _) (Nat.le_refl _) dX0_put_20
  · refine lv_iload_n hx hb dX0_put_7 rfl (lv_at hl 1 rfl) ?_
    refine lv_if_lt (tgt := 19) hx hb dX0_put_8 (by decide) (fun h1 => ?_) (fun h1 => ?_)
    · refine lv_iconst (v := nI 0) hx hb dX0_put_19 (by decide) ?_
      have hP : va_P D vwCl [(a, .inr (0, [.int (nI mo), .ref q, .int (nI (putL L i b).length)])), (q, .inl (ca 0, gcap mo gr, .inl f))] s.heap := by rw [putL_len]; exact hP
      have hD : va_D A [(a, .inr (0, [.int (nI mo), .ref q, .int (nI (putL L i b).length)])), (q, .inl (ca 0, gcap mo gr, .inl f))] := by rw [putL_len]; exact hD
      have e : putOk L i b = false := by unfold putOk; rw [inL_neg h1]; simp
      exact rw_zret (u := f) hx hb hr hlocks (by decide) (⟨by rw [e]; rfl, by unfold putL; rw [e]; exact hB⟩) (hP.sub [0, 1] rfl) (hD.sub [0, 1] (by decide) rfl) hS (Nat.le_refl _) (Nat.le_refl _) dX0_put_20
    · obtain ⟨j, hj, rfl⟩ := nI_of h1
      refine lv_iload_n hx hb dX0_put_11 rfl (lv_at hl 1 rfl) ?_
      refine lv_aload_n hx hb dX0_put_12 rfl (lv_at hl 0 rfl) ?_
      refine va_get (D := D) (ci := 0) (v := .int (nI L.length)) (C := RX0) (T := TX0) (N := 3) hx hb hts hin_X0 hown hK hP 0 rfl rfl 2 (by decide) hl_19 (fun _ h9 => h9) rfl dX0_put_13 ?_
      refine bn_lt (tgt := 21) hx hb dX0_put_16 (by decide) (by omega) (by omega) (fun h2 => ?_) (fun h2 => ?_)
      · refine lv_aload_n hx hb dX0_put_21 rfl (lv_at hl 0 rfl) ?_
        refine va_get (D := D) (ci := 0) (v := .ref q) (C := RX0) (T := TX0) (N := 3) hx hb hts hin_X0 hown hK hP 0 rfl rfl 1 (by decide) hl_15 (fun _ h9 => h9) rfl dX0_put_22 ?_
        refine lv_iload_n hx hb dX0_put_25 rfl (lv_at hl 1 rfl) ?_
        refine lv_iload_n hx hb dX0_put_26 rfl (lv_at hl 2 rfl) ?_
        refine st_i hx hb hK hP hD hS 1 0 rfl rfl (j := j) (by omega) (by omega) dX0_put_27 (fun H locs hP hD hS => ?_)
        have hP : va_P D vwCl [(a, .inr (0, [.int (nI mo), .ref q, .int (nI L.length)])), (q, .inl (ca 0, gcap mo gr, .inl (upd f j b)))] H := hP
        have hD : va_D A [(a, .inr (0, [.int (nI mo), .ref q, .int (nI L.length)])), (q, .inl (ca 0, gcap mo gr, .inl (upd f j b)))] := hD
        refine lv_iconst (v := nI 1) hx hb dX0_put_28 (by decide) ?_
        have e : putOk L (nI j) b = true := by unfold putOk; rw [h0, inL_nI hj]; simp [h2]
        obtain ⟨v, hv, rfl⟩ := isB_nI h0
        have hP : va_P D vwCl [(a, .inr (0, [.int (nI mo), .ref q, .int (nI (putL L (nI j) (nI v)).length)])), (q, .inl (ca 0, gcap mo gr, .inl (upd f j (nI v))))] H := by rw [putL_len]; exact hP
        have hD : va_D A [(a, .inr (0, [.int (nI mo), .ref q, .int (nI (putL L (nI j) (nI v)).length)])), (q, .inl (ca 0, gcap mo gr, .inl (upd f j (nI v))))] := by rw [putL_len]; exact hD
        exact rw_zret (u := upd f j (nI v)) hx hb hr hlocks (by decide) (⟨by rw [e]; rfl, by unfold putL; rw [if_pos e, nI_clamp hj, nI_clamp (by omega)]; exact BR_set hB h2⟩) (hP.sub [0, 1] rfl) (hD.sub [0, 1] (by decide) rfl) hS (Nat.le_refl _) (Nat.le_refl _) dX0_put_29
      · refine lv_iconst (v := nI 0) hx hb dX0_put_19 (by decide) ?_
        have hP : va_P D vwCl [(a, .inr (0, [.int (nI mo), .ref q, .int (nI (putL L (nI j) b).length)])), (q, .inl (ca 0, gcap mo gr, .inl f))] s.heap := by rw [putL_len]; exact hP
        have hD : va_D A [(a, .inr (0, [.int (nI mo), .ref q, .int (nI (putL L (nI j) b).length)])), (q, .inl (ca 0, gcap mo gr, .inl f))] := by rw [putL_len]; exact hD
        have e : putOk L (nI j) b = false := by unfold putOk; rw [inL_nI hj]; simp; intro _; omega
        exact rw_zret (u := f) hx hb hr hlocks (by decide) (⟨by rw [e]; rfl, by unfold putL; rw [e]; exact hB⟩) (hP.sub [0, 1] rfl) (hD.sub [0, 1] (by decide) rfl) hS (Nat.le_refl _) (Nat.le_refl _) dX0_put_20

set_option maxHeartbeats 4000000 in
set_option maxRecDepth 100000 in
theorem c_BR_shorten (l : Launch) (D : va_G) (ca : Nat → ClassId) (a : Nat) (q : Nat) (mo : Nat) (gr : Nat) (f : Nat → Int32) (L : List Nat) (n : Int32) (hB : BR f L) (hL : L.length ≤ gcap mo gr) (hm : 64 ≤ mo ∧ mo ≤ 20000) (sz : Nat) : Met l yX0_shorten wsX0_shorten { frames := 0, cells := 0, slots := 0, locals := 0 } (rwP D vwCl (ATy ca) [(a, .inr (0, [.int (nI mo), .ref q, .int (nI L.length)])), (q, .inl (ca 0, gcap mo gr, .inl f))] sz [.ref a, .int n]) (va_Qi (fun (r : Int32) (u : Unit) => r = bI (cutOk L n)) (bB D vwCl (fun (u : Unit) => [(a, .inr (0, [.int (nI mo), .ref q, .int (nI (cutL L n).length)])), (q, .inl (ca 0, gcap mo gr, .inl f))]) (va_A [(a, .inr (0, [.int (nI mo), .ref q, .int (nI L.length)])), (q, .inl (ca 0, gcap mo gr, .inl f))] sz)) (va_A [(a, .inr (0, [.int (nI mo), .ref q, .int (nI L.length)])), (q, .inl (ca 0, gcap mo gr, .inl f))] sz)) 0 0 (va_A [(a, .inr (0, [.int (nI mo), .ref q, .int (nI L.length)])), (q, .inl (ca 0, gcap mo gr, .inl f))] sz) := by
  refine rw_enter (Q := fun A => va_Qi (fun (r : Int32) (u : Unit) => r = bI (cutOk L n)) (bB D vwCl (fun (u : Unit) => [(a, .inr (0, [.int (nI mo), .ref q, .int (nI (cutL L n).length)])), (q, .inl (ca 0, gcap mo gr, .inl f))]) A) A) (by decide) rfl (Nat.le_of_ble_eq_true rfl) ?_
  intro p e s m below meth c ls A C hnm hK hN hP hD hA hl
  have hS : va_S A s.heap s.heap [] := va_S.rf
  obtain ⟨hx, hb, hr, hml, hown, hlocks, hts⟩ := C
  have hl : lv_has ls 2 [(0, .ref a), (1, .int n)] := hl
  have hin_X0 : ∀ w ∈ wsX00, w ∈ wsX0_shorten := by decide +kernel
  have hl_19 := hts (.fieldLink RX0 19 "EscapeCoder$ByteRow" "length" "I") (by decide +kernel)
  have hg := gcap_le mo gr
  refine lv_iload_n hx hb dX0_shorten_0 rfl (lv_at hl 1 rfl) ?_
  refine lv_if_lt (tgt := 12) hx hb dX0_shorten_1 (by decide) (fun h1 => ?_) (fun h1 => ?_)
  · refine lv_iconst (v := nI 0) hx hb dX0_shorten_12 (by decide) ?_
    have e : cutOk L n = false := by exact cutOk_neg h1
    have e2 : cutL L n = L := by unfold cutL; rw [e]; rfl
    have hP : va_P D vwCl [(a, .inr (0, [.int (nI mo), .ref q, .int (nI (cutL L n).length)])), (q, .inl (ca 0, gcap mo gr, .inl f))] s.heap := by rw [e2]; exact hP
    have hD : va_D A [(a, .inr (0, [.int (nI mo), .ref q, .int (nI (cutL L n).length)])), (q, .inl (ca 0, gcap mo gr, .inl f))] := by rw [e2]; exact hD
    exact rw_zret (u := ()) hx hb hr hlocks (by decide) (by rw [e]; rfl) (hP.sub [0, 1] rfl) (hD.sub [0, 1] (by decide) rfl) hS (Nat.le_refl _) (Nat.le_refl _) dX0_shorten_13
  · obtain ⟨j, hj, rfl⟩ := nI_of h1
    refine lv_iload_n hx hb dX0_shorten_4 rfl (lv_at hl 1 rfl) ?_
    refine lv_aload_n hx hb dX0_shorten_5 rfl (lv_at hl 0 rfl) ?_
    refine va_get (D := D) (ci := 0) (v := .int (nI L.length)) (C := RX0) (T := TX0) (N := 3) hx hb hts hin_X0 hown hK hP 0 rfl rfl 2 (by decide) hl_19 (fun _ h9 => h9) rfl dX0_shorten_6 ?_
    refine bn_le (tgt := 14) hx hb dX0_shorten_9 (by decide) (by omega) (by omega) (fun h2 => ?_) (fun h2 => ?_)
    · refine lv_aload_n hx hb dX0_shorten_14 rfl (lv_at hl 0 rfl) ?_
      refine lv_iload_n hx hb dX0_shorten_15 rfl (lv_at hl 1 rfl) ?_
      refine va_put (D := D) (ci := 0) (v := .int (nI j)) (ty := .int) (C := RX0) (T := TX0) (N := 3) hx hb hts hin_X0 tyX0 tyX0_ok nmX0 hown hK hP hD hS 0 rfl rfl 2 (by decide) hl_19 (fun _ h9 => h9) rfl (by decide +kernel) rfl rfl (Nat.le_of_ble_eq_true rfl) dX0_shorten_16 (fun H locs hP hD hS => ?_)
      have hP : va_P D vwCl [(a, .inr (0, [.int (nI mo), .ref q, .int (nI j)])), (q, .inl (ca 0, gcap mo gr, .inl f))] H := hP
      have hD : va_D A [(a, .inr (0, [.int (nI mo), .ref q, .int (nI j)])), (q, .inl (ca 0, gcap mo gr, .inl f))] := hD
      refine lv_iconst (v := nI 1) hx hb dX0_shorten_19 (by decide) ?_
      have hP : va_P D vwCl [(a, .inr (0, [.int (nI mo), .ref q, .int (nI (cutL L (nI j)).length)])), (q, .inl (ca 0, gcap mo gr, .inl f))] H := by rw [cutL_len h2 hj]; exact hP
      have hD : va_D A [(a, .inr (0, [.int (nI mo), .ref q, .int (nI (cutL L (nI j)).length)])), (q, .inl (ca 0, gcap mo gr, .inl f))] := by rw [cutL_len h2 hj]; exact hD
      exact rw_zret (u := ()) hx hb hr hlocks (by decide) (by rw [cutOk_nI hj]; simp [h2]; rfl) (hP.sub [0, 1] rfl) (hD.sub [0, 1] (by decide) rfl) hS (Nat.le_refl _) (Nat.le_refl _) dX0_shorten_20
    · refine lv_iconst (v := nI 0) hx hb dX0_shorten_12 (by decide) ?_
      have e : cutOk L (nI j) = false := by rw [cutOk_nI hj]; simp; omega
      have e2 : cutL L (nI j) = L := by unfold cutL; rw [e]; rfl
      have hP : va_P D vwCl [(a, .inr (0, [.int (nI mo), .ref q, .int (nI (cutL L (nI j)).length)])), (q, .inl (ca 0, gcap mo gr, .inl f))] s.heap := by rw [e2]; exact hP
      have hD : va_D A [(a, .inr (0, [.int (nI mo), .ref q, .int (nI (cutL L (nI j)).length)])), (q, .inl (ca 0, gcap mo gr, .inl f))] := by rw [e2]; exact hD
      exact rw_zret (u := ()) hx hb hr hlocks (by decide) (by rw [e]; rfl) (hP.sub [0, 1] rfl) (hD.sub [0, 1] (by decide) rfl) hS (Nat.le_refl _) (Nat.le_refl _) dX0_shorten_13

set_option maxHeartbeats 4000000 in
set_option maxRecDepth 100000 in
theorem c_BR_add (l : Launch) (D : va_G) (ca : Nat → ClassId) (a : Nat) (q : Nat) (mo : Nat) (gr : Nat) (f : Nat → Int32) (L : List Nat) (b : Int32) (hB : BR f L) (hL : L.length ≤ gcap mo gr) (hm : 64 ≤ mo ∧ mo ≤ 20000) (sz : Nat) : Met l yX0_add wsX0_add { frames := 2, cells := grA mo gr L b - gr, slots := 20000 * (grA mo gr L b - gr), locals := 48 } (rwP D vwCl (ATy ca) [(a, .inr (0, [.int (nI mo), .ref q, .int (nI L.length)])), (q, .inl (ca 0, gcap mo gr, .inl f))] sz [.ref a, .int b]) (va_Qi (fun (r : Int32) (u : Nat × (Nat → Int32)) => r = bI (addOk mo L b) ∧ BR u.2 (addL mo L b) ∧ (addL mo L b).length ≤ gcap mo (grA mo gr L b)) (bB D vwCl (fun (u : Nat × (Nat → Int32)) => [(a, .inr (0, [.int (nI mo), .ref u.1, .int (nI (addL mo L b).length)])), (u.1, .inl (ca 0, gcap mo (grA mo gr L b), .inl u.2))]) (va_A [(a, .inr (0, [.int (nI mo), .ref q, .int (nI L.length)])), (q, .inl (ca 0, gcap mo gr, .inl f))] sz)) (va_A [(a, .inr (0, [.int (nI mo), .ref q, .int (nI L.length)])), (q, .inl (ca 0, gcap mo gr, .inl f))] sz)) (grA mo gr L b - gr) (20000 * (grA mo gr L b - gr)) (va_A [(a, .inr (0, [.int (nI mo), .ref q, .int (nI L.length)])), (q, .inl (ca 0, gcap mo gr, .inl f))] sz) := by
  refine rw_enter (Q := fun A => va_Qi (fun (r : Int32) (u : Nat × (Nat → Int32)) => r = bI (addOk mo L b) ∧ BR u.2 (addL mo L b) ∧ (addL mo L b).length ≤ gcap mo (grA mo gr L b)) (bB D vwCl (fun (u : Nat × (Nat → Int32)) => [(a, .inr (0, [.int (nI mo), .ref u.1, .int (nI (addL mo L b).length)])), (u.1, .inl (ca 0, gcap mo (grA mo gr L b), .inl u.2))]) A) A) (by decide) rfl (Nat.le_of_ble_eq_true rfl) ?_
  intro p e s m below meth c ls A C hnm hK hN hP hD hA hl
  have hS : va_S A s.heap s.heap [] := va_S.rf
  obtain ⟨hx, hb, hr, hml, hown, hlocks, hts⟩ := C
  have hl : lv_has ls 2 [(0, .ref a), (1, .int b)] := hl
  have hw_0fc290 := hts (.initialized RX7) (by decide +kernel)
  have hw_1af174 := hts (.static yX7_isByte) (by decide +kernel)
  have hin_X0 : ∀ w ∈ wsX00, w ∈ wsX0_add := by decide +kernel
  have hl_19 := hts (.fieldLink RX0 19 "EscapeCoder$ByteRow" "length" "I") (by decide +kernel)
  have hl_9 := hts (.fieldLink RX0 9 "EscapeCoder$ByteRow" "most" "I") (by decide +kernel)
  have hl_15 := hts (.fieldLink RX0 15 "EscapeCoder$ByteRow" "bytes" "[I") (by decide +kernel)
  have hw_fcdcae := hts (.static yX7_grown) (by decide +kernel)
  have hg := gcap_le mo gr
  refine lv_iload_n hx hb dX0_add_0 rfl (lv_at hl 1 rfl) ?_
  refine vp_callSi (va_Run.run (va_runSN (As := [.int b]) (rest := []) ⟨hx, hb, hml, hown, hts⟩ (c_isByte l D ca b ) ⟨va_cnB 1 hts gX0_add_X7_isByte_n22 rfl rfl rfl (nw_X0_22 hN) hw_0fc290 (by decide +kernel) ⟨Nat.le_of_ble_eq_true rfl, Nat.le_of_ble_eq_true rfl⟩, hw_1af174, trivial⟩ ⟨roP_blind, roP_at hK hN (hP.sub [] rfl)⟩ rfl rfl hl.1 rfl (lv_room (Nat.le_of_ble_eq_true rfl)) dX0_add_1 ⟨Nat.zero_le _, Nat.zero_le _⟩)) (fun r_1 hq => ?_)
  subst hq
  refine bb_eq (tgt := 18) hx hb dX0_add_4 (by decide) (fun h0 => ?_) (fun h0 => ?_)
  · refine lv_iconst (v := nI 0) hx hb dX0_add_18 (by decide) ?_
    have e : addOk mo L b = false := by exact addOk_b h0
    have e2 : addL mo L b = L := by unfold addL; rw [e]; rfl
    have e3 : grA mo gr L b = gr := grA_f e
    have hP : va_P D vwCl [(a, .inr (0, [.int (nI mo), .ref q, .int (nI (addL mo L b).length)])), (q, .inl (ca 0, gcap mo (grA mo gr L b), .inl f))] s.heap := by rw [e2, e3]; exact hP
    have hD : va_D A [(a, .inr (0, [.int (nI mo), .ref q, .int (nI (addL mo L b).length)])), (q, .inl (ca 0, gcap mo (grA mo gr L b), .inl f))] := by rw [e2, e3]; exact hD
    exact rw_zret (u := (q, f)) hx hb hr hlocks (by decide) (⟨by rw [e]; rfl, by rw [e2]; exact hB, by rw [e2, e3]; exact hL⟩) (hP.sub [0, 1] rfl) (hD.sub [0, 1] (by decide) rfl) hS (Nat.zero_le _) (Nat.zero_le _) dX0_add_19
  · refine lv_aload_n hx hb dX0_add_7 rfl (lv_at hl 0 rfl) ?_
    refine va_get (D := D) (ci := 0) (v := .int (nI L.length)) (C := RX0) (T := TX0) (N := 3) hx hb hts hin_X0 hown hK hP 0 rfl rfl 2 (by decide) hl_19 (fun _ h9 => h9) rfl dX0_add_8 ?_
    refine lv_aload_n hx hb dX0_add_11 rfl (lv_at hl 0 rfl) ?_
    refine va_get (D := D) (ci := 0) (v := .int (nI mo)) (C := RX0) (T := TX0) (N := 3) hx hb hts hin_X0 hown hK hP 0 rfl rfl 0 (by decide) hl_9 (fun _ h9 => h9) rfl dX0_add_12 ?_
    refine bn_lt (tgt := 20) hx hb dX0_add_15 (by decide) (by omega) (by omega) (fun h2 => ?_) (fun h2 => ?_)
    · refine lv_aload_n hx hb dX0_add_20 rfl (lv_at hl 0 rfl) ?_
      refine va_get (D := D) (ci := 0) (v := .int (nI L.length)) (C := RX0) (T := TX0) (N := 3) hx hb hts hin_X0 hown hK hP 0 rfl rfl 2 (by decide) hl_19 (fun _ h9 => h9) rfl dX0_add_21 ?_
      refine lv_aload_n hx hb dX0_add_24 rfl (lv_at hl 0 rfl) ?_
      refine va_get (D := D) (ci := 0) (v := .ref q) (C := RX0) (T := TX0) (N := 3) hx hb hts hin_X0 hown hK hP 0 rfl rfl 1 (by decide) hl_15 (fun _ h9 => h9) rfl dX0_add_25 ?_
      refine va_alen hx hb hK hP 1 0 rfl rfl (v := nI (gcap mo gr)) rfl dX0_add_28 ?_
      refine bn_lt (tgt := 54) hx hb dX0_add_29 (by decide) (by omega) (by omega) (fun h3 => ?_) (fun h3 => ?_)
      · refine lv_aload_n hx hb dX0_add_54 rfl (lv_at hl 0 rfl) ?_
        refine va_get (D := D) (ci := 0) (v := .ref q) (C := RX0) (T := TX0) (N := 3) hx hb hts hin_X0 hown hK hP 0 rfl rfl 1 (by decide) hl_15 (fun _ h9 => h9) rfl dX0_add_55 ?_
        refine lv_aload_n hx hb dX0_add_58 rfl (lv_at hl 0 rfl) ?_
        refine va_get (D := D) (ci := 0) (v := .int (nI L.length)) (C := RX0) (T := TX0) (N := 3) hx hb hts hin_X0 hown hK hP 0 rfl rfl 2 (by decide) hl_19 (fun _ h9 => h9) rfl dX0_add_59 ?_
        refine lv_iload_n hx hb dX0_add_62 rfl (lv_at hl 1 rfl) ?_
        refine st_i hx hb hK hP hD hS 1 0 rfl rfl (j := L.length) (by omega) (by have := gcap_le mo (gr + 1); omega) dX0_add_63 (fun H locs hP hD hS => ?_)
        have hP : va_P D vwCl [(a, .inr (0, [.int (nI mo), .ref q, .int (nI L.length)])), (q, .inl (ca 0, gcap mo gr, .inl (upd f L.length b)))] H := hP
        have hD : va_D A [(a, .inr (0, [.int (nI mo), .ref q, .int (nI L.length)])), (q, .inl (ca 0, gcap mo gr, .inl (upd f L.length b)))] := hD
        refine lv_aload_n hx hb dX0_add_64 rfl (lv_at hl 0 rfl) ?_
        refine lv_dup hx hb dX0_add_65 rfl ?_
        refine va_get (D := D) (ci := 0) (v := .int (nI L.length)) (C := RX0) (T := TX0) (N := 3) hx hb hts hin_X0 hown hK hP 0 rfl rfl 2 (by decide) hl_19 (fun _ h9 => h9) rfl dX0_add_66 ?_
        refine lv_iconst (v := nI 1) hx hb dX0_add_69 (by decide) ?_
        refine lv_iadd hx hb dX0_add_70 ?_
        refine tp_i (y := nI (L.length + 1)) (nI_1 _) ?_
        refine va_put (D := D) (ci := 0) (v := .int (nI (L.length + 1))) (ty := .int) (C := RX0) (T := TX0) (N := 3) hx hb hts hin_X0 tyX0 tyX0_ok nmX0 hown hK hP hD hS 0 rfl rfl 2 (by decide) hl_19 (fun _ h9 => h9) rfl (by decide +kernel) rfl rfl (Nat.le_of_ble_eq_true rfl) dX0_add_71 (fun H locs hP hD hS => ?_)
        have hP : va_P D vwCl [(a, .inr (0, [.int (nI mo), .ref q, .int (nI (L.length + 1))])), (q, .inl (ca 0, gcap mo gr, .inl (upd f L.length b)))] H := hP
        have hD : va_D A [(a, .inr (0, [.int (nI mo), .ref q, .int (nI (L.length + 1))])), (q, .inl (ca 0, gcap mo gr, .inl (upd f L.length b)))] := hD
        refine lv_iconst (v := nI 1) hx hb dX0_add_74 (by decide) ?_
        have e : addOk mo L b = true := addOk_y h0 h2
        have e2 : addL mo L b = L ++ [b.toNatClampNeg] := by unfold addL; rw [if_pos e]
        have e3 : grA mo gr L b = gr := grA_n h2 h3
        have hP : va_P D vwCl [(a, .inr (0, [.int (nI mo), .ref q, .int (nI (addL mo L b).length)])), (q, .inl (ca 0, gcap mo (grA mo gr L b), .inl (upd f L.length b)))] H := by rw [e2, e3, List.length_append, List.length_singleton]; exact hP
        have hD : va_D A [(a, .inr (0, [.int (nI mo), .ref q, .int (nI (addL mo L b).length)])), (q, .inl (ca 0, gcap mo (grA mo gr L b), .inl (upd f L.length b)))] := by rw [e2, e3, List.length_append, List.length_singleton]; exact hD
        exact rw_zret (u := (q, (upd f L.length b))) hx hb hr hlocks (by decide) (⟨by rw [e]; rfl, by rw [e2]; exact BR_app (hB) h0 rfl, by rw [e2, e3, List.length_append, List.length_singleton]; omega⟩) (hP.sub [0, 1] rfl) (hD.sub [0, 1] (by decide) rfl) hS (Nat.zero_le _) (Nat.zero_le _) dX0_add_75
      · have e9 : grA mo gr L b = gr + 1 := grA_y h0 hL h2 h3
        have e8 : grA mo gr L b - gr = 1 := by omega
        refine lv_aload_n hx hb dX0_add_32 rfl (lv_at hl 0 rfl) ?_
        refine lv_aload_n hx hb dX0_add_33 rfl (lv_at hl 0 rfl) ?_
        refine va_get (D := D) (ci := 0) (v := .ref q) (C := RX0) (T := TX0) (N := 3) hx hb hts hin_X0 hown hK hP 0 rfl rfl 1 (by decide) hl_15 (fun _ h9 => h9) rfl dX0_add_34 ?_
        refine lv_aload_n hx hb dX0_add_37 rfl (lv_at hl 0 rfl) ?_
        refine va_get (D := D) (ci := 0) (v := .int (nI L.length)) (C := RX0) (T := TX0) (N := 3) hx hb hts hin_X0 hown hK hP 0 rfl rfl 2 (by decide) hl_19 (fun _ h9 => h9) rfl dX0_add_38 ?_
        refine lv_aload_n hx hb dX0_add_41 rfl (lv_at hl 0 rfl) ?_
        refine va_get (D := D) (ci := 0) (v := .int (nI mo)) (C := RX0) (T := TX0) (N := 3) hx hb hts hin_X0 hown hK hP 0 rfl rfl 0 (by decide) hl_9 (fun _ h9 => h9) rfl dX0_add_42 ?_
        refine vp_callSi (va_Run.run (va_runSN (As := [.int (nI L.length), .int (nI mo)]) (rest := [.ref q, .ref a]) ⟨hx, hb, hml, hown, hts⟩ (c_grown l D ca L.length mo (by omega) (by omega)) ⟨va_cnB 2 hts gX0_add_X7_grown_n26 rfl rfl rfl (nw_X0_26 hN) hw_0fc290 (by decide +kernel) ⟨Nat.le_of_ble_eq_true rfl, Nat.le_of_ble_eq_true rfl⟩, hw_fcdcae, trivial⟩ ⟨roP_blind, roP_at hK hN (hP.sub [] rfl)⟩ rfl rfl hl.1 rfl (lv_room (Nat.le_of_ble_eq_true rfl)) dX0_add_45 ⟨Nat.zero_le _, Nat.zero_le _⟩)) (fun r_2 hq => ?_)
        subst hq
        refine tp_i (y := nI (gcap mo (gr + 1))) (by rw [gcap_succ hL h3 h2]) ?_
        refine rw_callr (wc := [(q, .inl (ca 0, gcap mo gr, .inl f))]) (wr := [(a, .inr (0, [.int (nI mo), .ref q, .int (nI L.length)]))]) hP hD hS hA [1] [0] rfl rfl (by decide) (by decide) (va_runS (As := [.ref q, .int (nI (gcap mo (gr + 1)))]) (rest := [.ref a]) ⟨hx, hb, hml, hown, hts⟩ (c_copyI l D ca q (gcap mo gr) (gcap mo (gr + 1)) f (by omega) (by have := gcap_le mo (gr + 1); omega) (gcap_ne hm.1 (by omega)) s.heap.size) (va_cwS 2 hts gX0_add_J7_copyOf_59c91 rfl rfl rfl (by decide +kernel) ⟨Nat.le_of_ble_eq_true rfl, Nat.le_of_ble_eq_true rfl⟩) ⟨rwP_blind, rwP_at hK hN (hP.sub [1] rfl) (hD.sub [1] (by decide) rfl)⟩ rfl rfl hl.1 rfl (lv_room (Nat.le_of_ble_eq_true rfl)) dX0_add_48 ⟨by show 0 + 1 ≤ grA mo gr L b - gr; omega, by show 0 + 20000 ≤ 20000 * (grA mo gr L b - gr); omega⟩) (fun r_3 u H locs hq hP hD hS => ?_)
        obtain ⟨q1_4, rfl⟩ : ∃ z, z = u := ⟨_, rfl⟩
        try dsimp only at hq
        have hP : va_P D vwCl [(a, .inr (0, [.int (nI mo), .ref q, .int (nI L.length)])), (q, .inl (ca 0, gcap mo gr, .inl f)), (q1_4, .inl (ca 0, gcap mo (gr + 1), .inl (va_cpy f (fun _ => 0) 0 0 (min (gcap mo gr) (gcap mo (gr + 1))))))] H := hP
        have hD : va_D A [(a, .inr (0, [.int (nI mo), .ref q, .int (nI L.length)])), (q, .inl (ca 0, gcap mo gr, .inl f)), (q1_4, .inl (ca 0, gcap mo (gr + 1), .inl (va_cpy f (fun _ => 0) 0 0 (min (gcap mo gr) (gcap mo (gr + 1))))))] := hD
        subst hq
        refine va_put (D := D) (ci := 0) (v := .ref r_3) (ty := (.array .int)) (C := RX0) (T := TX0) (N := 3) hx hb hts hin_X0 tyX0 tyX0_ok nmX0 hown hK hP hD hS 0 rfl rfl 1 (by decide) hl_15 (fun _ h9 => h9) rfl (by decide +kernel) rfl rfl (Nat.le_of_ble_eq_true rfl) dX0_add_51 (fun H locs hP hD hS => ?_)
        have hP : va_P D vwCl [(a, .inr (0, [.int (nI mo), .ref r_3, .int (nI L.length)])), (q, .inl (ca 0, gcap mo gr, .inl f)), (r_3, .inl (ca 0, gcap mo (gr + 1), .inl (va_cpy f (fun _ => 0) 0 0 (min (gcap mo gr) (gcap mo (gr + 1))))))] H := hP
        have hD : va_D A [(a, .inr (0, [.int (nI mo), .ref r_3, .int (nI L.length)])), (q, .inl (ca 0, gcap mo gr, .inl f)), (r_3, .inl (ca 0, gcap mo (gr + 1), .inl (va_cpy f (fun _ => 0) 0 0 (min (gcap mo gr) (gcap mo (gr + 1))))))] := hD
        refine lv_aload_n hx hb dX0_add_54 rfl (lv_at hl 0 rfl) ?_
        refine va_get (D := D) (ci := 0) (v := .ref r_3) (C := RX0) (T := TX0) (N := 3) hx hb hts hin_X0 hown hK hP 0 rfl rfl 1 (by decide) hl_15 (fun _ h9 => h9) rfl dX0_add_55 ?_
        refine lv_aload_n hx hb dX0_add_58 rfl (lv_at hl 0 rfl) ?_
        refine va_get (D := D) (ci := 0) (v := .int (nI L.length)) (C := RX0) (T := TX0) (N := 3) hx hb hts hin_X0 hown hK hP 0 rfl rfl 2 (by decide) hl_19 (fun _ h9 => h9) rfl dX0_add_59 ?_
        refine lv_iload_n hx hb dX0_add_62 rfl (lv_at hl 1 rfl) ?_
        refine st_i hx hb hK hP hD hS 2 0 rfl rfl (j := L.length) (by have := gcap_up hL h3 h2; omega) (by have := gcap_le mo (gr + 1); omega) dX0_add_63 (fun H locs hP hD hS => ?_)
        have hP : va_P D vwCl [(a, .inr (0, [.int (nI mo), .ref r_3, .int (nI L.length)])), (q, .inl (ca 0, gcap mo gr, .inl f)), (r_3, .inl (ca 0, gcap mo (gr + 1), .inl (upd (va_cpy f (fun _ => 0) 0 0 (min (gcap mo gr) (gcap mo (gr + 1)))) L.length b)))] H := hP
        have hD : va_D A [(a, .inr (0, [.int (nI mo), .ref r_3, .int (nI L.length)])), (q, .inl (ca 0, gcap mo gr, .inl f)), (r_3, .inl (ca 0, gcap mo (gr + 1), .inl (upd (va_cpy f (fun _ => 0) 0 0 (min (gcap mo gr) (gcap mo (gr + 1)))) L.length b)))] := hD
        refine lv_aload_n hx hb dX0_add_64 rfl (lv_at hl 0 rfl) ?_
        refine lv_dup hx hb dX0_add_65 rfl ?_
        refine va_get (D := D) (ci := 0) (v := .int (nI L.length)) (C := RX0) (T := TX0) (N := 3) hx hb hts hin_X0 hown hK hP 0 rfl rfl 2 (by decide) hl_19 (fun _ h9 => h9) rfl dX0_add_66 ?_
        refine lv_iconst (v := nI 1) hx hb dX0_add_69 (by decide) ?_
        refine lv_iadd hx hb dX0_add_70 ?_
        refine tp_i (y := nI (L.length + 1)) (nI_1 _) ?_
        refine va_put (D := D) (ci := 0) (v := .int (nI (L.length + 1))) (ty := .int) (C := RX0) (T := TX0) (N := 3) hx hb hts hin_X0 tyX0 tyX0_ok nmX0 hown hK hP hD hS 0 rfl rfl 2 (by decide) hl_19 (fun _ h9 => h9) rfl (by decide +kernel) rfl rfl (Nat.le_of_ble_eq_true rfl) dX0_add_71 (fun H locs hP hD hS => ?_)
        have hP : va_P D vwCl [(a, .inr (0, [.int (nI mo), .ref r_3, .int (nI (L.length + 1))])), (q, .inl (ca 0, gcap mo gr, .inl f)), (r_3, .inl (ca 0, gcap mo (gr + 1), .inl (upd (va_cpy f (fun _ => 0) 0 0 (min (gcap mo gr) (gcap mo (gr + 1)))) L.length b)))] H := hP
        have hD : va_D A [(a, .inr (0, [.int (nI mo), .ref r_3, .int (nI (L.length + 1))])), (q, .inl (ca 0, gcap mo gr, .inl f)), (r_3, .inl (ca 0, gcap mo (gr + 1), .inl (upd (va_cpy f (fun _ => 0) 0 0 (min (gcap mo gr) (gcap mo (gr + 1)))) L.length b)))] := hD
        refine lv_iconst (v := nI 1) hx hb dX0_add_74 (by decide) ?_
        have e : addOk mo L b = true := addOk_y h0 h2
        have e2 : addL mo L b = L ++ [b.toNatClampNeg] := by unfold addL; rw [if_pos e]
        have e3 : grA mo gr L b = gr + 1 := e9
        have hP : va_P D vwCl [(a, .inr (0, [.int (nI mo), .ref r_3, .int (nI (addL mo L b).length)])), (q, .inl (ca 0, gcap mo gr, .inl f)), (r_3, .inl (ca 0, gcap mo (grA mo gr L b), .inl (upd (va_cpy f (fun _ => 0) 0 0 (min (gcap mo gr) (gcap mo (gr + 1)))) L.length b)))] H := by rw [e2, e3, List.length_append, List.length_singleton]; exact hP
        have hD : va_D A [(a, .inr (0, [.int (nI mo), .ref r_3, .int (nI (addL mo L b).length)])), (q, .inl (ca 0, gcap mo gr, .inl f)), (r_3, .inl (ca 0, gcap mo (grA mo gr L b), .inl (upd (va_cpy f (fun _ => 0) 0 0 (min (gcap mo gr) (gcap mo (gr + 1)))) L.length b)))] := by rw [e2, e3, List.length_append, List.length_singleton]; exact hD
        exact rw_zret (u := (r_3, (upd (va_cpy f (fun _ => 0) 0 0 (min (gcap mo gr) (gcap mo (gr + 1)))) L.length b))) hx hb hr hlocks (by decide) (⟨by rw [e]; rfl, by rw [e2]; exact BR_app (BR_cpy hB (by have := gcap_up hL h3 h2; omega)) h0 rfl, by rw [e2, e3, List.length_append, List.length_singleton]; exact gcap_up hL h3 h2⟩) (hP.sub [0, 2] rfl) (hD.sub [0, 2] (by decide) rfl) hS (by omega) (by omega) dX0_add_75
    · refine lv_iconst (v := nI 0) hx hb dX0_add_18 (by decide) ?_
      have e : addOk mo L b = false := by exact addOk_n h2
      have e2 : addL mo L b = L := by unfold addL; rw [e]; rfl
      have e3 : grA mo gr L b = gr := grA_f e
      have hP : va_P D vwCl [(a, .inr (0, [.int (nI mo), .ref q, .int (nI (addL mo L b).length)])), (q, .inl (ca 0, gcap mo (grA mo gr L b), .inl f))] s.heap := by rw [e2, e3]; exact hP
      have hD : va_D A [(a, .inr (0, [.int (nI mo), .ref q, .int (nI (addL mo L b).length)])), (q, .inl (ca 0, gcap mo (grA mo gr L b), .inl f))] := by rw [e2, e3]; exact hD
      exact rw_zret (u := (q, f)) hx hb hr hlocks (by decide) (⟨by rw [e]; rfl, by rw [e2]; exact hB, by rw [e2, e3]; exact hL⟩) (hP.sub [0, 1] rfl) (hD.sub [0, 1] (by decide) rfl) hS (Nat.zero_le _) (Nat.zero_le _) dX0_add_19

set_option maxHeartbeats 4000000 in
set_option maxRecDepth 100000 in
theorem c_BR_init (l : Launch) (D : va_G) (ca : Nat → ClassId) (a : Nat) (mo : Nat) (hm : 64 ≤ mo) (sz : Nat) : Met l yX0_init wsX0_init { frames := 1, cells := 1, slots := 64, locals := 20 } (rwP D vwCl (ATy ca) [(a, .inr (0, [.int 0, .null, .int 0]))] sz [.ref a, .int (nI mo)]) (va_Qv (fun (u : Nat) => True) (bB D vwCl (fun (u : Nat) => [(a, .inr (0, [.int (nI mo), .ref u, .int (nI ([] : List Nat).length)])), (u, .inl (ca 0, gcap mo 0, .inl (fun _ => 0)))]) (va_A [(a, .inr (0, [.int 0, .null, .int 0]))] sz)) (va_A [(a, .inr (0, [.int 0, .null, .int 0]))] sz)) 1 64 (va_A [(a, .inr (0, [.int 0, .null, .int 0]))] sz) := by
  refine rw_enter (Q := fun A => va_Qv (fun (u : Nat) => True) (bB D vwCl (fun (u : Nat) => [(a, .inr (0, [.int (nI mo), .ref u, .int (nI ([] : List Nat).length)])), (u, .inl (ca 0, gcap mo 0, .inl (fun _ => 0)))]) A) A) (by decide) rfl (Nat.le_of_ble_eq_true rfl) ?_
  intro p e s m below meth c ls A C hnm hK hN hP hD hA hl
  have hS : va_S A s.heap s.heap [] := va_S.rf
  obtain ⟨hx, hb, hr, hml, hown, hlocks, hts⟩ := C
  have hl : lv_has ls 2 [(0, .ref a), (1, .int (nI mo))] := hl
  have hw_86c094 := hts (.methodLink RX0 3 objectInit) (by decide +kernel)
  have hw_fba9d5 := hts (.instanceMethod objectInit) (by decide +kernel)
  have hw_9febdb := hts (.code objectInit ⟨#[0xb1]⟩ 1 none) (by decide +kernel)
  have hin_X0 : ∀ w ∈ wsX00, w ∈ wsX0_init := by decide +kernel
  have hl_9 := hts (.fieldLink RX0 9 "EscapeCoder$ByteRow" "most" "I") (by decide +kernel)
  have hw_d160d5 := hts (.arrayClass .int) (by decide +kernel)
  have hl_15 := hts (.fieldLink RX0 15 "EscapeCoder$ByteRow" "bytes" "[I") (by decide +kernel)
  refine lv_aload_n hx hb dX0_init_0 rfl (lv_at hl 0 rfl) ?_
  refine W.objInit hx hb hown hw_86c094 hw_fba9d5 hw_9febdb rfl (by rw [hml]; exact hl.1) rfl dX0_init_1 (Nat.le_of_ble_eq_true rfl) (Nat.le_of_ble_eq_true rfl) ?_
  refine W.eq (g2 := F0 m 4 ls []) rfl ?_
  refine lv_aload_n hx hb dX0_init_4 rfl (lv_at hl 0 rfl) ?_
  refine lv_iload_n hx hb dX0_init_5 rfl (lv_at hl 1 rfl) ?_
  refine va_putF (D := D) (ci := 0) (v := .int (nI mo)) (ty := .int) (C := RX0) (T := TX0) (N := 3) hx hb hts hin_X0 tyX0 tyX0_ok nmX0 hown hK hP hD hS 0 rfl rfl 0 (by decide) hl_9 (fun _ h9 => h9) rfl hnm rfl (by decide +kernel) rfl rfl (Nat.le_of_ble_eq_true rfl) dX0_init_6 (fun H locs hP hD hS => ?_)
  have hP : va_P D vwCl [(a, .inr (0, [.int (nI mo), .null, .int 0]))] H := hP
  have hD : va_D A [(a, .inr (0, [.int (nI mo), .null, .int 0]))] := hD
  refine lv_aload_n hx hb dX0_init_9 rfl (lv_at hl 0 rfl) ?_
  refine lv_bipush (v := nI 64) hx hb dX0_init_10 (by decide) ?_
  refine na (atype := .int) (n := nI 64) (ty := .int) (N' := 64) (a0 := (64, .inl (fun _ => 0))) hx hb hw_d160d5 rfl hK hP hD hS hA (fun _ => rfl) (nI_pos (by omega)) (nI_clamp (by omega)) (by decide) (Nat.le_of_ble_eq_true rfl) (Nat.le_of_ble_eq_true rfl) dX0_init_12 0 rfl (fun _ h9 => h9) (fun q H hP hD hS => ?_)
  have hP : va_P D vwCl [(a, .inr (0, [.int (nI mo), .null, .int 0])), (q, .inl (ca 0, 64, .inl (fun _ => 0)))] H := hP
  have hD : va_D A [(a, .inr (0, [.int (nI mo), .null, .int 0])), (q, .inl (ca 0, 64, .inl (fun _ => 0)))] := hD
  refine W.widen (k := 1) (n := 64) (by omega) (by omega) ?_
  refine va_put (D := D) (ci := 0) (v := .ref q) (ty := (.array .int)) (C := RX0) (T := TX0) (N := 3) hx hb hts hin_X0 tyX0 tyX0_ok nmX0 hown hK hP hD hS 0 rfl rfl 1 (by decide) hl_15 (fun _ h9 => h9) rfl (by decide +kernel) rfl rfl (Nat.le_of_ble_eq_true rfl) dX0_init_14 (fun H locs hP hD hS => ?_)
  have hP : va_P D vwCl [(a, .inr (0, [.int (nI mo), .ref q, .int 0])), (q, .inl (ca 0, 64, .inl (fun _ => 0)))] H := hP
  have hD : va_D A [(a, .inr (0, [.int (nI mo), .ref q, .int 0])), (q, .inl (ca 0, 64, .inl (fun _ => 0)))] := hD
  have hP : va_P D vwCl [(a, .inr (0, [.int (nI mo), .ref q, .int 0])), (q, .inl (ca 0, gcap mo 0, .inl (fun _ => 0)))] H := by rw [show gcap mo 0 = 64 by unfold gcap; omega]; exact hP
  have hD : va_D A [(a, .inr (0, [.int (nI mo), .ref q, .int 0])), (q, .inl (ca 0, gcap mo 0, .inl (fun _ => 0)))] := by rw [show gcap mo 0 = 64 by unfold gcap; omega]; exact hD
  exact rw_vret (u := q) hx hb hr hlocks (trivial) (hP.sub [0, 1] rfl) (hD.sub [0, 1] (by decide) rfl) hS (Nat.le_refl _) (Nat.le_refl _) dX0_init_17
