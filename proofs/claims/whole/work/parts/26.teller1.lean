set_option maxHeartbeats 4000000 in
set_option maxRecDepth 100000 in
theorem c_T_toldOrder (l : Launch) (D : va_G) (ca : Nat → ClassId) (at_ : Nat) (as_ : Nat) (qo : Nat) (ql : Nat) (am : Nat) (li : Nat) (lt : Nat) (tn : Nat) (ou : Nat) (to : Int32)  : Met l yX6_toldOrder wsX6_toldOrder { frames := 0, cells := 0, slots := 0, locals := 0 } (roP D vwCl (ATy ca) [(at_, .inr (5, [.ref am, .ref as_, .ref qo, .ref ql, .int (nI li), .int (nI lt), .int (nI tn), .int (nI ou), .int to]))] [.ref at_]) (vp_Si (fun r : Int32 => r = to)) 0 0 (fun _ => False) := by
  refine ro_enter (by decide) rfl (Nat.le_of_ble_eq_true rfl) ?_
  intro p e s m below meth c ls C hK hN hP hl
  obtain ⟨hx, hb, hr, hml, hown, hlocks, hts⟩ := C
  have hl : lv_has ls 1 [(0, .ref at_)] := hl
  have hin_X6 : ∀ w ∈ wsX60, w ∈ wsX6_toldOrder := by decide +kernel
  have hl_26 := hts (.fieldLink RX6 26 "EscapeCoder$Teller" "toldOrder" "I") (by decide +kernel)
  refine lv_aload_n hx hb dX6_toldOrder_0 rfl (lv_at hl 0 rfl) ?_
  refine va_get (D := D) (ci := 5) (v := .int to) (C := RX6) (T := TX6) (N := 9) hx hb hts hin_X6 hown hK hP 0 rfl rfl 8 (by decide) hl_26 (fun _ h9 => h9) rfl dX6_toldOrder_1 ?_
  exact ro_iret hx hb hr hlocks (rfl) dX6_toldOrder_4

set_option maxHeartbeats 4000000 in
set_option maxRecDepth 100000 in
theorem c_T_init (l : Launch) (D : va_G) (ca : Nat → ClassId) (at_ : Nat) (am : Nat) (as_ : Nat)  (sz : Nat) : Met l yX6_init wsX6_init { frames := 1, cells := 2, slots := 512, locals := 20 } (rwP D vwCl (ATy ca) [(at_, .inr (5, [.null, .null, .null, .null, .int 0, .int 0, .int 0, .int 0, .int 0]))] sz [.ref at_, .ref am, .ref as_]) (va_Qv (fun (u : Nat × Nat) => True) (bB D vwCl (fun (u : Nat × Nat) => [(at_, .inr (5, [.ref am, .ref as_, .ref u.1, .ref u.2, .int (nI 0), .int (nI 0), .int (nI 0), .int (nI 0), .int 0])), (u.1, .inl (ca 0, 256, .inl (fun _ => 0))), (u.2, .inl (ca 0, 256, .inl (fun _ => 0)))]) (va_A [(at_, .inr (5, [.null, .null, .null, .null, .int 0, .int 0, .int 0, .int 0, .int 0]))] sz)) (va_A [(at_, .inr (5, [.null, .null, .null, .null, .int 0, .int 0, .int 0, .int 0, .int 0]))] sz)) 2 512 (va_A [(at_, .inr (5, [.null, .null, .null, .null, .int 0, .int 0, .int 0, .int 0, .int 0]))] sz) := by
  refine rw_enter (Q := fun A => va_Qv (fun (u : Nat × Nat) => True) (bB D vwCl (fun (u : Nat × Nat) => [(at_, .inr (5, [.ref am, .ref as_, .ref u.1, .ref u.2, .int (nI 0), .int (nI 0), .int (nI 0), .int (nI 0), .int 0])), (u.1, .inl (ca 0, 256, .inl (fun _ => 0))), (u.2, .inl (ca 0, 256, .inl (fun _ => 0)))]) A) A) (by decide) rfl (Nat.le_of_ble_eq_true rfl) ?_
  intro p e s m below meth c ls A C hnm hK hN hP hD hA hl
  have hS : va_S A s.heap s.heap [] := va_S.rf
  obtain ⟨hx, hb, hr, hml, hown, hlocks, hts⟩ := C
  have hl : lv_has ls 3 [(0, .ref at_), (1, .ref am), (2, .ref as_)] := hl
  have hw_e6197c := hts (.methodLink RX6 3 objectInit) (by decide +kernel)
  have hw_fba9d5 := hts (.instanceMethod objectInit) (by decide +kernel)
  have hw_9febdb := hts (.code objectInit ⟨#[0xb1]⟩ 1 none) (by decide +kernel)
  have hin_X6 : ∀ w ∈ wsX60, w ∈ wsX6_init := by decide +kernel
  have hl_9 := hts (.fieldLink RX6 9 "EscapeCoder$Teller" "model" "LEscapeCoder$Model;") (by decide +kernel)
  have hl_15 := hts (.fieldLink RX6 15 "EscapeCoder$Teller" "steps" "LEscapeCoder$StepRow;") (by decide +kernel)
  have hw_d160d5 := hts (.arrayClass .int) (by decide +kernel)
  have hl_19 := hts (.fieldLink RX6 19 "EscapeCoder$Teller" "outSince" "[I") (by decide +kernel)
  have hl_23 := hts (.fieldLink RX6 23 "EscapeCoder$Teller" "live" "[I") (by decide +kernel)
  refine lv_aload_n hx hb dX6_init_0 rfl (lv_at hl 0 rfl) ?_
  refine W.objInit hx hb hown hw_e6197c hw_fba9d5 hw_9febdb rfl (by rw [hml]; exact hl.1) rfl dX6_init_1 (Nat.le_of_ble_eq_true rfl) (Nat.le_of_ble_eq_true rfl) ?_
  refine W.eq (g2 := F0 m 4 ls []) rfl ?_
  refine lv_aload_n hx hb dX6_init_4 rfl (lv_at hl 0 rfl) ?_
  refine lv_aload_n hx hb dX6_init_5 rfl (lv_at hl 1 rfl) ?_
  refine va_putF (D := D) (ci := 5) (v := .ref am) (ty := (.object "EscapeCoder$Model")) (C := RX6) (T := TX6) (N := 9) hx hb hts hin_X6 tyX6 tyX6_ok nmX6 hown hK hP hD hS 0 rfl rfl 0 (by decide) hl_9 (fun _ h9 => h9) rfl hnm rfl (by decide +kernel) rfl rfl (Nat.le_of_ble_eq_true rfl) dX6_init_6 (fun H locs hP hD hS => ?_)
  have hP : va_P D vwCl [(at_, .inr (5, [.ref am, .null, .null, .null, .int 0, .int 0, .int 0, .int 0, .int 0]))] H := hP
  have hD : va_D A [(at_, .inr (5, [.ref am, .null, .null, .null, .int 0, .int 0, .int 0, .int 0, .int 0]))] := hD
  refine lv_aload_n hx hb dX6_init_9 rfl (lv_at hl 0 rfl) ?_
  refine lv_aload_n hx hb dX6_init_10 rfl (lv_at hl 2 rfl) ?_
  refine va_putF (D := D) (ci := 5) (v := .ref as_) (ty := (.object "EscapeCoder$StepRow")) (C := RX6) (T := TX6) (N := 9) hx hb hts hin_X6 tyX6 tyX6_ok nmX6 hown hK hP hD hS 0 rfl rfl 1 (by decide) hl_15 (fun _ h9 => h9) rfl hnm rfl (by decide +kernel) rfl rfl (Nat.le_of_ble_eq_true rfl) dX6_init_11 (fun H locs hP hD hS => ?_)
  have hP : va_P D vwCl [(at_, .inr (5, [.ref am, .ref as_, .null, .null, .int 0, .int 0, .int 0, .int 0, .int 0]))] H := hP
  have hD : va_D A [(at_, .inr (5, [.ref am, .ref as_, .null, .null, .int 0, .int 0, .int 0, .int 0, .int 0]))] := hD
  refine lv_aload_n hx hb dX6_init_14 rfl (lv_at hl 0 rfl) ?_
  refine lv_sipush (v := nI 256) hx hb dX6_init_15 (by decide) ?_
  refine na (atype := .int) (n := nI 256) (ty := .int) (N' := 256) (a0 := (256, .inl (fun _ => 0))) hx hb hw_d160d5 rfl hK hP hD hS hA (fun _ => rfl) (nI_pos (by omega)) (nI_clamp (by omega)) (by decide) (Nat.le_of_ble_eq_true rfl) (Nat.le_of_ble_eq_true rfl) dX6_init_18 0 rfl (fun _ h9 => h9) (fun zo H hP hD hS => ?_)
  have hP : va_P D vwCl [(at_, .inr (5, [.ref am, .ref as_, .null, .null, .int 0, .int 0, .int 0, .int 0, .int 0])), (zo, .inl (ca 0, 256, .inl (fun _ => 0)))] H := hP
  have hD : va_D A [(at_, .inr (5, [.ref am, .ref as_, .null, .null, .int 0, .int 0, .int 0, .int 0, .int 0])), (zo, .inl (ca 0, 256, .inl (fun _ => 0)))] := hD
  refine W.widen (k := 1) (n := 256) (Nat.le_refl _) (Nat.le_of_ble_eq_true rfl) ?_
  refine va_putF (D := D) (ci := 5) (v := .ref zo) (ty := (.array .int)) (C := RX6) (T := TX6) (N := 9) hx hb hts hin_X6 tyX6 tyX6_ok nmX6 hown hK hP hD hS 0 rfl rfl 2 (by decide) hl_19 (fun _ h9 => h9) rfl hnm rfl (by decide +kernel) rfl rfl (Nat.le_of_ble_eq_true rfl) dX6_init_20 (fun H locs hP hD hS => ?_)
  have hP : va_P D vwCl [(at_, .inr (5, [.ref am, .ref as_, .ref zo, .null, .int 0, .int 0, .int 0, .int 0, .int 0])), (zo, .inl (ca 0, 256, .inl (fun _ => 0)))] H := hP
  have hD : va_D A [(at_, .inr (5, [.ref am, .ref as_, .ref zo, .null, .int 0, .int 0, .int 0, .int 0, .int 0])), (zo, .inl (ca 0, 256, .inl (fun _ => 0)))] := hD
  refine lv_aload_n hx hb dX6_init_23 rfl (lv_at hl 0 rfl) ?_
  refine lv_sipush (v := nI 256) hx hb dX6_init_24 (by decide) ?_
  refine na (atype := .int) (n := nI 256) (ty := .int) (N' := 256) (a0 := (256, .inl (fun _ => 0))) hx hb hw_d160d5 rfl hK hP hD hS hA (fun _ => rfl) (nI_pos (by omega)) (nI_clamp (by omega)) (by decide) (Nat.le_of_ble_eq_true rfl) (Nat.le_of_ble_eq_true rfl) dX6_init_27 0 rfl (fun _ h9 => h9) (fun zl H hP hD hS => ?_)
  have hP : va_P D vwCl [(at_, .inr (5, [.ref am, .ref as_, .ref zo, .null, .int 0, .int 0, .int 0, .int 0, .int 0])), (zo, .inl (ca 0, 256, .inl (fun _ => 0))), (zl, .inl (ca 0, 256, .inl (fun _ => 0)))] H := hP
  have hD : va_D A [(at_, .inr (5, [.ref am, .ref as_, .ref zo, .null, .int 0, .int 0, .int 0, .int 0, .int 0])), (zo, .inl (ca 0, 256, .inl (fun _ => 0))), (zl, .inl (ca 0, 256, .inl (fun _ => 0)))] := hD
  refine W.widen (k := 2) (n := 512) (Nat.le_refl _) (Nat.le_of_ble_eq_true rfl) ?_
  refine va_putF (D := D) (ci := 5) (v := .ref zl) (ty := (.array .int)) (C := RX6) (T := TX6) (N := 9) hx hb hts hin_X6 tyX6 tyX6_ok nmX6 hown hK hP hD hS 0 rfl rfl 3 (by decide) hl_23 (fun _ h9 => h9) rfl hnm rfl (by decide +kernel) rfl rfl (Nat.le_of_ble_eq_true rfl) dX6_init_29 (fun H locs hP hD hS => ?_)
  have hP : va_P D vwCl [(at_, .inr (5, [.ref am, .ref as_, .ref zo, .ref zl, .int 0, .int 0, .int 0, .int 0, .int 0])), (zo, .inl (ca 0, 256, .inl (fun _ => 0))), (zl, .inl (ca 0, 256, .inl (fun _ => 0)))] H := hP
  have hD : va_D A [(at_, .inr (5, [.ref am, .ref as_, .ref zo, .ref zl, .int 0, .int 0, .int 0, .int 0, .int 0])), (zo, .inl (ca 0, 256, .inl (fun _ => 0))), (zl, .inl (ca 0, 256, .inl (fun _ => 0)))] := hD
  exact rw_vret (u := (zo, zl)) hx hb hr hlocks (trivial) (hP.sub [0, 1, 2] rfl) (hD.sub [0, 1, 2] (by decide) rfl) hS (Nat.le_refl _) (Nat.le_refl _) dX6_init_32

set_option maxHeartbeats 4000000 in
set_option maxRecDepth 100000 in
theorem c_T_isOut (l : Launch) (D : va_G) (ca : Nat → ClassId) (at_ : Nat) (as_ : Nat) (qo : Nat) (ql : Nat) (am : Nat) (li : Nat) (lt : Nat) (tn : Nat) (ou : Nat) (to : Int32) (os : Nat → Int32) (out : Nat → Bool) (b : Nat) (hO : OR os tn out) (hbb : b < 256) : Met l yX6_isOut wsX6_isOut { frames := 1, cells := 0, slots := 0, locals := 20 } (roP D vwCl (ATy ca) [(at_, .inr (5, [.ref am, .ref as_, .ref qo, .ref ql, .int (nI li), .int (nI lt), .int (nI tn), .int (nI ou), .int to])), (qo, .inl (ca 0, 256, .inl os))] [.ref at_, .int (nI b)]) (vp_Si (fun r : Int32 => r = bI (out b))) 0 0 (fun _ => False) := by
  refine ro_enter (by decide) rfl (Nat.le_of_ble_eq_true rfl) ?_
  intro p e s m below meth c ls C hK hN hP hl
  obtain ⟨hx, hb, hr, hml, hown, hlocks, hts⟩ := C
  have hl : lv_has ls 2 [(0, .ref at_), (1, .int (nI b))] := hl
  have hw_0fc290 := hts (.initialized RX7) (by decide +kernel)
  have hw_1af174 := hts (.static yX7_isByte) (by decide +kernel)
  have hin_X6 : ∀ w ∈ wsX60, w ∈ wsX6_isOut := by decide +kernel
  have hl_19 := hts (.fieldLink RX6 19 "EscapeCoder$Teller" "outSince" "[I") (by decide +kernel)
  have hl_30 := hts (.fieldLink RX6 30 "EscapeCoder$Teller" "turn" "I") (by decide +kernel)
  refine lv_iload_n hx hb dX6_isOut_0 rfl (lv_at hl 1 rfl) ?_
  refine vp_callSi (va_Run.run (va_runSN (As := [.int (nI b)]) (rest := []) ⟨hx, hb, hml, hown, hts⟩ (c_isByte l D ca (nI b) ) ⟨va_cnB 1 hts gX6_isOut_X7_isByte_n108 rfl rfl rfl (nw_X6_108 hN) hw_0fc290 (by decide +kernel) ⟨Nat.le_of_ble_eq_true rfl, Nat.le_of_ble_eq_true rfl⟩, hw_1af174, trivial⟩ ⟨roP_blind, roP_at hK hN (hP.sub [] rfl)⟩ rfl rfl hl.1 rfl (lv_room (Nat.le_of_ble_eq_true rfl)) dX6_isOut_1 ⟨Nat.le_of_ble_eq_true rfl, Nat.le_of_ble_eq_true rfl⟩)) (fun r_1 hq => ?_)
  rw [isB_of hbb] at hq
  subst hq
  refine bb_eq (tgt := 24) hx hb dX6_isOut_4 (by decide) (fun h1 => ?_) (fun h1 => ?_)
  · exact absurd h1 (by decide)
  · refine lv_aload_n hx hb dX6_isOut_7 rfl (lv_at hl 0 rfl) ?_
    refine va_get (D := D) (ci := 5) (v := .ref qo) (C := RX6) (T := TX6) (N := 9) hx hb hts hin_X6 hown hK hP 0 rfl rfl 2 (by decide) hl_19 (fun _ h9 => h9) rfl dX6_isOut_8 ?_
    refine lv_iload_n hx hb dX6_isOut_11 rfl (lv_at hl 1 rfl) ?_
    refine ld_i hx hb hK hP 1 0 rfl rfl (j := b) (by omega) (by omega) dX6_isOut_12 ?_
    refine lv_aload_n hx hb dX6_isOut_13 rfl (lv_at hl 0 rfl) ?_
    refine va_get (D := D) (ci := 5) (v := .int (nI tn)) (C := RX6) (T := TX6) (N := 9) hx hb hts hin_X6 hown hK hP 0 rfl rfl 6 (by decide) hl_30 (fun _ h9 => h9) rfl dX6_isOut_14 ?_
    refine lv_icmp_ne (tgt := 24) hx hb dX6_isOut_17 (by decide) (fun h2 => ?_) (fun h2 => ?_)
    · refine lv_iconst (v := nI 0) hx hb dX6_isOut_24 (by decide) ?_
      have h3 : out b = false := by
        cases h4 : out b with
        | false => rfl
        | true => exact absurd ((hO b hbb).mpr h4) h2
      exact ro_zret hx hb hr hlocks (by decide) (by rw [h3]; rfl) dX6_isOut_25
    · refine lv_iconst (v := nI 1) hx hb dX6_isOut_20 (by decide) ?_
      refine lv_goto (tgt := 25) hx hb dX6_isOut_21 (by decide) ?_
      exact ro_zret hx hb hr hlocks (by decide) (by rw [(hO b hbb).mp h2]; rfl) dX6_isOut_25

set_option maxHeartbeats 4000000 in
set_option maxRecDepth 100000 in
theorem c_T_gather_n (l : Launch) (D : va_G) (ca : Nat → ClassId) (at_ : Nat) (as_ : Nat) (qo : Nat) (ql : Nat) (li : Nat) (lt : Nat) (tn : Nat) (ou : Nat) (to : Int32) (am : Nat) (qb : Nat) (qc : Nat) (qn : Nat) (kk : Nat) (kf : Nat) (kl : Nat) (kn : Nat) (ko : Nat) (kb : Nat) (lim : Nat) (nN : Nat) (nC : Nat) (top : Int32) (bef : Int32) (ear : Int32) (rs : Int32) (rt : Int32)  (sz : Nat) : Met l yX6_gather wsX6_gather { frames := 2, cells := 0, slots := 0, locals := 42 } (rwP D vwCl (ATy ca) [(at_, .inr (5, [.ref am, .ref as_, .ref qo, .ref ql, .int (nI li), .int (nI lt), .int (nI tn), .int (nI ou), .int to])), (am, .inr (3, [.int (nI lim), .int (nI nN), .ref qb, .ref qc, .ref qn, .int (nI nC), .ref kk, .ref kf, .ref kl, .ref kn, .ref ko, .ref kb, .int top, .int bef, .int ear, .int rs, .int rt]))] sz [.ref at_, .int (-1)]) (va_Qv (fun (u : Unit) => True) (bB D vwCl (fun (u : Unit) => [(at_, .inr (5, [.ref am, .ref as_, .ref qo, .ref ql, .int (nI 0), .int (nI 0), .int (nI tn), .int (nI ou), .int to])), (am, .inr (3, [.int (nI lim), .int (nI nN), .ref qb, .ref qc, .ref qn, .int (nI nC), .ref kk, .ref kf, .ref kl, .ref kn, .ref ko, .ref kb, .int top, .int bef, .int ear, .int rs, .int rt]))]) (va_A [(at_, .inr (5, [.ref am, .ref as_, .ref qo, .ref ql, .int (nI li), .int (nI lt), .int (nI tn), .int (nI ou), .int to])), (am, .inr (3, [.int (nI lim), .int (nI nN), .ref qb, .ref qc, .ref qn, .int (nI nC), .ref kk, .ref kf, .ref kl, .ref kn, .ref ko, .ref kb, .int top, .int bef, .int ear, .int rs, .int rt]))] sz)) (va_A [(at_, .inr (5, [.ref am, .ref as_, .ref qo, .ref ql, .int (nI li), .int (nI lt), .int (nI tn), .int (nI ou), .int to])), (am, .inr (3, [.int (nI lim), .int (nI nN), .ref qb, .ref qc, .ref qn, .int (nI nC), .ref kk, .ref kf, .ref kl, .ref kn, .ref ko, .ref kb, .int top, .int bef, .int ear, .int rs, .int rt]))] sz)) 0 0 (va_A [(at_, .inr (5, [.ref am, .ref as_, .ref qo, .ref ql, .int (nI li), .int (nI lt), .int (nI tn), .int (nI ou), .int to])), (am, .inr (3, [.int (nI lim), .int (nI nN), .ref qb, .ref qc, .ref qn, .int (nI nC), .ref kk, .ref kf, .ref kl, .ref kn, .ref ko, .ref kb, .int top, .int bef, .int ear, .int rs, .int rt]))] sz) := by
  refine rw_enter (Q := fun A => va_Qv (fun (u : Unit) => True) (bB D vwCl (fun (u : Unit) => [(at_, .inr (5, [.ref am, .ref as_, .ref qo, .ref ql, .int (nI 0), .int (nI 0), .int (nI tn), .int (nI ou), .int to])), (am, .inr (3, [.int (nI lim), .int (nI nN), .ref qb, .ref qc, .ref qn, .int (nI nC), .ref kk, .ref kf, .ref kl, .ref kn, .ref ko, .ref kb, .int top, .int bef, .int ear, .int rs, .int rt]))]) A) A) (by decide) rfl (Nat.le_of_ble_eq_true rfl) ?_
  intro p e s m below meth c ls A C hnm hK hN hP hD hA hl
  have hS : va_S A s.heap s.heap [] := va_S.rf
  obtain ⟨hx, hb, hr, hml, hown, hlocks, hts⟩ := C
  have hl : lv_has ls 4 [(0, .ref at_), (1, .int (-1))] := hl
  have hin_X6 : ∀ w ∈ wsX60, w ∈ wsX6_gather := by decide +kernel
  have hl_53 := hts (.fieldLink RX6 53 "EscapeCoder$Teller" "lives" "I") (by decide +kernel)
  have hl_64 := hts (.fieldLink RX6 64 "EscapeCoder$Teller" "liveTotal" "I") (by decide +kernel)
  have hl_9 := hts (.fieldLink RX6 9 "EscapeCoder$Teller" "model" "LEscapeCoder$Model;") (by decide +kernel)
  refine lv_aload_n hx hb dX6_gather_0 rfl (lv_at hl 0 rfl) ?_
  refine lv_iconst (v := nI 0) hx hb dX6_gather_1 (by decide) ?_
  refine va_put (D := D) (ci := 5) (v := .int (nI 0)) (ty := .int) (C := RX6) (T := TX6) (N := 9) hx hb hts hin_X6 tyX6 tyX6_ok nmX6 hown hK hP hD hS 0 rfl rfl 4 (by decide) hl_53 (fun _ h9 => h9) rfl (by decide +kernel) rfl rfl (Nat.le_of_ble_eq_true rfl) dX6_gather_2 (fun H locs hP hD hS => ?_)
  have hP : va_P D vwCl [(at_, .inr (5, [.ref am, .ref as_, .ref qo, .ref ql, .int (nI 0), .int (nI lt), .int (nI tn), .int (nI ou), .int to])), (am, .inr (3, [.int (nI lim), .int (nI nN), .ref qb, .ref qc, .ref qn, .int (nI nC), .ref kk, .ref kf, .ref kl, .ref kn, .ref ko, .ref kb, .int top, .int bef, .int ear, .int rs, .int rt]))] H := hP
  have hD : va_D A [(at_, .inr (5, [.ref am, .ref as_, .ref qo, .ref ql, .int (nI 0), .int (nI lt), .int (nI tn), .int (nI ou), .int to])), (am, .inr (3, [.int (nI lim), .int (nI nN), .ref qb, .ref qc, .ref qn, .int (nI nC), .ref kk, .ref kf, .ref kl, .ref kn, .ref ko, .ref kb, .int top, .int bef, .int ear, .int rs, .int rt]))] := hD
  refine lv_aload_n hx hb dX6_gather_5 rfl (lv_at hl 0 rfl) ?_
  refine lv_iconst (v := nI 0) hx hb dX6_gather_6 (by decide) ?_
  refine va_put (D := D) (ci := 5) (v := .int (nI 0)) (ty := .int) (C := RX6) (T := TX6) (N := 9) hx hb hts hin_X6 tyX6 tyX6_ok nmX6 hown hK hP hD hS 0 rfl rfl 5 (by decide) hl_64 (fun _ h9 => h9) rfl (by decide +kernel) rfl rfl (Nat.le_of_ble_eq_true rfl) dX6_gather_7 (fun H locs hP hD hS => ?_)
  have hP : va_P D vwCl [(at_, .inr (5, [.ref am, .ref as_, .ref qo, .ref ql, .int (nI 0), .int (nI 0), .int (nI tn), .int (nI ou), .int to])), (am, .inr (3, [.int (nI lim), .int (nI nN), .ref qb, .ref qc, .ref qn, .int (nI nC), .ref kk, .ref kf, .ref kl, .ref kn, .ref ko, .ref kb, .int top, .int bef, .int ear, .int rs, .int rt]))] H := hP
  have hD : va_D A [(at_, .inr (5, [.ref am, .ref as_, .ref qo, .ref ql, .int (nI 0), .int (nI 0), .int (nI tn), .int (nI ou), .int to])), (am, .inr (3, [.int (nI lim), .int (nI nN), .ref qb, .ref qc, .ref qn, .int (nI nC), .ref kk, .ref kf, .ref kl, .ref kn, .ref ko, .ref kb, .int top, .int bef, .int ear, .int rs, .int rt]))] := hD
  refine lv_aload_n hx hb dX6_gather_10 rfl (lv_at hl 0 rfl) ?_
  refine va_get (D := D) (ci := 5) (v := .ref am) (C := RX6) (T := TX6) (N := 9) hx hb hts hin_X6 hown hK hP 0 rfl rfl 0 (by decide) hl_9 (fun _ h9 => h9) rfl dX6_gather_11 ?_
  refine lv_iload_n hx hb dX6_gather_14 rfl (lv_at hl 1 rfl) ?_
  refine vp_callSi (va_Run.run (va_runV (As := [.int (-1)]) (rest := []) ⟨hx, hb, hml, hown, hts⟩ (c_M_firstNode_n l D ca am qb qc qn kk kf kl kn ko kb lim nN nC top bef ear rs rt ) (cwV 1 hts gX6_gather_X4_firstNode rfl rfl rfl (by decide +kernel) ⟨Nat.le_of_ble_eq_true rfl, Nat.le_of_ble_eq_true rfl⟩) ⟨roP_blind, va_recv hK hP (ci := 3) (q0 := 1) rfl rfl, roP_at hK hN (hP.sub [1] rfl)⟩ rfl rfl hl.1 rfl (lv_room (Nat.le_of_ble_eq_true rfl)) dX6_gather_15 ⟨Nat.le_of_ble_eq_true rfl, Nat.le_of_ble_eq_true rfl⟩)) (fun r_1 hq => ?_)
  subst hq
  refine lv_istore_n (lv' := [(2, .int (-1)), (0, .ref at_), (1, .int (-1))]) hx hb dX6_gather_18 rfl hl (by decide) rfl (fun ls hl => ?_)
  refine lv_aload_n hx hb dX6_gather_19 rfl (lv_at hl 1 rfl) ?_
  refine va_get (D := D) (ci := 5) (v := .ref am) (C := RX6) (T := TX6) (N := 9) hx hb hts hin_X6 hown hK hP 0 rfl rfl 0 (by decide) hl_9 (fun _ h9 => h9) rfl dX6_gather_20 ?_
  refine lv_iload_n hx hb dX6_gather_23 rfl (lv_at hl 2 rfl) ?_
  refine vp_callSi (va_Run.run (va_runV (As := [.int (-1)]) (rest := []) ⟨hx, hb, hml, hown, hts⟩ (c_M_nodesIn_n l D ca am qb qc qn kk kf kl kn ko kb lim nN nC top bef ear rs rt ) (cwV 1 hts gX6_gather_X4_nodesIn rfl rfl rfl (by decide +kernel) ⟨Nat.le_of_ble_eq_true rfl, Nat.le_of_ble_eq_true rfl⟩) ⟨roP_blind, va_recv hK hP (ci := 3) (q0 := 1) rfl rfl, roP_at hK hN (hP.sub [1] rfl)⟩ rfl rfl hl.1 rfl (lv_room (Nat.le_of_ble_eq_true rfl)) dX6_gather_24 ⟨Nat.le_of_ble_eq_true rfl, Nat.le_of_ble_eq_true rfl⟩)) (fun r_2 hq => ?_)
  subst hq
  refine lv_istore_n (lv' := [(3, .int (nI 0)), (2, .int (-1)), (0, .ref at_), (1, .int (-1))]) hx hb dX6_gather_27 rfl hl (by decide) rfl (fun ls hl => ?_)
  refine lv_iload_n hx hb dX6_gather_28 rfl (lv_at hl 0 rfl) ?_
  refine lv_if_le (tgt := 111) hx hb dX6_gather_29 (by decide) (fun h1 => ?_) (fun h1 => ?_)
  · exact rw_vret (u := ()) hx hb hr hlocks (trivial) (hP.sub [0, 1] rfl) (hD.sub [0, 1] (by decide) rfl) hS (Nat.le_refl _) (Nat.le_refl _) dX6_gather_111
  · exact absurd (by decide) h1

set_option maxHeartbeats 4000000 in
set_option maxRecDepth 100000 in
theorem c_T_gather_s (l : Launch) (D : va_G) (ca : Nat → ClassId) (at_ : Nat) (as_ : Nat) (qo : Nat) (ql : Nat) (li : Nat) (lt : Nat) (tn : Nat) (ou : Nat) (to : Int32) (am : Nat) (qb : Nat) (qc : Nat) (qn : Nat) (kk : Nat) (kf : Nat) (kl : Nat) (kn : Nat) (ko : Nat) (kb : Nat) (lim : Nat) (nC : Nat) (top : Int32) (bef : Int32) (ear : Int32) (rs : Int32) (rt : Int32) (gn : Nat) (gc : Nat) (i : Nat) (os : Nat → Int32) (lv : Nat → Int32) (cf : Nat → Int32) (ct : Nat → Int32) (nn : Nat → Int32) (nb : Nat → Int32) (nc : Nat → Int32) (out : Nat → Bool) (N : List Nd) (kx : Nat) (hcf : isNx (fun j => (nd N j).1 = kx) 0 N.length (cf i)) (hct : ct i = nI (kF N kx 0).length) (hi : i < nC) (hiC : nC ≤ gcap 6000 gc) (hnN : N.length ≤ gcap 6000 gn) (hnx : ∀ j, j < N.length → isNx (fun t => (nd N t).1 = (nd N j).1) (j + 1) N.length (nn j)) (hnb : ∀ j, j < N.length → nb j = nI (nd N j).2.1 ∧ nc j = nI (nd N j).2.2) (hok : okN N) (hO : OR os tn out) (sz : Nat) : Met l yX6_gather wsX6_gather { frames := 2, cells := 0, slots := 0, locals := 42 } (rwP D vwCl (ATy ca) [(at_, .inr (5, [.ref am, .ref as_, .ref qo, .ref ql, .int (nI li), .int (nI lt), .int (nI tn), .int (nI ou), .int to])), (qo, .inl (ca 0, 256, .inl os)), (ql, .inl (ca 0, 256, .inl lv)), (am, .inr (3, [.int (nI lim), .int (nI N.length), .ref qb, .ref qc, .ref qn, .int (nI nC), .ref kk, .ref kf, .ref kl, .ref kn, .ref ko, .ref kb, .int top, .int bef, .int ear, .int rs, .int rt])), (kf, .inl (ca 0, gcap 6000 gc, .inl cf)), (kn, .inl (ca 0, gcap 6000 gc, .inl ct)), (qn, .inl (ca 0, gcap 6000 gn, .inl nn)), (qb, .inl (ca 0, gcap 6000 gn, .inl nb)), (qc, .inl (ca 0, gcap 6000 gn, .inl nc))] sz [.ref at_, .int (nI i)]) (va_Qv (fun (u : (Nat → Int32)) => LvR u (lix N kx out N.length)) (bB D vwCl (fun (u : (Nat → Int32)) => [(at_, .inr (5, [.ref am, .ref as_, .ref qo, .ref ql, .int (nI ((lix N kx out N.length).length)), .int (nI (sumC (liv kx out N))), .int (nI tn), .int (nI ou), .int to])), (qo, .inl (ca 0, 256, .inl os)), (ql, .inl (ca 0, 256, .inl u)), (am, .inr (3, [.int (nI lim), .int (nI N.length), .ref qb, .ref qc, .ref qn, .int (nI nC), .ref kk, .ref kf, .ref kl, .ref kn, .ref ko, .ref kb, .int top, .int bef, .int ear, .int rs, .int rt])), (kf, .inl (ca 0, gcap 6000 gc, .inl cf)), (kn, .inl (ca 0, gcap 6000 gc, .inl ct)), (qn, .inl (ca 0, gcap 6000 gn, .inl nn)), (qb, .inl (ca 0, gcap 6000 gn, .inl nb)), (qc, .inl (ca 0, gcap 6000 gn, .inl nc))]) (va_A [(at_, .inr (5, [.ref am, .ref as_, .ref qo, .ref ql, .int (nI li), .int (nI lt), .int (nI tn), .int (nI ou), .int to])), (qo, .inl (ca 0, 256, .inl os)), (ql, .inl (ca 0, 256, .inl lv)), (am, .inr (3, [.int (nI lim), .int (nI N.length), .ref qb, .ref qc, .ref qn, .int (nI nC), .ref kk, .ref kf, .ref kl, .ref kn, .ref ko, .ref kb, .int top, .int bef, .int ear, .int rs, .int rt])), (kf, .inl (ca 0, gcap 6000 gc, .inl cf)), (kn, .inl (ca 0, gcap 6000 gc, .inl ct)), (qn, .inl (ca 0, gcap 6000 gn, .inl nn)), (qb, .inl (ca 0, gcap 6000 gn, .inl nb)), (qc, .inl (ca 0, gcap 6000 gn, .inl nc))] sz)) (va_A [(at_, .inr (5, [.ref am, .ref as_, .ref qo, .ref ql, .int (nI li), .int (nI lt), .int (nI tn), .int (nI ou), .int to])), (qo, .inl (ca 0, 256, .inl os)), (ql, .inl (ca 0, 256, .inl lv)), (am, .inr (3, [.int (nI lim), .int (nI N.length), .ref qb, .ref qc, .ref qn, .int (nI nC), .ref kk, .ref kf, .ref kl, .ref kn, .ref ko, .ref kb, .int top, .int bef, .int ear, .int rs, .int rt])), (kf, .inl (ca 0, gcap 6000 gc, .inl cf)), (kn, .inl (ca 0, gcap 6000 gc, .inl ct)), (qn, .inl (ca 0, gcap 6000 gn, .inl nn)), (qb, .inl (ca 0, gcap 6000 gn, .inl nb)), (qc, .inl (ca 0, gcap 6000 gn, .inl nc))] sz)) 0 0 (va_A [(at_, .inr (5, [.ref am, .ref as_, .ref qo, .ref ql, .int (nI li), .int (nI lt), .int (nI tn), .int (nI ou), .int to])), (qo, .inl (ca 0, 256, .inl os)), (ql, .inl (ca 0, 256, .inl lv)), (am, .inr (3, [.int (nI lim), .int (nI N.length), .ref qb, .ref qc, .ref qn, .int (nI nC), .ref kk, .ref kf, .ref kl, .ref kn, .ref ko, .ref kb, .int top, .int bef, .int ear, .int rs, .int rt])), (kf, .inl (ca 0, gcap 6000 gc, .inl cf)), (kn, .inl (ca 0, gcap 6000 gc, .inl ct)), (qn, .inl (ca 0, gcap 6000 gn, .inl nn)), (qb, .inl (ca 0, gcap 6000 gn, .inl nb)), (qc, .inl (ca 0, gcap 6000 gn, .inl nc))] sz) := by
  refine rw_enter (Q := fun A => va_Qv (fun (u : (Nat → Int32)) => LvR u (lix N kx out N.length)) (bB D vwCl (fun (u : (Nat → Int32)) => [(at_, .inr (5, [.ref am, .ref as_, .ref qo, .ref ql, .int (nI ((lix N kx out N.length).length)), .int (nI (sumC (liv kx out N))), .int (nI tn), .int (nI ou), .int to])), (qo, .inl (ca 0, 256, .inl os)), (ql, .inl (ca 0, 256, .inl u)), (am, .inr (3, [.int (nI lim), .int (nI N.length), .ref qb, .ref qc, .ref qn, .int (nI nC), .ref kk, .ref kf, .ref kl, .ref kn, .ref ko, .ref kb, .int top, .int bef, .int ear, .int rs, .int rt])), (kf, .inl (ca 0, gcap 6000 gc, .inl cf)), (kn, .inl (ca 0, gcap 6000 gc, .inl ct)), (qn, .inl (ca 0, gcap 6000 gn, .inl nn)), (qb, .inl (ca 0, gcap 6000 gn, .inl nb)), (qc, .inl (ca 0, gcap 6000 gn, .inl nc))]) A) A) (by decide) rfl (Nat.le_of_ble_eq_true rfl) ?_
  intro p e s m below meth c ls A C hnm hK hN hP hD hA hl
  have hS : va_S A s.heap s.heap [] := va_S.rf
  obtain ⟨hx, hb, hr, hml, hown, hlocks, hts⟩ := C
  have hl : lv_has ls 4 [(0, .ref at_), (1, .int (nI i))] := hl
  have hin_X6 : ∀ w ∈ wsX60, w ∈ wsX6_gather := by decide +kernel
  have hl_53 := hts (.fieldLink RX6 53 "EscapeCoder$Teller" "lives" "I") (by decide +kernel)
  have hl_23 := hts (.fieldLink RX6 23 "EscapeCoder$Teller" "live" "[I") (by decide +kernel)
  have hl_9 := hts (.fieldLink RX6 9 "EscapeCoder$Teller" "model" "LEscapeCoder$Model;") (by decide +kernel)
  have hl_64 := hts (.fieldLink RX6 64 "EscapeCoder$Teller" "liveTotal" "I") (by decide +kernel)
  have hg := gcap_le 6000 gn
  have hg2 := gcap_le 6000 gc
  have hlo : ∀ (z : Nat) (t : Nat) (x : Int32) (lv2 : Nat → Int32), (t ≤ N.length) → ((kF N kx t).length = z) → (isNx (fun j => (nd N j).1 = kx) t N.length x) → (LvR lv2 (lix N kx out t)) → ((lix N kx out t).length + z ≤ 256) → ∀ (H : Heap) (locs : List Loc), va_P D vwCl [(at_, .inr (5, [.ref am, .ref as_, .ref qo, .ref ql, .int (nI ((lix N kx out t).length)), .int (nI (sumC (liv kx out (N.take t)))), .int (nI tn), .int (nI ou), .int to])), (qo, .inl (ca 0, 256, .inl os)), (ql, .inl (ca 0, 256, .inl lv2)), (am, .inr (3, [.int (nI lim), .int (nI N.length), .ref qb, .ref qc, .ref qn, .int (nI nC), .ref kk, .ref kf, .ref kl, .ref kn, .ref ko, .ref kb, .int top, .int bef, .int ear, .int rs, .int rt])), (kf, .inl (ca 0, gcap 6000 gc, .inl cf)), (kn, .inl (ca 0, gcap 6000 gc, .inl ct)), (qn, .inl (ca 0, gcap 6000 gn, .inl nn)), (qb, .inl (ca 0, gcap 6000 gn, .inl nb)), (qc, .inl (ca 0, gcap 6000 gn, .inl nc))] H → va_D A [(at_, .inr (5, [.ref am, .ref as_, .ref qo, .ref ql, .int (nI ((lix N kx out t).length)), .int (nI (sumC (liv kx out (N.take t)))), .int (nI tn), .int (nI ou), .int to])), (qo, .inl (ca 0, 256, .inl os)), (ql, .inl (ca 0, 256, .inl lv2)), (am, .inr (3, [.int (nI lim), .int (nI N.length), .ref qb, .ref qc, .ref qn, .int (nI nC), .ref kk, .ref kf, .ref kl, .ref kn, .ref ko, .ref kb, .int top, .int bef, .int ear, .int rs, .int rt])), (kf, .inl (ca 0, gcap 6000 gc, .inl cf)), (kn, .inl (ca 0, gcap 6000 gc, .inl ct)), (qn, .inl (ca 0, gcap 6000 gn, .inl nn)), (qb, .inl (ca 0, gcap 6000 gn, .inl nb)), (qc, .inl (ca 0, gcap 6000 gn, .inl nc))] → va_S A s.heap H locs → ∀ (ls : Array Slot), lv_has ls 4 [(3, .int (nI z)), (2, .int x), (0, .ref at_), (1, .int (nI i))] → W p l e ({ frames := 2, cells := 0, slots := 0, locals := 42 } : Room) s m ([.ref at_, .int (nI i)] : List Value).toArray below meth c H locs 0 0 (MQ below (va_Qv (fun (u : (Nat → Int32)) => LvR u (lix N kx out N.length)) (bB D vwCl (fun (u : (Nat → Int32)) => [(at_, .inr (5, [.ref am, .ref as_, .ref qo, .ref ql, .int (nI ((lix N kx out N.length).length)), .int (nI (sumC (liv kx out N))), .int (nI tn), .int (nI ou), .int to])), (qo, .inl (ca 0, 256, .inl os)), (ql, .inl (ca 0, 256, .inl u)), (am, .inr (3, [.int (nI lim), .int (nI N.length), .ref qb, .ref qc, .ref qn, .int (nI nC), .ref kk, .ref kf, .ref kl, .ref kn, .ref ko, .ref kb, .int top, .int bef, .int ear, .int rs, .int rt])), (kf, .inl (ca 0, gcap 6000 gc, .inl cf)), (kn, .inl (ca 0, gcap 6000 gc, .inl ct)), (qn, .inl (ca 0, gcap 6000 gn, .inl nn)), (qb, .inl (ca 0, gcap 6000 gn, .inl nb)), (qc, .inl (ca 0, gcap 6000 gn, .inl nc))]) A) A) ([.ref at_, .int (nI i)] : List Value).toArray s 0 0 A) (F0 m 28 ls []) := by
    intro z
    induction z with
    | zero =>
      intro t x lv2 ht hF hx1 hLv hct2 H locs hP hD hS ls hl
      refine lv_iload_n hx hb dX6_gather_28 rfl (lv_at hl 0 rfl) ?_
      refine lv_if_le (tgt := 111) hx hb dX6_gather_29 (by decide) (fun h1 => ?_) (fun h1 => ?_)
      · have hF0 := List.eq_nil_of_length_eq_zero hF
        have e1 : lix N kx out N.length = lix N kx out t := by
          have h9 := lix_skip (N := N) (k := kx) (out := out) (N.length - t) t (fun j h1 h2 => kF_nil hF0 h1 (by omega))
          rw [show t + (N.length - t) = N.length by omega] at h9
          exact h9
        have e2 : liv kx out N = liv kx out (N.take t) := by rw [← lix_all, e1, lix_map _ _ _ _ ht]
        have hP : va_P D vwCl [(at_, .inr (5, [.ref am, .ref as_, .ref qo, .ref ql, .int (nI ((lix N kx out N.length).length)), .int (nI (sumC (liv kx out N))), .int (nI tn), .int (nI ou), .int to])), (qo, .inl (ca 0, 256, .inl os)), (ql, .inl (ca 0, 256, .inl lv2)), (am, .inr (3, [.int (nI lim), .int (nI N.length), .ref qb, .ref qc, .ref qn, .int (nI nC), .ref kk, .ref kf, .ref kl, .ref kn, .ref ko, .ref kb, .int top, .int bef, .int ear, .int rs, .int rt])), (kf, .inl (ca 0, gcap 6000 gc, .inl cf)), (kn, .inl (ca 0, gcap 6000 gc, .inl ct)), (qn, .inl (ca 0, gcap 6000 gn, .inl nn)), (qb, .inl (ca 0, gcap 6000 gn, .inl nb)), (qc, .inl (ca 0, gcap 6000 gn, .inl nc))] H := by rw [e1, e2]; exact hP
        have hD : va_D A [(at_, .inr (5, [.ref am, .ref as_, .ref qo, .ref ql, .int (nI ((lix N kx out N.length).length)), .int (nI (sumC (liv kx out N))), .int (nI tn), .int (nI ou), .int to])), (qo, .inl (ca 0, 256, .inl os)), (ql, .inl (ca 0, 256, .inl lv2)), (am, .inr (3, [.int (nI lim), .int (nI N.length), .ref qb, .ref qc, .ref qn, .int (nI nC), .ref kk, .ref kf, .ref kl, .ref kn, .ref ko, .ref kb, .int top, .int bef, .int ear, .int rs, .int rt])), (kf, .inl (ca 0, gcap 6000 gc, .inl cf)), (kn, .inl (ca 0, gcap 6000 gc, .inl ct)), (qn, .inl (ca 0, gcap 6000 gn, .inl nn)), (qb, .inl (ca 0, gcap 6000 gn, .inl nb)), (qc, .inl (ca 0, gcap 6000 gn, .inl nc))] := by rw [e1, e2]; exact hD
        exact rw_vret (u := lv2) hx hb hr hlocks (e1 ▸ hLv) (hP.sub [0, 1, 2, 3, 4, 5, 6, 7, 8] rfl) (hD.sub [0, 1, 2, 3, 4, 5, 6, 7, 8] (by decide) rfl) hS (Nat.le_refl _) (Nat.le_refl _) dX6_gather_111
      · exact absurd (by decide) h1
    | succ z ih =>
      intro t x lv2 ht hF hx1 hLv hct2 H locs hP hD hS ls hl
      obtain ⟨y, F, hyF⟩ := List.exists_cons_of_length_eq_add_one hF
      obtain ⟨j, rfl, h1, h2, h3, h4, h5, h6⟩ := nx_cons hx1 hyF
      have ej : lix N kx out j = lix N kx out t := by
        have h9 := lix_skip (N := N) (k := kx) (out := out) (j - t) t (fun i2 g1 g2 => h6 i2 g1 (by omega))
        rw [show t + (j - t) = j by omega] at h9
        exact h9
      have el : liv kx out (N.take j) = liv kx out (N.take t) := by rw [← lix_map _ _ _ _ (show j ≤ N.length by omega), ej, lix_map _ _ _ _ ht]
      have hm := hok.1 (nd N j) (by rw [nd_eq h2]; exact List.getElem_mem h2)
      refine lv_iload_n hx hb dX6_gather_28 rfl (lv_at hl 0 rfl) ?_
      refine lv_if_le (tgt := 111) hx hb dX6_gather_29 (by decide) (fun h7 => ?_) (fun h7 => ?_)
      · exact absurd h7 (nI_nle (by omega) (by omega))
      · refine lv_aload_n hx hb dX6_gather_32 rfl (lv_at hl 2 rfl) ?_
        refine va_get (D := D) (ci := 5) (v := .int (nI ((lix N kx out t).length))) (C := RX6) (T := TX6) (N := 9) hx hb hts hin_X6 hown hK hP 0 rfl rfl 4 (by decide) hl_53 (fun _ h9 => h9) rfl dX6_gather_33 ?_
        refine lv_aload_n hx hb dX6_gather_36 rfl (lv_at hl 2 rfl) ?_
        refine va_get (D := D) (ci := 5) (v := .ref ql) (C := RX6) (T := TX6) (N := 9) hx hb hts hin_X6 hown hK hP 0 rfl rfl 3 (by decide) hl_23 (fun _ h9 => h9) rfl dX6_gather_37 ?_
        refine va_alen hx hb hK hP 2 0 rfl rfl (v := nI 256) rfl dX6_gather_40 ?_
        refine bn_ge (tgt := 111) hx hb dX6_gather_41 (by decide) (by omega) (by omega) (fun h8 => ?_) (fun h8 => ?_)
        · exact absurd h8 (by omega)
        · refine lv_aload_n hx hb dX6_gather_44 rfl (lv_at hl 2 rfl) ?_
          refine lv_aload_n hx hb dX6_gather_45 rfl (lv_at hl 2 rfl) ?_
          refine va_get (D := D) (ci := 5) (v := .ref am) (C := RX6) (T := TX6) (N := 9) hx hb hts hin_X6 hown hK hP 0 rfl rfl 0 (by decide) hl_9 (fun _ h9 => h9) rfl dX6_gather_46 ?_
          refine lv_iload_n hx hb dX6_gather_49 rfl (lv_at hl 1 rfl) ?_
          refine vp_callSi (va_Run.run (va_runV (As := [.int (nI j)]) (rest := [.ref at_]) ⟨hx, hb, hml, hown, hts⟩ (c_M_byteOf_s l D ca am qb qc qn kk kf kl kn ko kb lim N.length nC top bef ear rs rt j gn nb (h2) (hnN)) (cwV 1 hts gX6_gather_X4_byteOf rfl rfl rfl (by decide +kernel) ⟨Nat.le_of_ble_eq_true rfl, Nat.le_of_ble_eq_true rfl⟩) ⟨roP_blind, va_recv hK hP (ci := 3) (q0 := 3) rfl rfl, roP_at hK hN (hP.sub [3, 7] rfl)⟩ rfl rfl hl.1 rfl (lv_room (Nat.le_of_ble_eq_true rfl)) dX6_gather_50 ⟨Nat.le_of_ble_eq_true rfl, Nat.le_of_ble_eq_true rfl⟩)) (fun r_1 hq => ?_)
          rw [(hnb j h2).1] at hq
          subst hq
          refine vp_callSi (va_Run.run (va_runV (As := [.int (nI (nd N j).2.1)]) (rest := []) ⟨hx, hb, hml, hown, hts⟩ (c_T_isOut l D ca at_ as_ qo ql am ((lix N kx out t).length) (sumC (liv kx out (N.take t))) tn ou to os out ((nd N j).2.1) (hO) (hm.2.1)) (cwV 1 hts gX6_gather_X6_isOut rfl rfl rfl (by decide +kernel) ⟨Nat.le_of_ble_eq_true rfl, Nat.le_of_ble_eq_true rfl⟩) ⟨roP_blind, va_recv hK hP (ci := 5) (q0 := 0) rfl rfl, roP_at hK hN (hP.sub [0, 1] rfl)⟩ rfl rfl hl.1 rfl (lv_room (Nat.le_of_ble_eq_true rfl)) dX6_gather_53 ⟨Nat.le_of_ble_eq_true rfl, Nat.le_of_ble_eq_true rfl⟩)) (fun r_2 hq => ?_)
          subst hq
          refine bb_ne (tgt := 96) hx hb dX6_gather_56 (by decide) (fun h9 => ?_) (fun h9 => ?_)
          · refine lv_aload_n hx hb dX6_gather_96 rfl (lv_at hl 2 rfl) ?_
            refine va_get (D := D) (ci := 5) (v := .ref am) (C := RX6) (T := TX6) (N := 9) hx hb hts hin_X6 hown hK hP 0 rfl rfl 0 (by decide) hl_9 (fun _ h9 => h9) rfl dX6_gather_97 ?_
            refine lv_iload_n hx hb dX6_gather_100 rfl (lv_at hl 1 rfl) ?_
            refine vp_callSi (va_Run.run (va_runV (As := [.int (nI j)]) (rest := []) ⟨hx, hb, hml, hown, hts⟩ (c_M_nextNode_s l D ca am qb qc qn kk kf kl kn ko kb lim N.length nC top bef ear rs rt j gn nn (h2) (hnN)) (cwV 1 hts gX6_gather_X4_nextNode rfl rfl rfl (by decide +kernel) ⟨Nat.le_of_ble_eq_true rfl, Nat.le_of_ble_eq_true rfl⟩) ⟨roP_blind, va_recv hK hP (ci := 3) (q0 := 3) rfl rfl, roP_at hK hN (hP.sub [3, 6] rfl)⟩ rfl rfl hl.1 rfl (lv_room (Nat.le_of_ble_eq_true rfl)) dX6_gather_101 ⟨Nat.le_of_ble_eq_true rfl, Nat.le_of_ble_eq_true rfl⟩)) (fun r_3 hq => ?_)
            subst hq
            refine lv_istore_n (lv' := [(2, .int (nn j)), (3, .int (nI (z + 1))), (0, .ref at_), (1, .int (nI i))]) hx hb dX6_gather_104 rfl hl (by decide) rfl (fun ls hl => ?_)
            refine lv_iinc (v := nI z) (lv' := [(3, .int (nI z)), (2, .int (nn j)), (0, .ref at_), (1, .int (nI i))]) hx hb dX6_gather_105 hl (k := 1) rfl (pk_m1 z) (by decide) rfl (fun ls hl => ?_)
            refine lv_goto (tgt := 28) hx hb dX6_gather_108 (by decide) ?_
            have hlb : lvb kx out (nd N j) = false := by simp [lvb, h4, h9]
            have e7 : lix N kx out (j + 1) = lix N kx out t := by rw [lix_s, ej, hlb]; simp
            have e8 : sumC (liv kx out (N.take (j + 1))) = sumC (liv kx out (N.take t)) := by
              rw [nd_take h2, show liv kx out (N.take j ++ [nd N j]) = liv kx out (N.take j) by unfold liv; rw [List.filter_append]; simp [hlb], el]
            have hP : va_P D vwCl [(at_, .inr (5, [.ref am, .ref as_, .ref qo, .ref ql, .int (nI ((lix N kx out (j + 1)).length)), .int (nI (sumC (liv kx out (N.take (j + 1))))), .int (nI tn), .int (nI ou), .int to])), (qo, .inl (ca 0, 256, .inl os)), (ql, .inl (ca 0, 256, .inl lv2)), (am, .inr (3, [.int (nI lim), .int (nI N.length), .ref qb, .ref qc, .ref qn, .int (nI nC), .ref kk, .ref kf, .ref kl, .ref kn, .ref ko, .ref kb, .int top, .int bef, .int ear, .int rs, .int rt])), (kf, .inl (ca 0, gcap 6000 gc, .inl cf)), (kn, .inl (ca 0, gcap 6000 gc, .inl ct)), (qn, .inl (ca 0, gcap 6000 gn, .inl nn)), (qb, .inl (ca 0, gcap 6000 gn, .inl nb)), (qc, .inl (ca 0, gcap 6000 gn, .inl nc))] H := by rw [e7, e8]; exact hP
            have hD : va_D A [(at_, .inr (5, [.ref am, .ref as_, .ref qo, .ref ql, .int (nI ((lix N kx out (j + 1)).length)), .int (nI (sumC (liv kx out (N.take (j + 1))))), .int (nI tn), .int (nI ou), .int to])), (qo, .inl (ca 0, 256, .inl os)), (ql, .inl (ca 0, 256, .inl lv2)), (am, .inr (3, [.int (nI lim), .int (nI N.length), .ref qb, .ref qc, .ref qn, .int (nI nC), .ref kk, .ref kf, .ref kl, .ref kn, .ref ko, .ref kb, .int top, .int bef, .int ear, .int rs, .int rt])), (kf, .inl (ca 0, gcap 6000 gc, .inl cf)), (kn, .inl (ca 0, gcap 6000 gc, .inl ct)), (qn, .inl (ca 0, gcap 6000 gn, .inl nn)), (qb, .inl (ca 0, gcap 6000 gn, .inl nb)), (qc, .inl (ca 0, gcap 6000 gn, .inl nc))] := by rw [e7, e8]; exact hD
            exact ih (j + 1) (nn j) _ (by omega) (by rw [h5]; rw [hyF] at hF; exact Nat.succ.inj hF) (nx_key (hnx j h2) h4) (by rw [e7]; exact hLv) (by rw [e7]; omega) H locs hP hD hS _ (lv_sub hl [0, 1, 2, 3] rfl)
          · refine lv_aload_n hx hb dX6_gather_59 rfl (lv_at hl 2 rfl) ?_
            refine va_get (D := D) (ci := 5) (v := .ref ql) (C := RX6) (T := TX6) (N := 9) hx hb hts hin_X6 hown hK hP 0 rfl rfl 3 (by decide) hl_23 (fun _ h9 => h9) rfl dX6_gather_60 ?_
            refine lv_aload_n hx hb dX6_gather_63 rfl (lv_at hl 2 rfl) ?_
            refine va_get (D := D) (ci := 5) (v := .int (nI ((lix N kx out t).length))) (C := RX6) (T := TX6) (N := 9) hx hb hts hin_X6 hown hK hP 0 rfl rfl 4 (by decide) hl_53 (fun _ h9 => h9) rfl dX6_gather_64 ?_
            refine lv_iload_n hx hb dX6_gather_67 rfl (lv_at hl 1 rfl) ?_
            refine st_i hx hb hK hP hD hS 2 0 rfl rfl (j := ((lix N kx out t).length)) (by omega) (by decide) dX6_gather_68 (fun H locs hP hD hS => ?_)
            have hP : va_P D vwCl [(at_, .inr (5, [.ref am, .ref as_, .ref qo, .ref ql, .int (nI ((lix N kx out t).length)), .int (nI (sumC (liv kx out (N.take t)))), .int (nI tn), .int (nI ou), .int to])), (qo, .inl (ca 0, 256, .inl os)), (ql, .inl (ca 0, 256, .inl (upd lv2 ((lix N kx out t).length) (nI j)))), (am, .inr (3, [.int (nI lim), .int (nI N.length), .ref qb, .ref qc, .ref qn, .int (nI nC), .ref kk, .ref kf, .ref kl, .ref kn, .ref ko, .ref kb, .int top, .int bef, .int ear, .int rs, .int rt])), (kf, .inl (ca 0, gcap 6000 gc, .inl cf)), (kn, .inl (ca 0, gcap 6000 gc, .inl ct)), (qn, .inl (ca 0, gcap 6000 gn, .inl nn)), (qb, .inl (ca 0, gcap 6000 gn, .inl nb)), (qc, .inl (ca 0, gcap 6000 gn, .inl nc))] H := hP
            have hD : va_D A [(at_, .inr (5, [.ref am, .ref as_, .ref qo, .ref ql, .int (nI ((lix N kx out t).length)), .int (nI (sumC (liv kx out (N.take t)))), .int (nI tn), .int (nI ou), .int to])), (qo, .inl (ca 0, 256, .inl os)), (ql, .inl (ca 0, 256, .inl (upd lv2 ((lix N kx out t).length) (nI j)))), (am, .inr (3, [.int (nI lim), .int (nI N.length), .ref qb, .ref qc, .ref qn, .int (nI nC), .ref kk, .ref kf, .ref kl, .ref kn, .ref ko, .ref kb, .int top, .int bef, .int ear, .int rs, .int rt])), (kf, .inl (ca 0, gcap 6000 gc, .inl cf)), (kn, .inl (ca 0, gcap 6000 gc, .inl ct)), (qn, .inl (ca 0, gcap 6000 gn, .inl nn)), (qb, .inl (ca 0, gcap 6000 gn, .inl nb)), (qc, .inl (ca 0, gcap 6000 gn, .inl nc))] := hD
            refine lv_aload_n hx hb dX6_gather_69 rfl (lv_at hl 2 rfl) ?_
            refine lv_dup hx hb dX6_gather_70 rfl ?_
            refine va_get (D := D) (ci := 5) (v := .int (nI ((lix N kx out t).length))) (C := RX6) (T := TX6) (N := 9) hx hb hts hin_X6 hown hK hP 0 rfl rfl 4 (by decide) hl_53 (fun _ h9 => h9) rfl dX6_gather_71 ?_
            refine lv_iconst (v := nI 1) hx hb dX6_gather_74 (by decide) ?_
            refine lv_iadd hx hb dX6_gather_75 ?_
            refine tp_i (y := nI ((lix N kx out t).length + 1)) (nI_1 _) ?_
            refine va_put (D := D) (ci := 5) (v := .int (nI ((lix N kx out t).length + 1))) (ty := .int) (C := RX6) (T := TX6) (N := 9) hx hb hts hin_X6 tyX6 tyX6_ok nmX6 hown hK hP hD hS 0 rfl rfl 4 (by decide) hl_53 (fun _ h9 => h9) rfl (by decide +kernel) rfl rfl (Nat.le_of_ble_eq_true rfl) dX6_gather_76 (fun H locs hP hD hS => ?_)
            have hP : va_P D vwCl [(at_, .inr (5, [.ref am, .ref as_, .ref qo, .ref ql, .int (nI ((lix N kx out t).length + 1)), .int (nI (sumC (liv kx out (N.take t)))), .int (nI tn), .int (nI ou), .int to])), (qo, .inl (ca 0, 256, .inl os)), (ql, .inl (ca 0, 256, .inl (upd lv2 ((lix N kx out t).length) (nI j)))), (am, .inr (3, [.int (nI lim), .int (nI N.length), .ref qb, .ref qc, .ref qn, .int (nI nC), .ref kk, .ref kf, .ref kl, .ref kn, .ref ko, .ref kb, .int top, .int bef, .int ear, .int rs, .int rt])), (kf, .inl (ca 0, gcap 6000 gc, .inl cf)), (kn, .inl (ca 0, gcap 6000 gc, .inl ct)), (qn, .inl (ca 0, gcap 6000 gn, .inl nn)), (qb, .inl (ca 0, gcap 6000 gn, .inl nb)), (qc, .inl (ca 0, gcap 6000 gn, .inl nc))] H := hP
            have hD : va_D A [(at_, .inr (5, [.ref am, .ref as_, .ref qo, .ref ql, .int (nI ((lix N kx out t).length + 1)), .int (nI (sumC (liv kx out (N.take t)))), .int (nI tn), .int (nI ou), .int to])), (qo, .inl (ca 0, 256, .inl os)), (ql, .inl (ca 0, 256, .inl (upd lv2 ((lix N kx out t).length) (nI j)))), (am, .inr (3, [.int (nI lim), .int (nI N.length), .ref qb, .ref qc, .ref qn, .int (nI nC), .ref kk, .ref kf, .ref kl, .ref kn, .ref ko, .ref kb, .int top, .int bef, .int ear, .int rs, .int rt])), (kf, .inl (ca 0, gcap 6000 gc, .inl cf)), (kn, .inl (ca 0, gcap 6000 gc, .inl ct)), (qn, .inl (ca 0, gcap 6000 gn, .inl nn)), (qb, .inl (ca 0, gcap 6000 gn, .inl nb)), (qc, .inl (ca 0, gcap 6000 gn, .inl nc))] := hD
            refine lv_aload_n hx hb dX6_gather_79 rfl (lv_at hl 2 rfl) ?_
            refine lv_dup hx hb dX6_gather_80 rfl ?_
            refine va_get (D := D) (ci := 5) (v := .int (nI (sumC (liv kx out (N.take t))))) (C := RX6) (T := TX6) (N := 9) hx hb hts hin_X6 hown hK hP 0 rfl rfl 5 (by decide) hl_64 (fun _ h9 => h9) rfl dX6_gather_81 ?_
            refine lv_aload_n hx hb dX6_gather_84 rfl (lv_at hl 2 rfl) ?_
            refine va_get (D := D) (ci := 5) (v := .ref am) (C := RX6) (T := TX6) (N := 9) hx hb hts hin_X6 hown hK hP 0 rfl rfl 0 (by decide) hl_9 (fun _ h9 => h9) rfl dX6_gather_85 ?_
            refine lv_iload_n hx hb dX6_gather_88 rfl (lv_at hl 1 rfl) ?_
            refine vp_callSi (va_Run.run (va_runV (As := [.int (nI j)]) (rest := [.int (nI (sumC (liv kx out (N.take t)))), .ref at_]) ⟨hx, hb, hml, hown, hts⟩ (c_M_countOf_s l D ca am qb qc qn kk kf kl kn ko kb lim N.length nC top bef ear rs rt j gn nc (h2) (hnN)) (cwV 1 hts gX6_gather_X4_countOf rfl rfl rfl (by decide +kernel) ⟨Nat.le_of_ble_eq_true rfl, Nat.le_of_ble_eq_true rfl⟩) ⟨roP_blind, va_recv hK hP (ci := 3) (q0 := 3) rfl rfl, roP_at hK hN (hP.sub [3, 8] rfl)⟩ rfl rfl hl.1 rfl (lv_room (Nat.le_of_ble_eq_true rfl)) dX6_gather_89 ⟨Nat.le_of_ble_eq_true rfl, Nat.le_of_ble_eq_true rfl⟩)) (fun r_4 hq => ?_)
            rw [(hnb j h2).2] at hq
            subst hq
            refine lv_iadd hx hb dX6_gather_92 ?_
            refine tp_i (y := nI (sumC (liv kx out (N.take t)) + (nd N j).2.2)) (nI_add _ _) ?_
            refine va_put (D := D) (ci := 5) (v := .int (nI (sumC (liv kx out (N.take t)) + (nd N j).2.2))) (ty := .int) (C := RX6) (T := TX6) (N := 9) hx hb hts hin_X6 tyX6 tyX6_ok nmX6 hown hK hP hD hS 0 rfl rfl 5 (by decide) hl_64 (fun _ h9 => h9) rfl (by decide +kernel) rfl rfl (Nat.le_of_ble_eq_true rfl) dX6_gather_93 (fun H locs hP hD hS => ?_)
            have hP : va_P D vwCl [(at_, .inr (5, [.ref am, .ref as_, .ref qo, .ref ql, .int (nI ((lix N kx out t).length + 1)), .int (nI (sumC (liv kx out (N.take t)) + (nd N j).2.2)), .int (nI tn), .int (nI ou), .int to])), (qo, .inl (ca 0, 256, .inl os)), (ql, .inl (ca 0, 256, .inl (upd lv2 ((lix N kx out t).length) (nI j)))), (am, .inr (3, [.int (nI lim), .int (nI N.length), .ref qb, .ref qc, .ref qn, .int (nI nC), .ref kk, .ref kf, .ref kl, .ref kn, .ref ko, .ref kb, .int top, .int bef, .int ear, .int rs, .int rt])), (kf, .inl (ca 0, gcap 6000 gc, .inl cf)), (kn, .inl (ca 0, gcap 6000 gc, .inl ct)), (qn, .inl (ca 0, gcap 6000 gn, .inl nn)), (qb, .inl (ca 0, gcap 6000 gn, .inl nb)), (qc, .inl (ca 0, gcap 6000 gn, .inl nc))] H := hP
            have hD : va_D A [(at_, .inr (5, [.ref am, .ref as_, .ref qo, .ref ql, .int (nI ((lix N kx out t).length + 1)), .int (nI (sumC (liv kx out (N.take t)) + (nd N j).2.2)), .int (nI tn), .int (nI ou), .int to])), (qo, .inl (ca 0, 256, .inl os)), (ql, .inl (ca 0, 256, .inl (upd lv2 ((lix N kx out t).length) (nI j)))), (am, .inr (3, [.int (nI lim), .int (nI N.length), .ref qb, .ref qc, .ref qn, .int (nI nC), .ref kk, .ref kf, .ref kl, .ref kn, .ref ko, .ref kb, .int top, .int bef, .int ear, .int rs, .int rt])), (kf, .inl (ca 0, gcap 6000 gc, .inl cf)), (kn, .inl (ca 0, gcap 6000 gc, .inl ct)), (qn, .inl (ca 0, gcap 6000 gn, .inl nn)), (qb, .inl (ca 0, gcap 6000 gn, .inl nb)), (qc, .inl (ca 0, gcap 6000 gn, .inl nc))] := hD
            refine lv_aload_n hx hb dX6_gather_96 rfl (lv_at hl 2 rfl) ?_
            refine va_get (D := D) (ci := 5) (v := .ref am) (C := RX6) (T := TX6) (N := 9) hx hb hts hin_X6 hown hK hP 0 rfl rfl 0 (by decide) hl_9 (fun _ h9 => h9) rfl dX6_gather_97 ?_
            refine lv_iload_n hx hb dX6_gather_100 rfl (lv_at hl 1 rfl) ?_
            refine vp_callSi (va_Run.run (va_runV (As := [.int (nI j)]) (rest := []) ⟨hx, hb, hml, hown, hts⟩ (c_M_nextNode_s l D ca am qb qc qn kk kf kl kn ko kb lim N.length nC top bef ear rs rt j gn nn (h2) (hnN)) (cwV 1 hts gX6_gather_X4_nextNode rfl rfl rfl (by decide +kernel) ⟨Nat.le_of_ble_eq_true rfl, Nat.le_of_ble_eq_true rfl⟩) ⟨roP_blind, va_recv hK hP (ci := 3) (q0 := 3) rfl rfl, roP_at hK hN (hP.sub [3, 6] rfl)⟩ rfl rfl hl.1 rfl (lv_room (Nat.le_of_ble_eq_true rfl)) dX6_gather_101 ⟨Nat.le_of_ble_eq_true rfl, Nat.le_of_ble_eq_true rfl⟩)) (fun r_5 hq => ?_)
            subst hq
            refine lv_istore_n (lv' := [(2, .int (nn j)), (3, .int (nI (z + 1))), (0, .ref at_), (1, .int (nI i))]) hx hb dX6_gather_104 rfl hl (by decide) rfl (fun ls hl => ?_)
            refine lv_iinc (v := nI z) (lv' := [(3, .int (nI z)), (2, .int (nn j)), (0, .ref at_), (1, .int (nI i))]) hx hb dX6_gather_105 hl (k := 1) rfl (pk_m1 z) (by decide) rfl (fun ls hl => ?_)
            refine lv_goto (tgt := 28) hx hb dX6_gather_108 (by decide) ?_
            have hlb : lvb kx out (nd N j) = true := by simp [lvb, h4, h9]
            have e7 : lix N kx out (j + 1) = lix N kx out t ++ [j] := by rw [lix_s, ej, hlb]; rfl
            have e8 : sumC (liv kx out (N.take (j + 1))) = sumC (liv kx out (N.take t)) + (nd N j).2.2 := by
              rw [nd_take h2, show liv kx out (N.take j ++ [nd N j]) = liv kx out (N.take j) ++ [nd N j] by unfold liv; rw [List.filter_append]; simp [hlb], el, sumC_app, sumC_1]
            have hP : va_P D vwCl [(at_, .inr (5, [.ref am, .ref as_, .ref qo, .ref ql, .int (nI ((lix N kx out (j + 1)).length)), .int (nI (sumC (liv kx out (N.take (j + 1))))), .int (nI tn), .int (nI ou), .int to])), (qo, .inl (ca 0, 256, .inl os)), (ql, .inl (ca 0, 256, .inl (upd lv2 ((lix N kx out t).length) (nI j)))), (am, .inr (3, [.int (nI lim), .int (nI N.length), .ref qb, .ref qc, .ref qn, .int (nI nC), .ref kk, .ref kf, .ref kl, .ref kn, .ref ko, .ref kb, .int top, .int bef, .int ear, .int rs, .int rt])), (kf, .inl (ca 0, gcap 6000 gc, .inl cf)), (kn, .inl (ca 0, gcap 6000 gc, .inl ct)), (qn, .inl (ca 0, gcap 6000 gn, .inl nn)), (qb, .inl (ca 0, gcap 6000 gn, .inl nb)), (qc, .inl (ca 0, gcap 6000 gn, .inl nc))] H := by rw [e7, e8, List.length_append, List.length_singleton]; exact hP
            have hD : va_D A [(at_, .inr (5, [.ref am, .ref as_, .ref qo, .ref ql, .int (nI ((lix N kx out (j + 1)).length)), .int (nI (sumC (liv kx out (N.take (j + 1))))), .int (nI tn), .int (nI ou), .int to])), (qo, .inl (ca 0, 256, .inl os)), (ql, .inl (ca 0, 256, .inl (upd lv2 ((lix N kx out t).length) (nI j)))), (am, .inr (3, [.int (nI lim), .int (nI N.length), .ref qb, .ref qc, .ref qn, .int (nI nC), .ref kk, .ref kf, .ref kl, .ref kn, .ref ko, .ref kb, .int top, .int bef, .int ear, .int rs, .int rt])), (kf, .inl (ca 0, gcap 6000 gc, .inl cf)), (kn, .inl (ca 0, gcap 6000 gc, .inl ct)), (qn, .inl (ca 0, gcap 6000 gn, .inl nn)), (qb, .inl (ca 0, gcap 6000 gn, .inl nb)), (qc, .inl (ca 0, gcap 6000 gn, .inl nc))] := by rw [e7, e8, List.length_append, List.length_singleton]; exact hD
            exact ih (j + 1) (nn j) _ (by omega) (by rw [h5]; rw [hyF] at hF; exact Nat.succ.inj hF) (nx_key (hnx j h2) h4) (by rw [e7]; exact LvR_app hLv rfl) (by rw [e7]; rw [List.length_append, List.length_singleton]; omega) H locs hP hD hS _ (lv_sub hl [0, 1, 2, 3] rfl)
  refine lv_aload_n hx hb dX6_gather_0 rfl (lv_at hl 0 rfl) ?_
  refine lv_iconst (v := nI 0) hx hb dX6_gather_1 (by decide) ?_
  refine va_put (D := D) (ci := 5) (v := .int (nI 0)) (ty := .int) (C := RX6) (T := TX6) (N := 9) hx hb hts hin_X6 tyX6 tyX6_ok nmX6 hown hK hP hD hS 0 rfl rfl 4 (by decide) hl_53 (fun _ h9 => h9) rfl (by decide +kernel) rfl rfl (Nat.le_of_ble_eq_true rfl) dX6_gather_2 (fun H locs hP hD hS => ?_)
  have hP : va_P D vwCl [(at_, .inr (5, [.ref am, .ref as_, .ref qo, .ref ql, .int (nI 0), .int (nI lt), .int (nI tn), .int (nI ou), .int to])), (qo, .inl (ca 0, 256, .inl os)), (ql, .inl (ca 0, 256, .inl lv)), (am, .inr (3, [.int (nI lim), .int (nI N.length), .ref qb, .ref qc, .ref qn, .int (nI nC), .ref kk, .ref kf, .ref kl, .ref kn, .ref ko, .ref kb, .int top, .int bef, .int ear, .int rs, .int rt])), (kf, .inl (ca 0, gcap 6000 gc, .inl cf)), (kn, .inl (ca 0, gcap 6000 gc, .inl ct)), (qn, .inl (ca 0, gcap 6000 gn, .inl nn)), (qb, .inl (ca 0, gcap 6000 gn, .inl nb)), (qc, .inl (ca 0, gcap 6000 gn, .inl nc))] H := hP
  have hD : va_D A [(at_, .inr (5, [.ref am, .ref as_, .ref qo, .ref ql, .int (nI 0), .int (nI lt), .int (nI tn), .int (nI ou), .int to])), (qo, .inl (ca 0, 256, .inl os)), (ql, .inl (ca 0, 256, .inl lv)), (am, .inr (3, [.int (nI lim), .int (nI N.length), .ref qb, .ref qc, .ref qn, .int (nI nC), .ref kk, .ref kf, .ref kl, .ref kn, .ref ko, .ref kb, .int top, .int bef, .int ear, .int rs, .int rt])), (kf, .inl (ca 0, gcap 6000 gc, .inl cf)), (kn, .inl (ca 0, gcap 6000 gc, .inl ct)), (qn, .inl (ca 0, gcap 6000 gn, .inl nn)), (qb, .inl (ca 0, gcap 6000 gn, .inl nb)), (qc, .inl (ca 0, gcap 6000 gn, .inl nc))] := hD
  refine lv_aload_n hx hb dX6_gather_5 rfl (lv_at hl 0 rfl) ?_
  refine lv_iconst (v := nI 0) hx hb dX6_gather_6 (by decide) ?_
  refine va_put (D := D) (ci := 5) (v := .int (nI 0)) (ty := .int) (C := RX6) (T := TX6) (N := 9) hx hb hts hin_X6 tyX6 tyX6_ok nmX6 hown hK hP hD hS 0 rfl rfl 5 (by decide) hl_64 (fun _ h9 => h9) rfl (by decide +kernel) rfl rfl (Nat.le_of_ble_eq_true rfl) dX6_gather_7 (fun H locs hP hD hS => ?_)
  have hP : va_P D vwCl [(at_, .inr (5, [.ref am, .ref as_, .ref qo, .ref ql, .int (nI 0), .int (nI 0), .int (nI tn), .int (nI ou), .int to])), (qo, .inl (ca 0, 256, .inl os)), (ql, .inl (ca 0, 256, .inl lv)), (am, .inr (3, [.int (nI lim), .int (nI N.length), .ref qb, .ref qc, .ref qn, .int (nI nC), .ref kk, .ref kf, .ref kl, .ref kn, .ref ko, .ref kb, .int top, .int bef, .int ear, .int rs, .int rt])), (kf, .inl (ca 0, gcap 6000 gc, .inl cf)), (kn, .inl (ca 0, gcap 6000 gc, .inl ct)), (qn, .inl (ca 0, gcap 6000 gn, .inl nn)), (qb, .inl (ca 0, gcap 6000 gn, .inl nb)), (qc, .inl (ca 0, gcap 6000 gn, .inl nc))] H := hP
  have hD : va_D A [(at_, .inr (5, [.ref am, .ref as_, .ref qo, .ref ql, .int (nI 0), .int (nI 0), .int (nI tn), .int (nI ou), .int to])), (qo, .inl (ca 0, 256, .inl os)), (ql, .inl (ca 0, 256, .inl lv)), (am, .inr (3, [.int (nI lim), .int (nI N.length), .ref qb, .ref qc, .ref qn, .int (nI nC), .ref kk, .ref kf, .ref kl, .ref kn, .ref ko, .ref kb, .int top, .int bef, .int ear, .int rs, .int rt])), (kf, .inl (ca 0, gcap 6000 gc, .inl cf)), (kn, .inl (ca 0, gcap 6000 gc, .inl ct)), (qn, .inl (ca 0, gcap 6000 gn, .inl nn)), (qb, .inl (ca 0, gcap 6000 gn, .inl nb)), (qc, .inl (ca 0, gcap 6000 gn, .inl nc))] := hD
  refine lv_aload_n hx hb dX6_gather_10 rfl (lv_at hl 0 rfl) ?_
  refine va_get (D := D) (ci := 5) (v := .ref am) (C := RX6) (T := TX6) (N := 9) hx hb hts hin_X6 hown hK hP 0 rfl rfl 0 (by decide) hl_9 (fun _ h9 => h9) rfl dX6_gather_11 ?_
  refine lv_iload_n hx hb dX6_gather_14 rfl (lv_at hl 1 rfl) ?_
  refine vp_callSi (va_Run.run (va_runV (As := [.int (nI i)]) (rest := []) ⟨hx, hb, hml, hown, hts⟩ (c_M_firstNode_s l D ca am qb qc qn kk kf kl kn ko kb lim N.length nC top bef ear rs rt i gc cf (hi) (hiC)) (cwV 1 hts gX6_gather_X4_firstNode rfl rfl rfl (by decide +kernel) ⟨Nat.le_of_ble_eq_true rfl, Nat.le_of_ble_eq_true rfl⟩) ⟨roP_blind, va_recv hK hP (ci := 3) (q0 := 3) rfl rfl, roP_at hK hN (hP.sub [3, 4] rfl)⟩ rfl rfl hl.1 rfl (lv_room (Nat.le_of_ble_eq_true rfl)) dX6_gather_15 ⟨Nat.le_of_ble_eq_true rfl, Nat.le_of_ble_eq_true rfl⟩)) (fun r_6 hq => ?_)
  subst hq
  refine lv_istore_n (lv' := [(2, .int (cf i)), (0, .ref at_), (1, .int (nI i))]) hx hb dX6_gather_18 rfl hl (by decide) rfl (fun ls hl => ?_)
  refine lv_aload_n hx hb dX6_gather_19 rfl (lv_at hl 1 rfl) ?_
  refine va_get (D := D) (ci := 5) (v := .ref am) (C := RX6) (T := TX6) (N := 9) hx hb hts hin_X6 hown hK hP 0 rfl rfl 0 (by decide) hl_9 (fun _ h9 => h9) rfl dX6_gather_20 ?_
  refine lv_iload_n hx hb dX6_gather_23 rfl (lv_at hl 2 rfl) ?_
  refine vp_callSi (va_Run.run (va_runV (As := [.int (nI i)]) (rest := []) ⟨hx, hb, hml, hown, hts⟩ (c_M_nodesIn_s l D ca am qb qc qn kk kf kl kn ko kb lim N.length nC top bef ear rs rt i gc ct (hi) (hiC)) (cwV 1 hts gX6_gather_X4_nodesIn rfl rfl rfl (by decide +kernel) ⟨Nat.le_of_ble_eq_true rfl, Nat.le_of_ble_eq_true rfl⟩) ⟨roP_blind, va_recv hK hP (ci := 3) (q0 := 3) rfl rfl, roP_at hK hN (hP.sub [3, 5] rfl)⟩ rfl rfl hl.1 rfl (lv_room (Nat.le_of_ble_eq_true rfl)) dX6_gather_24 ⟨Nat.le_of_ble_eq_true rfl, Nat.le_of_ble_eq_true rfl⟩)) (fun r_7 hq => ?_)
  rw [hct] at hq
  subst hq
  refine lv_istore_n (lv' := [(3, .int (nI (kF N kx 0).length)), (2, .int (cf i)), (0, .ref at_), (1, .int (nI i))]) hx hb dX6_gather_27 rfl hl (by decide) rfl (fun ls hl => ?_)
  exact hlo _ 0 (cf i) lv (by omega) rfl hcf (fun j hj => absurd hj (Nat.not_lt_zero _)) (by rw [lix_0]; have := kF_256 hok kx 0; simp; omega) H locs hP hD hS _ (lv_sub hl [0, 1, 2, 3] rfl)
