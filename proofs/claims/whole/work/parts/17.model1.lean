set_option maxHeartbeats 4000000 in
set_option maxRecDepth 100000 in
theorem c_M_nodes (l : Launch) (D : va_G) (ca : Nat → ClassId) (am : Nat) (qb : Nat) (qc : Nat) (qn : Nat) (kk : Nat) (kf : Nat) (kl : Nat) (kn : Nat) (ko : Nat) (kb : Nat) (lim : Nat) (nN : Nat) (nC : Nat) (top : Int32) (bef : Int32) (ear : Int32) (rs : Int32) (rt : Int32)  : Met l yX4_nodes wsX4_nodes { frames := 0, cells := 0, slots := 0, locals := 0 } (roP D vwCl (ATy ca) [(am, .inr (3, [.int (nI lim), .int (nI nN), .ref qb, .ref qc, .ref qn, .int (nI nC), .ref kk, .ref kf, .ref kl, .ref kn, .ref ko, .ref kb, .int top, .int bef, .int ear, .int rs, .int rt]))] [.ref am]) (vp_Si (fun r : Int32 => r = nI nN)) 0 0 (fun _ => False) := by
  refine ro_enter (by decide) rfl (Nat.le_of_ble_eq_true rfl) ?_
  intro p e s m below meth c ls C hK hN hP hl
  obtain ⟨hx, hb, hr, hml, hown, hlocks, hts⟩ := C
  have hl : lv_has ls 1 [(0, .ref am)] := hl
  have hin_X4 : ∀ w ∈ wsX40, w ∈ wsX4_nodes := by decide +kernel
  have hl_61 := hts (.fieldLink RX4 61 "EscapeCoder$Model" "nodes" "I") (by decide +kernel)
  refine lv_aload_n hx hb dX4_nodes_0 rfl (lv_at hl 0 rfl) ?_
  refine va_get (D := D) (ci := 3) (v := .int (nI nN)) (C := RX4) (T := TX4) (N := 17) hx hb hts hin_X4 hown hK hP 0 rfl rfl 1 (by decide) hl_61 (fun _ h9 => h9) rfl dX4_nodes_1 ?_
  exact ro_iret hx hb hr hlocks (rfl) dX4_nodes_4

set_option maxHeartbeats 4000000 in
set_option maxRecDepth 100000 in
theorem c_M_contexts (l : Launch) (D : va_G) (ca : Nat → ClassId) (am : Nat) (qb : Nat) (qc : Nat) (qn : Nat) (kk : Nat) (kf : Nat) (kl : Nat) (kn : Nat) (ko : Nat) (kb : Nat) (lim : Nat) (nN : Nat) (nC : Nat) (top : Int32) (bef : Int32) (ear : Int32) (rs : Int32) (rt : Int32)  : Met l yX4_contexts wsX4_contexts { frames := 0, cells := 0, slots := 0, locals := 0 } (roP D vwCl (ATy ca) [(am, .inr (3, [.int (nI lim), .int (nI nN), .ref qb, .ref qc, .ref qn, .int (nI nC), .ref kk, .ref kf, .ref kl, .ref kn, .ref ko, .ref kb, .int top, .int bef, .int ear, .int rs, .int rt]))] [.ref am]) (vp_Si (fun r : Int32 => r = nI nC)) 0 0 (fun _ => False) := by
  refine ro_enter (by decide) rfl (Nat.le_of_ble_eq_true rfl) ?_
  intro p e s m below meth c ls C hK hN hP hl
  obtain ⟨hx, hb, hr, hml, hown, hlocks, hts⟩ := C
  have hl : lv_has ls 1 [(0, .ref am)] := hl
  have hin_X4 : ∀ w ∈ wsX40, w ∈ wsX4_contexts := by decide +kernel
  have hl_64 := hts (.fieldLink RX4 64 "EscapeCoder$Model" "contexts" "I") (by decide +kernel)
  refine lv_aload_n hx hb dX4_contexts_0 rfl (lv_at hl 0 rfl) ?_
  refine va_get (D := D) (ci := 3) (v := .int (nI nC)) (C := RX4) (T := TX4) (N := 17) hx hb hts hin_X4 hown hK hP 0 rfl rfl 5 (by decide) hl_64 (fun _ h9 => h9) rfl dX4_contexts_1 ?_
  exact ro_iret hx hb hr hlocks (rfl) dX4_contexts_4

set_option maxHeartbeats 4000000 in
set_option maxRecDepth 100000 in
theorem c_M_rescalings (l : Launch) (D : va_G) (ca : Nat → ClassId) (am : Nat) (qb : Nat) (qc : Nat) (qn : Nat) (kk : Nat) (kf : Nat) (kl : Nat) (kn : Nat) (ko : Nat) (kb : Nat) (lim : Nat) (nN : Nat) (nC : Nat) (top : Int32) (bef : Int32) (ear : Int32) (rs : Int32) (rt : Int32)  : Met l yX4_rescalings wsX4_rescalings { frames := 0, cells := 0, slots := 0, locals := 0 } (roP D vwCl (ATy ca) [(am, .inr (3, [.int (nI lim), .int (nI nN), .ref qb, .ref qc, .ref qn, .int (nI nC), .ref kk, .ref kf, .ref kl, .ref kn, .ref ko, .ref kb, .int top, .int bef, .int ear, .int rs, .int rt]))] [.ref am]) (vp_Si (fun r : Int32 => r = rs)) 0 0 (fun _ => False) := by
  refine ro_enter (by decide) rfl (Nat.le_of_ble_eq_true rfl) ?_
  intro p e s m below meth c ls C hK hN hP hl
  obtain ⟨hx, hb, hr, hml, hown, hlocks, hts⟩ := C
  have hl : lv_has ls 1 [(0, .ref am)] := hl
  have hin_X4 : ∀ w ∈ wsX40, w ∈ wsX4_rescalings := by decide +kernel
  have hl_55 := hts (.fieldLink RX4 55 "EscapeCoder$Model" "rescalings" "I") (by decide +kernel)
  refine lv_aload_n hx hb dX4_rescalings_0 rfl (lv_at hl 0 rfl) ?_
  refine va_get (D := D) (ci := 3) (v := .int rs) (C := RX4) (T := TX4) (N := 17) hx hb hts hin_X4 hown hK hP 0 rfl rfl 15 (by decide) hl_55 (fun _ h9 => h9) rfl dX4_rescalings_1 ?_
  exact ro_iret hx hb hr hlocks (rfl) dX4_rescalings_4

set_option maxHeartbeats 4000000 in
set_option maxRecDepth 100000 in
theorem c_M_resets (l : Launch) (D : va_G) (ca : Nat → ClassId) (am : Nat) (qb : Nat) (qc : Nat) (qn : Nat) (kk : Nat) (kf : Nat) (kl : Nat) (kn : Nat) (ko : Nat) (kb : Nat) (lim : Nat) (nN : Nat) (nC : Nat) (top : Int32) (bef : Int32) (ear : Int32) (rs : Int32) (rt : Int32)  : Met l yX4_resets wsX4_resets { frames := 0, cells := 0, slots := 0, locals := 0 } (roP D vwCl (ATy ca) [(am, .inr (3, [.int (nI lim), .int (nI nN), .ref qb, .ref qc, .ref qn, .int (nI nC), .ref kk, .ref kf, .ref kl, .ref kn, .ref ko, .ref kb, .int top, .int bef, .int ear, .int rs, .int rt]))] [.ref am]) (vp_Si (fun r : Int32 => r = rt)) 0 0 (fun _ => False) := by
  refine ro_enter (by decide) rfl (Nat.le_of_ble_eq_true rfl) ?_
  intro p e s m below meth c ls C hK hN hP hl
  obtain ⟨hx, hb, hr, hml, hown, hlocks, hts⟩ := C
  have hl : lv_has ls 1 [(0, .ref am)] := hl
  have hin_X4 : ∀ w ∈ wsX40, w ∈ wsX4_resets := by decide +kernel
  have hl_58 := hts (.fieldLink RX4 58 "EscapeCoder$Model" "resets" "I") (by decide +kernel)
  refine lv_aload_n hx hb dX4_resets_0 rfl (lv_at hl 0 rfl) ?_
  refine va_get (D := D) (ci := 3) (v := .int rt) (C := RX4) (T := TX4) (N := 17) hx hb hts hin_X4 hown hK hP 0 rfl rfl 16 (by decide) hl_58 (fun _ h9 => h9) rfl dX4_resets_1 ?_
  exact ro_iret hx hb hr hlocks (rfl) dX4_resets_4

set_option maxHeartbeats 4000000 in
set_option maxRecDepth 100000 in
theorem c_M_topOrder (l : Launch) (D : va_G) (ca : Nat → ClassId) (am : Nat) (qb : Nat) (qc : Nat) (qn : Nat) (kk : Nat) (kf : Nat) (kl : Nat) (kn : Nat) (ko : Nat) (kb : Nat) (lim : Nat) (nN : Nat) (nC : Nat) (top : Int32) (bef : Int32) (ear : Int32) (rs : Int32) (rt : Int32)  : Met l yX4_topOrder wsX4_topOrder { frames := 0, cells := 0, slots := 0, locals := 0 } (roP D vwCl (ATy ca) [(am, .inr (3, [.int (nI lim), .int (nI nN), .ref qb, .ref qc, .ref qn, .int (nI nC), .ref kk, .ref kf, .ref kl, .ref kn, .ref ko, .ref kb, .int top, .int bef, .int ear, .int rs, .int rt]))] [.ref am]) (vp_Si (fun r : Int32 => r = top)) 0 0 (fun _ => False) := by
  refine ro_enter (by decide) rfl (Nat.le_of_ble_eq_true rfl) ?_
  intro p e s m below meth c ls C hK hN hP hl
  obtain ⟨hx, hb, hr, hml, hown, hlocks, hts⟩ := C
  have hl : lv_has ls 1 [(0, .ref am)] := hl
  have hin_X4 : ∀ w ∈ wsX40, w ∈ wsX4_topOrder := by decide +kernel
  have hl_52 := hts (.fieldLink RX4 52 "EscapeCoder$Model" "topOrder" "I") (by decide +kernel)
  refine lv_aload_n hx hb dX4_topOrder_0 rfl (lv_at hl 0 rfl) ?_
  refine va_get (D := D) (ci := 3) (v := .int top) (C := RX4) (T := TX4) (N := 17) hx hb hts hin_X4 hown hK hP 0 rfl rfl 12 (by decide) hl_52 (fun _ h9 => h9) rfl dX4_topOrder_1 ?_
  exact ro_iret hx hb hr hlocks (rfl) dX4_topOrder_4

set_option maxHeartbeats 4000000 in
set_option maxRecDepth 100000 in
theorem c_M_limitTo (l : Launch) (D : va_G) (ca : Nat → ClassId) (am : Nat) (qb : Nat) (qc : Nat) (qn : Nat) (kk : Nat) (kf : Nat) (kl : Nat) (kn : Nat) (ko : Nat) (kb : Nat) (lim : Nat) (nN : Nat) (nC : Nat) (top : Int32) (bef : Int32) (ear : Int32) (rs : Int32) (rt : Int32) (lim2 : Nat)  (sz : Nat) : Met l yX4_limitTo wsX4_limitTo { frames := 0, cells := 0, slots := 0, locals := 0 } (rwP D vwCl (ATy ca) [(am, .inr (3, [.int (nI lim), .int (nI nN), .ref qb, .ref qc, .ref qn, .int (nI nC), .ref kk, .ref kf, .ref kl, .ref kn, .ref ko, .ref kb, .int top, .int bef, .int ear, .int rs, .int rt]))] sz [.ref am, .int (nI lim2)]) (va_Qv (fun (u : Unit) => True) (bB D vwCl (fun (u : Unit) => [(am, .inr (3, [.int (nI lim2), .int (nI nN), .ref qb, .ref qc, .ref qn, .int (nI nC), .ref kk, .ref kf, .ref kl, .ref kn, .ref ko, .ref kb, .int top, .int bef, .int ear, .int rs, .int rt]))]) (va_A [(am, .inr (3, [.int (nI lim), .int (nI nN), .ref qb, .ref qc, .ref qn, .int (nI nC), .ref kk, .ref kf, .ref kl, .ref kn, .ref ko, .ref kb, .int top, .int bef, .int ear, .int rs, .int rt]))] sz)) (va_A [(am, .inr (3, [.int (nI lim), .int (nI nN), .ref qb, .ref qc, .ref qn, .int (nI nC), .ref kk, .ref kf, .ref kl, .ref kn, .ref ko, .ref kb, .int top, .int bef, .int ear, .int rs, .int rt]))] sz)) 0 0 (va_A [(am, .inr (3, [.int (nI lim), .int (nI nN), .ref qb, .ref qc, .ref qn, .int (nI nC), .ref kk, .ref kf, .ref kl, .ref kn, .ref ko, .ref kb, .int top, .int bef, .int ear, .int rs, .int rt]))] sz) := by
  refine rw_enter (Q := fun A => va_Qv (fun (u : Unit) => True) (bB D vwCl (fun (u : Unit) => [(am, .inr (3, [.int (nI lim2), .int (nI nN), .ref qb, .ref qc, .ref qn, .int (nI nC), .ref kk, .ref kf, .ref kl, .ref kn, .ref ko, .ref kb, .int top, .int bef, .int ear, .int rs, .int rt]))]) A) A) (by decide) rfl (Nat.le_of_ble_eq_true rfl) ?_
  intro p e s m below meth c ls A C hnm hK hN hP hD hA hl
  have hS : va_S A s.heap s.heap [] := va_S.rf
  obtain ⟨hx, hb, hr, hml, hown, hlocks, hts⟩ := C
  have hl : lv_has ls 2 [(0, .ref am), (1, .int (nI lim2))] := hl
  have hin_X4 : ∀ w ∈ wsX40, w ∈ wsX4_limitTo := by decide +kernel
  have hl_9 := hts (.fieldLink RX4 9 "EscapeCoder$Model" "limit" "I") (by decide +kernel)
  refine lv_aload_n hx hb dX4_limitTo_0 rfl (lv_at hl 0 rfl) ?_
  refine lv_iload_n hx hb dX4_limitTo_1 rfl (lv_at hl 1 rfl) ?_
  refine va_put (D := D) (ci := 3) (v := .int (nI lim2)) (ty := .int) (C := RX4) (T := TX4) (N := 17) hx hb hts hin_X4 tyX4 tyX4_ok nmX4 hown hK hP hD hS 0 rfl rfl 0 (by decide) hl_9 (fun _ h9 => h9) rfl (by decide +kernel) rfl rfl (Nat.le_of_ble_eq_true rfl) dX4_limitTo_2 (fun H locs hP hD hS => ?_)
  have hP : va_P D vwCl [(am, .inr (3, [.int (nI lim2), .int (nI nN), .ref qb, .ref qc, .ref qn, .int (nI nC), .ref kk, .ref kf, .ref kl, .ref kn, .ref ko, .ref kb, .int top, .int bef, .int ear, .int rs, .int rt]))] H := hP
  have hD : va_D A [(am, .inr (3, [.int (nI lim2), .int (nI nN), .ref qb, .ref qc, .ref qn, .int (nI nC), .ref kk, .ref kf, .ref kl, .ref kn, .ref ko, .ref kb, .int top, .int bef, .int ear, .int rs, .int rt]))] := hD
  exact rw_vret (u := ()) hx hb hr hlocks (trivial) (hP.sub [0] rfl) (hD.sub [0] (by decide) rfl) hS (Nat.le_refl _) (Nat.le_refl _) dX4_limitTo_5

set_option maxHeartbeats 4000000 in
set_option maxRecDepth 100000 in
theorem c_bucketOf (l : Launch) (D : va_G) (ca : Nat → ClassId) (k : Nat) (hk : k < 2 ^ 31) : Met l yX4_bucketOf wsX4_bucketOf { frames := 0, cells := 0, slots := 0, locals := 0 } (roP D vwCl (ATy ca) [] [.int (nI k)]) (vp_Si (fun r : Int32 => r = nI (bkt k))) 0 0 (fun _ => False) := by
  refine ro_enter (by decide) rfl (Nat.le_of_ble_eq_true rfl) ?_
  intro p e s m below meth c ls C hK hN hP hl
  obtain ⟨hx, hb, hr, hml, hown, hlocks, hts⟩ := C
  have hl : lv_has ls 1 [(0, .int (nI k))] := hl
  refine lv_iload_n hx hb dX4_bucketOf_0 rfl (lv_at hl 0 rfl) ?_
  refine lv_iload_n hx hb dX4_bucketOf_1 rfl (lv_at hl 0 rfl) ?_
  refine lv_bipush (v := nI 8) hx hb dX4_bucketOf_2 (by decide) ?_
  refine lv_ishr hx hb dX4_bucketOf_4 ?_
  refine lv_ixor hx hb dX4_bucketOf_5 ?_
  refine lv_sipush (v := nI 255) hx hb dX4_bucketOf_6 (by decide) ?_
  refine lv_iand hx hb dX4_bucketOf_9 ?_
  exact ro_iret hx hb hr hlocks (bkt_nI hk) dX4_bucketOf_10

set_option maxHeartbeats 4000000 in
set_option maxRecDepth 100000 in
theorem c_M_isContext_s (l : Launch) (D : va_G) (ca : Nat → ClassId) (am : Nat) (qb : Nat) (qc : Nat) (qn : Nat) (kk : Nat) (kf : Nat) (kl : Nat) (kn : Nat) (ko : Nat) (kb : Nat) (lim : Nat) (nN : Nat) (nC : Nat) (top : Int32) (bef : Int32) (ear : Int32) (rs : Int32) (rt : Int32) (i : Nat) (hi : i < nC) (hn : nC < 2 ^ 31) : Met l yX4_isContext wsX4_isContext { frames := 0, cells := 0, slots := 0, locals := 0 } (roP D vwCl (ATy ca) [(am, .inr (3, [.int (nI lim), .int (nI nN), .ref qb, .ref qc, .ref qn, .int (nI nC), .ref kk, .ref kf, .ref kl, .ref kn, .ref ko, .ref kb, .int top, .int bef, .int ear, .int rs, .int rt]))] [.ref am, .int (nI i)]) (vp_Si (fun r : Int32 => r = bI true)) 0 0 (fun _ => False) := by
  refine ro_enter (by decide) rfl (Nat.le_of_ble_eq_true rfl) ?_
  intro p e s m below meth c ls C hK hN hP hl
  obtain ⟨hx, hb, hr, hml, hown, hlocks, hts⟩ := C
  have hl : lv_has ls 2 [(0, .ref am), (1, .int (nI i))] := hl
  have hin_X4 : ∀ w ∈ wsX40, w ∈ wsX4_isContext := by decide +kernel
  have hl_64 := hts (.fieldLink RX4 64 "EscapeCoder$Model" "contexts" "I") (by decide +kernel)
  refine lv_iload_n hx hb dX4_isContext_0 rfl (lv_at hl 1 rfl) ?_
  refine lv_if_lt (tgt := 16) hx hb dX4_isContext_1 (by decide) (fun h1 => ?_) (fun h1 => ?_)
  · exact absurd h1 (nI_pos (by omega))
  · refine lv_iload_n hx hb dX4_isContext_4 rfl (lv_at hl 1 rfl) ?_
    refine lv_aload_n hx hb dX4_isContext_5 rfl (lv_at hl 0 rfl) ?_
    refine va_get (D := D) (ci := 3) (v := .int (nI nC)) (C := RX4) (T := TX4) (N := 17) hx hb hts hin_X4 hown hK hP 0 rfl rfl 5 (by decide) hl_64 (fun _ h9 => h9) rfl dX4_isContext_6 ?_
    refine bn_ge (tgt := 16) hx hb dX4_isContext_9 (by decide) (by omega) (by omega) (fun h2 => ?_) (fun h2 => ?_)
    · exact absurd h2 (by omega)
    · refine lv_iconst (v := nI 1) hx hb dX4_isContext_12 (by decide) ?_
      refine lv_goto (tgt := 17) hx hb dX4_isContext_13 (by decide) ?_
      exact ro_zret hx hb hr hlocks (by decide) (rfl) dX4_isContext_17

set_option maxHeartbeats 4000000 in
set_option maxRecDepth 100000 in
theorem c_M_isContext_n (l : Launch) (D : va_G) (ca : Nat → ClassId) (am : Nat) (qb : Nat) (qc : Nat) (qn : Nat) (kk : Nat) (kf : Nat) (kl : Nat) (kn : Nat) (ko : Nat) (kb : Nat) (lim : Nat) (nN : Nat) (nC : Nat) (top : Int32) (bef : Int32) (ear : Int32) (rs : Int32) (rt : Int32)  : Met l yX4_isContext wsX4_isContext { frames := 0, cells := 0, slots := 0, locals := 0 } (roP D vwCl (ATy ca) [(am, .inr (3, [.int (nI lim), .int (nI nN), .ref qb, .ref qc, .ref qn, .int (nI nC), .ref kk, .ref kf, .ref kl, .ref kn, .ref ko, .ref kb, .int top, .int bef, .int ear, .int rs, .int rt]))] [.ref am, .int (-1)]) (vp_Si (fun r : Int32 => r = bI false)) 0 0 (fun _ => False) := by
  refine ro_enter (by decide) rfl (Nat.le_of_ble_eq_true rfl) ?_
  intro p e s m below meth c ls C hK hN hP hl
  obtain ⟨hx, hb, hr, hml, hown, hlocks, hts⟩ := C
  have hl : lv_has ls 2 [(0, .ref am), (1, .int (-1))] := hl
  refine lv_iload_n hx hb dX4_isContext_0 rfl (lv_at hl 1 rfl) ?_
  refine lv_if_lt (tgt := 16) hx hb dX4_isContext_1 (by decide) (fun h1 => ?_) (fun h1 => ?_)
  · refine lv_iconst (v := nI 0) hx hb dX4_isContext_16 (by decide) ?_
    exact ro_zret hx hb hr hlocks (by decide) (rfl) dX4_isContext_17
  · exact absurd (by decide) h1

set_option maxHeartbeats 4000000 in
set_option maxRecDepth 100000 in
theorem c_M_isNode_s (l : Launch) (D : va_G) (ca : Nat → ClassId) (am : Nat) (qb : Nat) (qc : Nat) (qn : Nat) (kk : Nat) (kf : Nat) (kl : Nat) (kn : Nat) (ko : Nat) (kb : Nat) (lim : Nat) (nN : Nat) (nC : Nat) (top : Int32) (bef : Int32) (ear : Int32) (rs : Int32) (rt : Int32) (i : Nat) (hi : i < nN) (hn : nN < 2 ^ 31) : Met l yX4_isNode wsX4_isNode { frames := 0, cells := 0, slots := 0, locals := 0 } (roP D vwCl (ATy ca) [(am, .inr (3, [.int (nI lim), .int (nI nN), .ref qb, .ref qc, .ref qn, .int (nI nC), .ref kk, .ref kf, .ref kl, .ref kn, .ref ko, .ref kb, .int top, .int bef, .int ear, .int rs, .int rt]))] [.ref am, .int (nI i)]) (vp_Si (fun r : Int32 => r = bI true)) 0 0 (fun _ => False) := by
  refine ro_enter (by decide) rfl (Nat.le_of_ble_eq_true rfl) ?_
  intro p e s m below meth c ls C hK hN hP hl
  obtain ⟨hx, hb, hr, hml, hown, hlocks, hts⟩ := C
  have hl : lv_has ls 2 [(0, .ref am), (1, .int (nI i))] := hl
  have hin_X4 : ∀ w ∈ wsX40, w ∈ wsX4_isNode := by decide +kernel
  have hl_61 := hts (.fieldLink RX4 61 "EscapeCoder$Model" "nodes" "I") (by decide +kernel)
  refine lv_iload_n hx hb dX4_isNode_0 rfl (lv_at hl 1 rfl) ?_
  refine lv_if_lt (tgt := 16) hx hb dX4_isNode_1 (by decide) (fun h1 => ?_) (fun h1 => ?_)
  · exact absurd h1 (nI_pos (by omega))
  · refine lv_iload_n hx hb dX4_isNode_4 rfl (lv_at hl 1 rfl) ?_
    refine lv_aload_n hx hb dX4_isNode_5 rfl (lv_at hl 0 rfl) ?_
    refine va_get (D := D) (ci := 3) (v := .int (nI nN)) (C := RX4) (T := TX4) (N := 17) hx hb hts hin_X4 hown hK hP 0 rfl rfl 1 (by decide) hl_61 (fun _ h9 => h9) rfl dX4_isNode_6 ?_
    refine bn_ge (tgt := 16) hx hb dX4_isNode_9 (by decide) (by omega) (by omega) (fun h2 => ?_) (fun h2 => ?_)
    · exact absurd h2 (by omega)
    · refine lv_iconst (v := nI 1) hx hb dX4_isNode_12 (by decide) ?_
      refine lv_goto (tgt := 17) hx hb dX4_isNode_13 (by decide) ?_
      exact ro_zret hx hb hr hlocks (by decide) (rfl) dX4_isNode_17

set_option maxHeartbeats 4000000 in
set_option maxRecDepth 100000 in
theorem c_M_isNode_n (l : Launch) (D : va_G) (ca : Nat → ClassId) (am : Nat) (qb : Nat) (qc : Nat) (qn : Nat) (kk : Nat) (kf : Nat) (kl : Nat) (kn : Nat) (ko : Nat) (kb : Nat) (lim : Nat) (nN : Nat) (nC : Nat) (top : Int32) (bef : Int32) (ear : Int32) (rs : Int32) (rt : Int32)  : Met l yX4_isNode wsX4_isNode { frames := 0, cells := 0, slots := 0, locals := 0 } (roP D vwCl (ATy ca) [(am, .inr (3, [.int (nI lim), .int (nI nN), .ref qb, .ref qc, .ref qn, .int (nI nC), .ref kk, .ref kf, .ref kl, .ref kn, .ref ko, .ref kb, .int top, .int bef, .int ear, .int rs, .int rt]))] [.ref am, .int (-1)]) (vp_Si (fun r : Int32 => r = bI false)) 0 0 (fun _ => False) := by
  refine ro_enter (by decide) rfl (Nat.le_of_ble_eq_true rfl) ?_
  intro p e s m below meth c ls C hK hN hP hl
  obtain ⟨hx, hb, hr, hml, hown, hlocks, hts⟩ := C
  have hl : lv_has ls 2 [(0, .ref am), (1, .int (-1))] := hl
  refine lv_iload_n hx hb dX4_isNode_0 rfl (lv_at hl 1 rfl) ?_
  refine lv_if_lt (tgt := 16) hx hb dX4_isNode_1 (by decide) (fun h1 => ?_) (fun h1 => ?_)
  · refine lv_iconst (v := nI 0) hx hb dX4_isNode_16 (by decide) ?_
    exact ro_zret hx hb hr hlocks (by decide) (rfl) dX4_isNode_17
  · exact absurd (by decide) h1

set_option maxHeartbeats 4000000 in
set_option maxRecDepth 100000 in
theorem c_M_nodesIn_s (l : Launch) (D : va_G) (ca : Nat → ClassId) (am : Nat) (qb : Nat) (qc : Nat) (qn : Nat) (kk : Nat) (kf : Nat) (kl : Nat) (kn : Nat) (ko : Nat) (kb : Nat) (lim : Nat) (nN : Nat) (nC : Nat) (top : Int32) (bef : Int32) (ear : Int32) (rs : Int32) (rt : Int32) (i : Nat) (gc : Nat) (ct : Nat → Int32) (hi : i < nC) (hn : nC ≤ gcap 6000 gc) : Met l yX4_nodesIn wsX4_nodesIn { frames := 1, cells := 0, slots := 0, locals := 21 } (roP D vwCl (ATy ca) [(am, .inr (3, [.int (nI lim), .int (nI nN), .ref qb, .ref qc, .ref qn, .int (nI nC), .ref kk, .ref kf, .ref kl, .ref kn, .ref ko, .ref kb, .int top, .int bef, .int ear, .int rs, .int rt])), (kn, .inl (ca 0, gcap 6000 gc, .inl ct))] [.ref am, .int (nI i)]) (vp_Si (fun r : Int32 => r = ct i)) 0 0 (fun _ => False) := by
  refine ro_enter (by decide) rfl (Nat.le_of_ble_eq_true rfl) ?_
  intro p e s m below meth c ls C hK hN hP hl
  obtain ⟨hx, hb, hr, hml, hown, hlocks, hts⟩ := C
  have hl : lv_has ls 2 [(0, .ref am), (1, .int (nI i))] := hl
  have hin_X4 : ∀ w ∈ wsX40, w ∈ wsX4_nodesIn := by decide +kernel
  have hl_34 := hts (.fieldLink RX4 34 "EscapeCoder$Model" "contextNodes" "[I") (by decide +kernel)
  have hg := gcap_le 6000 gc
  refine lv_aload_n hx hb dX4_nodesIn_0 rfl (lv_at hl 0 rfl) ?_
  refine lv_iload_n hx hb dX4_nodesIn_1 rfl (lv_at hl 1 rfl) ?_
  refine vp_callSi (va_Run.run (va_runV (As := [.int (nI i)]) (rest := []) ⟨hx, hb, hml, hown, hts⟩ (c_M_isContext_s l D ca am qb qc qn kk kf kl kn ko kb lim nN nC top bef ear rs rt i (hi) (by omega)) (cwV 1 hts gX4_nodesIn_X4_isContext rfl rfl rfl (by decide +kernel) ⟨Nat.le_of_ble_eq_true rfl, Nat.le_of_ble_eq_true rfl⟩) ⟨roP_blind, va_recv hK hP (ci := 3) (q0 := 0) rfl rfl, roP_at hK hN (hP.sub [0] rfl)⟩ rfl rfl hl.1 rfl (lv_room (Nat.le_of_ble_eq_true rfl)) dX4_nodesIn_2 ⟨Nat.le_of_ble_eq_true rfl, Nat.le_of_ble_eq_true rfl⟩)) (fun r_1 hq => ?_)
  subst hq
  refine bb_eq (tgt := 17) hx hb dX4_nodesIn_5 (by decide) (fun h1 => ?_) (fun h1 => ?_)
  · exact absurd h1 (by decide)
  · refine lv_aload_n hx hb dX4_nodesIn_8 rfl (lv_at hl 0 rfl) ?_
    refine va_get (D := D) (ci := 3) (v := .ref kn) (C := RX4) (T := TX4) (N := 17) hx hb hts hin_X4 hown hK hP 0 rfl rfl 9 (by decide) hl_34 (fun _ h9 => h9) rfl dX4_nodesIn_9 ?_
    refine lv_iload_n hx hb dX4_nodesIn_12 rfl (lv_at hl 1 rfl) ?_
    refine ld_i hx hb hK hP 1 0 rfl rfl (j := i) (by omega) (by omega) dX4_nodesIn_13 ?_
    refine lv_goto (tgt := 18) hx hb dX4_nodesIn_14 (by decide) ?_
    exact ro_iret hx hb hr hlocks (rfl) dX4_nodesIn_18

set_option maxHeartbeats 4000000 in
set_option maxRecDepth 100000 in
theorem c_M_nodesIn_n (l : Launch) (D : va_G) (ca : Nat → ClassId) (am : Nat) (qb : Nat) (qc : Nat) (qn : Nat) (kk : Nat) (kf : Nat) (kl : Nat) (kn : Nat) (ko : Nat) (kb : Nat) (lim : Nat) (nN : Nat) (nC : Nat) (top : Int32) (bef : Int32) (ear : Int32) (rs : Int32) (rt : Int32)  : Met l yX4_nodesIn wsX4_nodesIn { frames := 1, cells := 0, slots := 0, locals := 21 } (roP D vwCl (ATy ca) [(am, .inr (3, [.int (nI lim), .int (nI nN), .ref qb, .ref qc, .ref qn, .int (nI nC), .ref kk, .ref kf, .ref kl, .ref kn, .ref ko, .ref kb, .int top, .int bef, .int ear, .int rs, .int rt]))] [.ref am, .int (-1)]) (vp_Si (fun r : Int32 => r = nI 0)) 0 0 (fun _ => False) := by
  refine ro_enter (by decide) rfl (Nat.le_of_ble_eq_true rfl) ?_
  intro p e s m below meth c ls C hK hN hP hl
  obtain ⟨hx, hb, hr, hml, hown, hlocks, hts⟩ := C
  have hl : lv_has ls 2 [(0, .ref am), (1, .int (-1))] := hl
  refine lv_aload_n hx hb dX4_nodesIn_0 rfl (lv_at hl 0 rfl) ?_
  refine lv_iload_n hx hb dX4_nodesIn_1 rfl (lv_at hl 1 rfl) ?_
  refine vp_callSi (va_Run.run (va_runV (As := [.int (-1)]) (rest := []) ⟨hx, hb, hml, hown, hts⟩ (c_M_isContext_n l D ca am qb qc qn kk kf kl kn ko kb lim nN nC top bef ear rs rt ) (cwV 1 hts gX4_nodesIn_X4_isContext rfl rfl rfl (by decide +kernel) ⟨Nat.le_of_ble_eq_true rfl, Nat.le_of_ble_eq_true rfl⟩) ⟨roP_blind, va_recv hK hP (ci := 3) (q0 := 0) rfl rfl, roP_at hK hN (hP.sub [0] rfl)⟩ rfl rfl hl.1 rfl (lv_room (Nat.le_of_ble_eq_true rfl)) dX4_nodesIn_2 ⟨Nat.le_of_ble_eq_true rfl, Nat.le_of_ble_eq_true rfl⟩)) (fun r_1 hq => ?_)
  subst hq
  refine bb_eq (tgt := 17) hx hb dX4_nodesIn_5 (by decide) (fun h1 => ?_) (fun h1 => ?_)
  · refine lv_iconst (v := nI 0) hx hb dX4_nodesIn_17 (by decide) ?_
    exact ro_iret hx hb hr hlocks (rfl) dX4_nodesIn_18
  · exact absurd h1 (by decide)

set_option maxHeartbeats 4000000 in
set_option maxRecDepth 100000 in
theorem c_M_firstNode_s (l : Launch) (D : va_G) (ca : Nat → ClassId) (am : Nat) (qb : Nat) (qc : Nat) (qn : Nat) (kk : Nat) (kf : Nat) (kl : Nat) (kn : Nat) (ko : Nat) (kb : Nat) (lim : Nat) (nN : Nat) (nC : Nat) (top : Int32) (bef : Int32) (ear : Int32) (rs : Int32) (rt : Int32) (i : Nat) (gc : Nat) (cf : Nat → Int32) (hi : i < nC) (hn : nC ≤ gcap 6000 gc) : Met l yX4_firstNode wsX4_firstNode { frames := 1, cells := 0, slots := 0, locals := 21 } (roP D vwCl (ATy ca) [(am, .inr (3, [.int (nI lim), .int (nI nN), .ref qb, .ref qc, .ref qn, .int (nI nC), .ref kk, .ref kf, .ref kl, .ref kn, .ref ko, .ref kb, .int top, .int bef, .int ear, .int rs, .int rt])), (kf, .inl (ca 0, gcap 6000 gc, .inl cf))] [.ref am, .int (nI i)]) (vp_Si (fun r : Int32 => r = cf i)) 0 0 (fun _ => False) := by
  refine ro_enter (by decide) rfl (Nat.le_of_ble_eq_true rfl) ?_
  intro p e s m below meth c ls C hK hN hP hl
  obtain ⟨hx, hb, hr, hml, hown, hlocks, hts⟩ := C
  have hl : lv_has ls 2 [(0, .ref am), (1, .int (nI i))] := hl
  have hin_X4 : ∀ w ∈ wsX40, w ∈ wsX4_firstNode := by decide +kernel
  have hl_28 := hts (.fieldLink RX4 28 "EscapeCoder$Model" "contextFirst" "[I") (by decide +kernel)
  have hg := gcap_le 6000 gc
  refine lv_aload_n hx hb dX4_firstNode_0 rfl (lv_at hl 0 rfl) ?_
  refine lv_iload_n hx hb dX4_firstNode_1 rfl (lv_at hl 1 rfl) ?_
  refine vp_callSi (va_Run.run (va_runV (As := [.int (nI i)]) (rest := []) ⟨hx, hb, hml, hown, hts⟩ (c_M_isContext_s l D ca am qb qc qn kk kf kl kn ko kb lim nN nC top bef ear rs rt i (hi) (by omega)) (cwV 1 hts gX4_firstNode_X4_isContext rfl rfl rfl (by decide +kernel) ⟨Nat.le_of_ble_eq_true rfl, Nat.le_of_ble_eq_true rfl⟩) ⟨roP_blind, va_recv hK hP (ci := 3) (q0 := 0) rfl rfl, roP_at hK hN (hP.sub [0] rfl)⟩ rfl rfl hl.1 rfl (lv_room (Nat.le_of_ble_eq_true rfl)) dX4_firstNode_2 ⟨Nat.le_of_ble_eq_true rfl, Nat.le_of_ble_eq_true rfl⟩)) (fun r_1 hq => ?_)
  subst hq
  refine bb_eq (tgt := 17) hx hb dX4_firstNode_5 (by decide) (fun h1 => ?_) (fun h1 => ?_)
  · exact absurd h1 (by decide)
  · refine lv_aload_n hx hb dX4_firstNode_8 rfl (lv_at hl 0 rfl) ?_
    refine va_get (D := D) (ci := 3) (v := .ref kf) (C := RX4) (T := TX4) (N := 17) hx hb hts hin_X4 hown hK hP 0 rfl rfl 7 (by decide) hl_28 (fun _ h9 => h9) rfl dX4_firstNode_9 ?_
    refine lv_iload_n hx hb dX4_firstNode_12 rfl (lv_at hl 1 rfl) ?_
    refine ld_i hx hb hK hP 1 0 rfl rfl (j := i) (by omega) (by omega) dX4_firstNode_13 ?_
    refine lv_goto (tgt := 18) hx hb dX4_firstNode_14 (by decide) ?_
    exact ro_iret hx hb hr hlocks (rfl) dX4_firstNode_18

set_option maxHeartbeats 4000000 in
set_option maxRecDepth 100000 in
theorem c_M_firstNode_n (l : Launch) (D : va_G) (ca : Nat → ClassId) (am : Nat) (qb : Nat) (qc : Nat) (qn : Nat) (kk : Nat) (kf : Nat) (kl : Nat) (kn : Nat) (ko : Nat) (kb : Nat) (lim : Nat) (nN : Nat) (nC : Nat) (top : Int32) (bef : Int32) (ear : Int32) (rs : Int32) (rt : Int32)  : Met l yX4_firstNode wsX4_firstNode { frames := 1, cells := 0, slots := 0, locals := 21 } (roP D vwCl (ATy ca) [(am, .inr (3, [.int (nI lim), .int (nI nN), .ref qb, .ref qc, .ref qn, .int (nI nC), .ref kk, .ref kf, .ref kl, .ref kn, .ref ko, .ref kb, .int top, .int bef, .int ear, .int rs, .int rt]))] [.ref am, .int (-1)]) (vp_Si (fun r : Int32 => r = (-1))) 0 0 (fun _ => False) := by
  refine ro_enter (by decide) rfl (Nat.le_of_ble_eq_true rfl) ?_
  intro p e s m below meth c ls C hK hN hP hl
  obtain ⟨hx, hb, hr, hml, hown, hlocks, hts⟩ := C
  have hl : lv_has ls 2 [(0, .ref am), (1, .int (-1))] := hl
  refine lv_aload_n hx hb dX4_firstNode_0 rfl (lv_at hl 0 rfl) ?_
  refine lv_iload_n hx hb dX4_firstNode_1 rfl (lv_at hl 1 rfl) ?_
  refine vp_callSi (va_Run.run (va_runV (As := [.int (-1)]) (rest := []) ⟨hx, hb, hml, hown, hts⟩ (c_M_isContext_n l D ca am qb qc qn kk kf kl kn ko kb lim nN nC top bef ear rs rt ) (cwV 1 hts gX4_firstNode_X4_isContext rfl rfl rfl (by decide +kernel) ⟨Nat.le_of_ble_eq_true rfl, Nat.le_of_ble_eq_true rfl⟩) ⟨roP_blind, va_recv hK hP (ci := 3) (q0 := 0) rfl rfl, roP_at hK hN (hP.sub [0] rfl)⟩ rfl rfl hl.1 rfl (lv_room (Nat.le_of_ble_eq_true rfl)) dX4_firstNode_2 ⟨Nat.le_of_ble_eq_true rfl, Nat.le_of_ble_eq_true rfl⟩)) (fun r_1 hq => ?_)
  subst hq
  refine bb_eq (tgt := 17) hx hb dX4_firstNode_5 (by decide) (fun h1 => ?_) (fun h1 => ?_)
  · refine lv_iconst (v := (-1)) hx hb dX4_firstNode_17 (by decide) ?_
    exact ro_iret hx hb hr hlocks (rfl) dX4_firstNode_18
  · exact absurd h1 (by decide)

set_option maxHeartbeats 4000000 in
set_option maxRecDepth 100000 in
theorem c_M_nextNode_s (l : Launch) (D : va_G) (ca : Nat → ClassId) (am : Nat) (qb : Nat) (qc : Nat) (qn : Nat) (kk : Nat) (kf : Nat) (kl : Nat) (kn : Nat) (ko : Nat) (kb : Nat) (lim : Nat) (nN : Nat) (nC : Nat) (top : Int32) (bef : Int32) (ear : Int32) (rs : Int32) (rt : Int32) (i : Nat) (gn : Nat) (nn : Nat → Int32) (hi : i < nN) (hn : nN ≤ gcap 6000 gn) : Met l yX4_nextNode wsX4_nextNode { frames := 1, cells := 0, slots := 0, locals := 21 } (roP D vwCl (ATy ca) [(am, .inr (3, [.int (nI lim), .int (nI nN), .ref qb, .ref qc, .ref qn, .int (nI nC), .ref kk, .ref kf, .ref kl, .ref kn, .ref ko, .ref kb, .int top, .int bef, .int ear, .int rs, .int rt])), (qn, .inl (ca 0, gcap 6000 gn, .inl nn))] [.ref am, .int (nI i)]) (vp_Si (fun r : Int32 => r = nn i)) 0 0 (fun _ => False) := by
  refine ro_enter (by decide) rfl (Nat.le_of_ble_eq_true rfl) ?_
  intro p e s m below meth c ls C hK hN hP hl
  obtain ⟨hx, hb, hr, hml, hown, hlocks, hts⟩ := C
  have hl : lv_has ls 2 [(0, .ref am), (1, .int (nI i))] := hl
  have hin_X4 : ∀ w ∈ wsX40, w ∈ wsX4_nextNode := by decide +kernel
  have hl_22 := hts (.fieldLink RX4 22 "EscapeCoder$Model" "nodeNext" "[I") (by decide +kernel)
  have hg := gcap_le 6000 gn
  refine lv_aload_n hx hb dX4_nextNode_0 rfl (lv_at hl 0 rfl) ?_
  refine lv_iload_n hx hb dX4_nextNode_1 rfl (lv_at hl 1 rfl) ?_
  refine vp_callSi (va_Run.run (va_runV (As := [.int (nI i)]) (rest := []) ⟨hx, hb, hml, hown, hts⟩ (c_M_isNode_s l D ca am qb qc qn kk kf kl kn ko kb lim nN nC top bef ear rs rt i (hi) (by omega)) (cwV 1 hts gX4_nextNode_X4_isNode rfl rfl rfl (by decide +kernel) ⟨Nat.le_of_ble_eq_true rfl, Nat.le_of_ble_eq_true rfl⟩) ⟨roP_blind, va_recv hK hP (ci := 3) (q0 := 0) rfl rfl, roP_at hK hN (hP.sub [0] rfl)⟩ rfl rfl hl.1 rfl (lv_room (Nat.le_of_ble_eq_true rfl)) dX4_nextNode_2 ⟨Nat.le_of_ble_eq_true rfl, Nat.le_of_ble_eq_true rfl⟩)) (fun r_1 hq => ?_)
  subst hq
  refine bb_eq (tgt := 17) hx hb dX4_nextNode_5 (by decide) (fun h1 => ?_) (fun h1 => ?_)
  · exact absurd h1 (by decide)
  · refine lv_aload_n hx hb dX4_nextNode_8 rfl (lv_at hl 0 rfl) ?_
    refine va_get (D := D) (ci := 3) (v := .ref qn) (C := RX4) (T := TX4) (N := 17) hx hb hts hin_X4 hown hK hP 0 rfl rfl 4 (by decide) hl_22 (fun _ h9 => h9) rfl dX4_nextNode_9 ?_
    refine lv_iload_n hx hb dX4_nextNode_12 rfl (lv_at hl 1 rfl) ?_
    refine ld_i hx hb hK hP 1 0 rfl rfl (j := i) (by omega) (by omega) dX4_nextNode_13 ?_
    refine lv_goto (tgt := 18) hx hb dX4_nextNode_14 (by decide) ?_
    exact ro_iret hx hb hr hlocks (rfl) dX4_nextNode_18

set_option maxHeartbeats 4000000 in
set_option maxRecDepth 100000 in
theorem c_M_byteOf_s (l : Launch) (D : va_G) (ca : Nat → ClassId) (am : Nat) (qb : Nat) (qc : Nat) (qn : Nat) (kk : Nat) (kf : Nat) (kl : Nat) (kn : Nat) (ko : Nat) (kb : Nat) (lim : Nat) (nN : Nat) (nC : Nat) (top : Int32) (bef : Int32) (ear : Int32) (rs : Int32) (rt : Int32) (i : Nat) (gn : Nat) (nb : Nat → Int32) (hi : i < nN) (hn : nN ≤ gcap 6000 gn) : Met l yX4_byteOf wsX4_byteOf { frames := 1, cells := 0, slots := 0, locals := 21 } (roP D vwCl (ATy ca) [(am, .inr (3, [.int (nI lim), .int (nI nN), .ref qb, .ref qc, .ref qn, .int (nI nC), .ref kk, .ref kf, .ref kl, .ref kn, .ref ko, .ref kb, .int top, .int bef, .int ear, .int rs, .int rt])), (qb, .inl (ca 0, gcap 6000 gn, .inl nb))] [.ref am, .int (nI i)]) (vp_Si (fun r : Int32 => r = nb i)) 0 0 (fun _ => False) := by
  refine ro_enter (by decide) rfl (Nat.le_of_ble_eq_true rfl) ?_
  intro p e s m below meth c ls C hK hN hP hl
  obtain ⟨hx, hb, hr, hml, hown, hlocks, hts⟩ := C
  have hl : lv_has ls 2 [(0, .ref am), (1, .int (nI i))] := hl
  have hin_X4 : ∀ w ∈ wsX40, w ∈ wsX4_byteOf := by decide +kernel
  have hl_15 := hts (.fieldLink RX4 15 "EscapeCoder$Model" "nodeByte" "[I") (by decide +kernel)
  have hg := gcap_le 6000 gn
  refine lv_aload_n hx hb dX4_byteOf_0 rfl (lv_at hl 0 rfl) ?_
  refine lv_iload_n hx hb dX4_byteOf_1 rfl (lv_at hl 1 rfl) ?_
  refine vp_callSi (va_Run.run (va_runV (As := [.int (nI i)]) (rest := []) ⟨hx, hb, hml, hown, hts⟩ (c_M_isNode_s l D ca am qb qc qn kk kf kl kn ko kb lim nN nC top bef ear rs rt i (hi) (by omega)) (cwV 1 hts gX4_byteOf_X4_isNode rfl rfl rfl (by decide +kernel) ⟨Nat.le_of_ble_eq_true rfl, Nat.le_of_ble_eq_true rfl⟩) ⟨roP_blind, va_recv hK hP (ci := 3) (q0 := 0) rfl rfl, roP_at hK hN (hP.sub [0] rfl)⟩ rfl rfl hl.1 rfl (lv_room (Nat.le_of_ble_eq_true rfl)) dX4_byteOf_2 ⟨Nat.le_of_ble_eq_true rfl, Nat.le_of_ble_eq_true rfl⟩)) (fun r_1 hq => ?_)
  subst hq
  refine bb_eq (tgt := 17) hx hb dX4_byteOf_5 (by decide) (fun h1 => ?_) (fun h1 => ?_)
  · exact absurd h1 (by decide)
  · refine lv_aload_n hx hb dX4_byteOf_8 rfl (lv_at hl 0 rfl) ?_
    refine va_get (D := D) (ci := 3) (v := .ref qb) (C := RX4) (T := TX4) (N := 17) hx hb hts hin_X4 hown hK hP 0 rfl rfl 2 (by decide) hl_15 (fun _ h9 => h9) rfl dX4_byteOf_9 ?_
    refine lv_iload_n hx hb dX4_byteOf_12 rfl (lv_at hl 1 rfl) ?_
    refine ld_i hx hb hK hP 1 0 rfl rfl (j := i) (by omega) (by omega) dX4_byteOf_13 ?_
    refine lv_goto (tgt := 18) hx hb dX4_byteOf_14 (by decide) ?_
    exact ro_iret hx hb hr hlocks (rfl) dX4_byteOf_18

set_option maxHeartbeats 4000000 in
set_option maxRecDepth 100000 in
theorem c_M_byteOf_n (l : Launch) (D : va_G) (ca : Nat → ClassId) (am : Nat) (qb : Nat) (qc : Nat) (qn : Nat) (kk : Nat) (kf : Nat) (kl : Nat) (kn : Nat) (ko : Nat) (kb : Nat) (lim : Nat) (nN : Nat) (nC : Nat) (top : Int32) (bef : Int32) (ear : Int32) (rs : Int32) (rt : Int32)  : Met l yX4_byteOf wsX4_byteOf { frames := 1, cells := 0, slots := 0, locals := 21 } (roP D vwCl (ATy ca) [(am, .inr (3, [.int (nI lim), .int (nI nN), .ref qb, .ref qc, .ref qn, .int (nI nC), .ref kk, .ref kf, .ref kl, .ref kn, .ref ko, .ref kb, .int top, .int bef, .int ear, .int rs, .int rt]))] [.ref am, .int (-1)]) (vp_Si (fun r : Int32 => r = (-1))) 0 0 (fun _ => False) := by
  refine ro_enter (by decide) rfl (Nat.le_of_ble_eq_true rfl) ?_
  intro p e s m below meth c ls C hK hN hP hl
  obtain ⟨hx, hb, hr, hml, hown, hlocks, hts⟩ := C
  have hl : lv_has ls 2 [(0, .ref am), (1, .int (-1))] := hl
  refine lv_aload_n hx hb dX4_byteOf_0 rfl (lv_at hl 0 rfl) ?_
  refine lv_iload_n hx hb dX4_byteOf_1 rfl (lv_at hl 1 rfl) ?_
  refine vp_callSi (va_Run.run (va_runV (As := [.int (-1)]) (rest := []) ⟨hx, hb, hml, hown, hts⟩ (c_M_isNode_n l D ca am qb qc qn kk kf kl kn ko kb lim nN nC top bef ear rs rt ) (cwV 1 hts gX4_byteOf_X4_isNode rfl rfl rfl (by decide +kernel) ⟨Nat.le_of_ble_eq_true rfl, Nat.le_of_ble_eq_true rfl⟩) ⟨roP_blind, va_recv hK hP (ci := 3) (q0 := 0) rfl rfl, roP_at hK hN (hP.sub [0] rfl)⟩ rfl rfl hl.1 rfl (lv_room (Nat.le_of_ble_eq_true rfl)) dX4_byteOf_2 ⟨Nat.le_of_ble_eq_true rfl, Nat.le_of_ble_eq_true rfl⟩)) (fun r_1 hq => ?_)
  subst hq
  refine bb_eq (tgt := 17) hx hb dX4_byteOf_5 (by decide) (fun h1 => ?_) (fun h1 => ?_)
  · refine lv_iconst (v := (-1)) hx hb dX4_byteOf_17 (by decide) ?_
    exact ro_iret hx hb hr hlocks (rfl) dX4_byteOf_18
  · exact absurd h1 (by decide)

set_option maxHeartbeats 4000000 in
set_option maxRecDepth 100000 in
theorem c_M_countOf_s (l : Launch) (D : va_G) (ca : Nat → ClassId) (am : Nat) (qb : Nat) (qc : Nat) (qn : Nat) (kk : Nat) (kf : Nat) (kl : Nat) (kn : Nat) (ko : Nat) (kb : Nat) (lim : Nat) (nN : Nat) (nC : Nat) (top : Int32) (bef : Int32) (ear : Int32) (rs : Int32) (rt : Int32) (i : Nat) (gn : Nat) (nc : Nat → Int32) (hi : i < nN) (hn : nN ≤ gcap 6000 gn) : Met l yX4_countOf wsX4_countOf { frames := 1, cells := 0, slots := 0, locals := 21 } (roP D vwCl (ATy ca) [(am, .inr (3, [.int (nI lim), .int (nI nN), .ref qb, .ref qc, .ref qn, .int (nI nC), .ref kk, .ref kf, .ref kl, .ref kn, .ref ko, .ref kb, .int top, .int bef, .int ear, .int rs, .int rt])), (qc, .inl (ca 0, gcap 6000 gn, .inl nc))] [.ref am, .int (nI i)]) (vp_Si (fun r : Int32 => r = nc i)) 0 0 (fun _ => False) := by
  refine ro_enter (by decide) rfl (Nat.le_of_ble_eq_true rfl) ?_
  intro p e s m below meth c ls C hK hN hP hl
  obtain ⟨hx, hb, hr, hml, hown, hlocks, hts⟩ := C
  have hl : lv_has ls 2 [(0, .ref am), (1, .int (nI i))] := hl
  have hin_X4 : ∀ w ∈ wsX40, w ∈ wsX4_countOf := by decide +kernel
  have hl_19 := hts (.fieldLink RX4 19 "EscapeCoder$Model" "nodeCount" "[I") (by decide +kernel)
  have hg := gcap_le 6000 gn
  refine lv_aload_n hx hb dX4_countOf_0 rfl (lv_at hl 0 rfl) ?_
  refine lv_iload_n hx hb dX4_countOf_1 rfl (lv_at hl 1 rfl) ?_
  refine vp_callSi (va_Run.run (va_runV (As := [.int (nI i)]) (rest := []) ⟨hx, hb, hml, hown, hts⟩ (c_M_isNode_s l D ca am qb qc qn kk kf kl kn ko kb lim nN nC top bef ear rs rt i (hi) (by omega)) (cwV 1 hts gX4_countOf_X4_isNode rfl rfl rfl (by decide +kernel) ⟨Nat.le_of_ble_eq_true rfl, Nat.le_of_ble_eq_true rfl⟩) ⟨roP_blind, va_recv hK hP (ci := 3) (q0 := 0) rfl rfl, roP_at hK hN (hP.sub [0] rfl)⟩ rfl rfl hl.1 rfl (lv_room (Nat.le_of_ble_eq_true rfl)) dX4_countOf_2 ⟨Nat.le_of_ble_eq_true rfl, Nat.le_of_ble_eq_true rfl⟩)) (fun r_1 hq => ?_)
  subst hq
  refine bb_eq (tgt := 17) hx hb dX4_countOf_5 (by decide) (fun h1 => ?_) (fun h1 => ?_)
  · exact absurd h1 (by decide)
  · refine lv_aload_n hx hb dX4_countOf_8 rfl (lv_at hl 0 rfl) ?_
    refine va_get (D := D) (ci := 3) (v := .ref qc) (C := RX4) (T := TX4) (N := 17) hx hb hts hin_X4 hown hK hP 0 rfl rfl 3 (by decide) hl_19 (fun _ h9 => h9) rfl dX4_countOf_9 ?_
    refine lv_iload_n hx hb dX4_countOf_12 rfl (lv_at hl 1 rfl) ?_
    refine ld_i hx hb hK hP 1 0 rfl rfl (j := i) (by omega) (by omega) dX4_countOf_13 ?_
    refine lv_goto (tgt := 18) hx hb dX4_countOf_14 (by decide) ?_
    exact ro_iret hx hb hr hlocks (rfl) dX4_countOf_18

set_option maxHeartbeats 4000000 in
set_option maxRecDepth 100000 in
theorem c_M_countOf_n (l : Launch) (D : va_G) (ca : Nat → ClassId) (am : Nat) (qb : Nat) (qc : Nat) (qn : Nat) (kk : Nat) (kf : Nat) (kl : Nat) (kn : Nat) (ko : Nat) (kb : Nat) (lim : Nat) (nN : Nat) (nC : Nat) (top : Int32) (bef : Int32) (ear : Int32) (rs : Int32) (rt : Int32)  : Met l yX4_countOf wsX4_countOf { frames := 1, cells := 0, slots := 0, locals := 21 } (roP D vwCl (ATy ca) [(am, .inr (3, [.int (nI lim), .int (nI nN), .ref qb, .ref qc, .ref qn, .int (nI nC), .ref kk, .ref kf, .ref kl, .ref kn, .ref ko, .ref kb, .int top, .int bef, .int ear, .int rs, .int rt]))] [.ref am, .int (-1)]) (vp_Si (fun r : Int32 => r = nI 0)) 0 0 (fun _ => False) := by
  refine ro_enter (by decide) rfl (Nat.le_of_ble_eq_true rfl) ?_
  intro p e s m below meth c ls C hK hN hP hl
  obtain ⟨hx, hb, hr, hml, hown, hlocks, hts⟩ := C
  have hl : lv_has ls 2 [(0, .ref am), (1, .int (-1))] := hl
  refine lv_aload_n hx hb dX4_countOf_0 rfl (lv_at hl 0 rfl) ?_
  refine lv_iload_n hx hb dX4_countOf_1 rfl (lv_at hl 1 rfl) ?_
  refine vp_callSi (va_Run.run (va_runV (As := [.int (-1)]) (rest := []) ⟨hx, hb, hml, hown, hts⟩ (c_M_isNode_n l D ca am qb qc qn kk kf kl kn ko kb lim nN nC top bef ear rs rt ) (cwV 1 hts gX4_countOf_X4_isNode rfl rfl rfl (by decide +kernel) ⟨Nat.le_of_ble_eq_true rfl, Nat.le_of_ble_eq_true rfl⟩) ⟨roP_blind, va_recv hK hP (ci := 3) (q0 := 0) rfl rfl, roP_at hK hN (hP.sub [0] rfl)⟩ rfl rfl hl.1 rfl (lv_room (Nat.le_of_ble_eq_true rfl)) dX4_countOf_2 ⟨Nat.le_of_ble_eq_true rfl, Nat.le_of_ble_eq_true rfl⟩)) (fun r_1 hq => ?_)
  subst hq
  refine bb_eq (tgt := 17) hx hb dX4_countOf_5 (by decide) (fun h1 => ?_) (fun h1 => ?_)
  · refine lv_iconst (v := nI 0) hx hb dX4_countOf_17 (by decide) ?_
    exact ro_iret hx hb hr hlocks (rfl) dX4_countOf_18
  · exact absurd h1 (by decide)

set_option maxHeartbeats 4000000 in
set_option maxRecDepth 100000 in
theorem c_keyOf (l : Launch) (D : va_G) (ca : Nat → ClassId) (o : Int32) (b : Int32) (ea : Int32)  : Met l yX7_keyOf wsX7_keyOf { frames := 1, cells := 0, slots := 0, locals := 20 } (roP D vwCl (ATy ca) [] [.int o, .int b, .int ea]) (vp_Si (fun r : Int32 => r = oI (kO o b ea))) 0 0 (fun _ => False) := by
  refine ro_enter (by decide) rfl (Nat.le_of_ble_eq_true rfl) ?_
  intro p e s m below meth c ls C hK hN hP hl
  obtain ⟨hx, hb, hr, hml, hown, hlocks, hts⟩ := C
  have hl : lv_has ls 3 [(0, .int o), (1, .int b), (2, .int ea)] := hl
  refine lv_iload_n hx hb dX7_keyOf_0 rfl (lv_at hl 0 rfl) ?_
  refine lv_if_ne (tgt := 6) hx hb dX7_keyOf_1 (by decide) (fun h0 => ?_) (fun h0 => ?_)
  · refine lv_iload_n hx hb dX7_keyOf_6 rfl (lv_at hl 0 rfl) ?_
    refine lv_iconst (v := nI 1) hx hb dX7_keyOf_7 (by decide) ?_
    refine lv_icmp_ne (tgt := 22) hx hb dX7_keyOf_8 (by decide) (fun h1 => ?_) (fun h1 => ?_)
    · refine lv_iload_n hx hb dX7_keyOf_22 rfl (lv_at hl 0 rfl) ?_
      refine lv_iconst (v := nI 2) hx hb dX7_keyOf_23 (by decide) ?_
      refine lv_icmp_ne (tgt := 53) hx hb dX7_keyOf_24 (by decide) (fun h2 => ?_) (fun h2 => ?_)
      · refine lv_iconst (v := (-1)) hx hb dX7_keyOf_53 (by decide) ?_
        exact ro_iret hx hb hr hlocks (by unfold kO; rw [if_neg h0, if_neg (fun q => h1 q.1), if_neg (fun q => h2 q.1)]; rfl) dX7_keyOf_54
      · refine lv_iload_n hx hb dX7_keyOf_27 rfl (lv_at hl 1 rfl) ?_
        refine vp_callSi (va_Run.run (va_runS (As := [.int b]) (rest := []) ⟨hx, hb, hml, hown, hts⟩ (c_isByte l D ca b ) (va_cwS 1 hts gX7_keyOf_X7_isByte rfl rfl rfl (by decide +kernel) ⟨Nat.le_of_ble_eq_true rfl, Nat.le_of_ble_eq_true rfl⟩) ⟨roP_blind, roP_at hK hN (hP.sub [] rfl)⟩ rfl rfl hl.1 rfl (lv_room (Nat.le_of_ble_eq_true rfl)) dX7_keyOf_28 ⟨Nat.le_of_ble_eq_true rfl, Nat.le_of_ble_eq_true rfl⟩)) (fun r_1 hq => ?_)
        subst hq
        refine bb_eq (tgt := 53) hx hb dX7_keyOf_31 (by decide) (fun h3 => ?_) (fun h3 => ?_)
        · refine lv_iconst (v := (-1)) hx hb dX7_keyOf_53 (by decide) ?_
          exact ro_iret hx hb hr hlocks (by unfold kO; rw [if_neg h0, if_neg (fun q => h1 q.1), if_neg (fun q => by rw [h3] at q; exact absurd q.2.1 (by decide))]; rfl) dX7_keyOf_54
        · refine lv_iload_n hx hb dX7_keyOf_34 rfl (lv_at hl 2 rfl) ?_
          refine vp_callSi (va_Run.run (va_runS (As := [.int ea]) (rest := []) ⟨hx, hb, hml, hown, hts⟩ (c_isByte l D ca ea ) (va_cwS 1 hts gX7_keyOf_X7_isByte rfl rfl rfl (by decide +kernel) ⟨Nat.le_of_ble_eq_true rfl, Nat.le_of_ble_eq_true rfl⟩) ⟨roP_blind, roP_at hK hN (hP.sub [] rfl)⟩ rfl rfl hl.1 rfl (lv_room (Nat.le_of_ble_eq_true rfl)) dX7_keyOf_35 ⟨Nat.le_of_ble_eq_true rfl, Nat.le_of_ble_eq_true rfl⟩)) (fun r_2 hq => ?_)
          subst hq
          refine bb_eq (tgt := 53) hx hb dX7_keyOf_38 (by decide) (fun h4 => ?_) (fun h4 => ?_)
          · refine lv_iconst (v := (-1)) hx hb dX7_keyOf_53 (by decide) ?_
            exact ro_iret hx hb hr hlocks (by unfold kO; rw [if_neg h0, if_neg (fun q => h1 q.1), if_neg (fun q => by rw [h4] at q; exact absurd q.2.2 (by decide))]; rfl) dX7_keyOf_54
          · have hkk : kO o b ea = some (257 + b.toNatClampNeg * 256 + ea.toNatClampNeg) := by unfold kO; rw [if_neg h0, if_neg (fun q => h1 q.1), if_pos ⟨h2, h3, h4⟩]
            rw [hkk]
            obtain ⟨v, hv, rfl⟩ := isB_nI h3
            obtain ⟨w, hw, rfl⟩ := isB_nI h4
            rw [nI_clamp (show v < 2 ^ 31 by omega), nI_clamp (show w < 2 ^ 31 by omega)]
            refine lv_sipush (v := nI 257) hx hb dX7_keyOf_41 (by decide) ?_
            refine lv_iload_n hx hb dX7_keyOf_44 rfl (lv_at hl 1 rfl) ?_
            refine lv_sipush (v := nI 256) hx hb dX7_keyOf_45 (by decide) ?_
            refine lv_imul hx hb dX7_keyOf_48 ?_
            refine tp_i (y := nI (v * 256)) (pk_mul v 256) ?_
            refine lv_iadd hx hb dX7_keyOf_49 ?_
            refine tp_i (y := nI (257 + v * 256)) (nI_add _ _) ?_
            refine lv_iload_n hx hb dX7_keyOf_50 rfl (lv_at hl 2 rfl) ?_
            refine lv_iadd hx hb dX7_keyOf_51 ?_
            refine tp_i (y := nI (257 + v * 256 + w)) (nI_add _ _) ?_
            exact ro_iret hx hb hr hlocks (rfl) dX7_keyOf_52
    · refine lv_iload_n hx hb dX7_keyOf_11 rfl (lv_at hl 1 rfl) ?_
      refine vp_callSi (va_Run.run (va_runS (As := [.int b]) (rest := []) ⟨hx, hb, hml, hown, hts⟩ (c_isByte l D ca b ) (va_cwS 1 hts gX7_keyOf_X7_isByte rfl rfl rfl (by decide +kernel) ⟨Nat.le_of_ble_eq_true rfl, Nat.le_of_ble_eq_true rfl⟩) ⟨roP_blind, roP_at hK hN (hP.sub [] rfl)⟩ rfl rfl hl.1 rfl (lv_room (Nat.le_of_ble_eq_true rfl)) dX7_keyOf_12 ⟨Nat.le_of_ble_eq_true rfl, Nat.le_of_ble_eq_true rfl⟩)) (fun r_3 hq => ?_)
      subst hq
      refine bb_eq (tgt := 22) hx hb dX7_keyOf_15 (by decide) (fun h5 => ?_) (fun h5 => ?_)
      · refine lv_iload_n hx hb dX7_keyOf_22 rfl (lv_at hl 0 rfl) ?_
        refine lv_iconst (v := nI 2) hx hb dX7_keyOf_23 (by decide) ?_
        refine lv_icmp_ne (tgt := 53) hx hb dX7_keyOf_24 (by decide) (fun h2 => ?_) (fun h2 => ?_)
        · refine lv_iconst (v := (-1)) hx hb dX7_keyOf_53 (by decide) ?_
          exact ro_iret hx hb hr hlocks (by unfold kO; rw [if_neg h0, if_neg (fun q => by rw [h5] at q; exact absurd q.2 (by decide)), if_neg (fun q => h2 q.1)]; rfl) dX7_keyOf_54
        · refine lv_iload_n hx hb dX7_keyOf_27 rfl (lv_at hl 1 rfl) ?_
          refine vp_callSi (va_Run.run (va_runS (As := [.int b]) (rest := []) ⟨hx, hb, hml, hown, hts⟩ (c_isByte l D ca b ) (va_cwS 1 hts gX7_keyOf_X7_isByte rfl rfl rfl (by decide +kernel) ⟨Nat.le_of_ble_eq_true rfl, Nat.le_of_ble_eq_true rfl⟩) ⟨roP_blind, roP_at hK hN (hP.sub [] rfl)⟩ rfl rfl hl.1 rfl (lv_room (Nat.le_of_ble_eq_true rfl)) dX7_keyOf_28 ⟨Nat.le_of_ble_eq_true rfl, Nat.le_of_ble_eq_true rfl⟩)) (fun r_4 hq => ?_)
          subst hq
          refine bb_eq (tgt := 53) hx hb dX7_keyOf_31 (by decide) (fun h3 => ?_) (fun h3 => ?_)
          · refine lv_iconst (v := (-1)) hx hb dX7_keyOf_53 (by decide) ?_
            exact ro_iret hx hb hr hlocks (by unfold kO; rw [if_neg h0, if_neg (fun q => by rw [h5] at q; exact absurd q.2 (by decide)), if_neg (fun q => by rw [h3] at q; exact absurd q.2.1 (by decide))]; rfl) dX7_keyOf_54
          · refine lv_iload_n hx hb dX7_keyOf_34 rfl (lv_at hl 2 rfl) ?_
            refine vp_callSi (va_Run.run (va_runS (As := [.int ea]) (rest := []) ⟨hx, hb, hml, hown, hts⟩ (c_isByte l D ca ea ) (va_cwS 1 hts gX7_keyOf_X7_isByte rfl rfl rfl (by decide +kernel) ⟨Nat.le_of_ble_eq_true rfl, Nat.le_of_ble_eq_true rfl⟩) ⟨roP_blind, roP_at hK hN (hP.sub [] rfl)⟩ rfl rfl hl.1 rfl (lv_room (Nat.le_of_ble_eq_true rfl)) dX7_keyOf_35 ⟨Nat.le_of_ble_eq_true rfl, Nat.le_of_ble_eq_true rfl⟩)) (fun r_5 hq => ?_)
            subst hq
            refine bb_eq (tgt := 53) hx hb dX7_keyOf_38 (by decide) (fun h4 => ?_) (fun h4 => ?_)
            · refine lv_iconst (v := (-1)) hx hb dX7_keyOf_53 (by decide) ?_
              exact ro_iret hx hb hr hlocks (by unfold kO; rw [if_neg h0, if_neg (fun q => by rw [h5] at q; exact absurd q.2 (by decide)), if_neg (fun q => by rw [h4] at q; exact absurd q.2.2 (by decide))]; rfl) dX7_keyOf_54
            · have hkk : kO o b ea = some (257 + b.toNatClampNeg * 256 + ea.toNatClampNeg) := by unfold kO; rw [if_neg h0, if_neg (fun q => by rw [h5] at q; exact absurd q.2 (by decide)), if_pos ⟨h2, h3, h4⟩]
              rw [hkk]
              obtain ⟨v, hv, rfl⟩ := isB_nI h3
              obtain ⟨w, hw, rfl⟩ := isB_nI h4
              rw [nI_clamp (show v < 2 ^ 31 by omega), nI_clamp (show w < 2 ^ 31 by omega)]
              refine lv_sipush (v := nI 257) hx hb dX7_keyOf_41 (by decide) ?_
              refine lv_iload_n hx hb dX7_keyOf_44 rfl (lv_at hl 1 rfl) ?_
              refine lv_sipush (v := nI 256) hx hb dX7_keyOf_45 (by decide) ?_
              refine lv_imul hx hb dX7_keyOf_48 ?_
              refine tp_i (y := nI (v * 256)) (pk_mul v 256) ?_
              refine lv_iadd hx hb dX7_keyOf_49 ?_
              refine tp_i (y := nI (257 + v * 256)) (nI_add _ _) ?_
              refine lv_iload_n hx hb dX7_keyOf_50 rfl (lv_at hl 2 rfl) ?_
              refine lv_iadd hx hb dX7_keyOf_51 ?_
              refine tp_i (y := nI (257 + v * 256 + w)) (nI_add _ _) ?_
              exact ro_iret hx hb hr hlocks (rfl) dX7_keyOf_52
      · have hkk : kO o b ea = some (1 + b.toNatClampNeg) := by unfold kO; rw [if_neg h0, if_pos ⟨h1, h5⟩]
        rw [hkk]
        obtain ⟨v, hv, rfl⟩ := isB_nI h5
        rw [nI_clamp (show v < 2 ^ 31 by omega)]
        refine lv_iconst (v := nI 1) hx hb dX7_keyOf_18 (by decide) ?_
        refine lv_iload_n hx hb dX7_keyOf_19 rfl (lv_at hl 1 rfl) ?_
        refine lv_iadd hx hb dX7_keyOf_20 ?_
        refine tp_i (y := nI (1 + v)) (nI_add _ _) ?_
        exact ro_iret hx hb hr hlocks (rfl) dX7_keyOf_21
  · refine lv_iconst (v := nI 0) hx hb dX7_keyOf_4 (by decide) ?_
    exact ro_iret hx hb hr hlocks (by unfold kO; rw [if_pos h0]; rfl) dX7_keyOf_5

set_option maxHeartbeats 4000000 in
set_option maxRecDepth 100000 in
theorem c_M_keyHere (l : Launch) (D : va_G) (ca : Nat → ClassId) (am : Nat) (qb : Nat) (qc : Nat) (qn : Nat) (kk : Nat) (kf : Nat) (kl : Nat) (kn : Nat) (ko : Nat) (kb : Nat) (lim : Nat) (nN : Nat) (nC : Nat) (top : Int32) (bef : Int32) (ear : Int32) (rs : Int32) (rt : Int32) (o : Nat) (hs : List Nat) (hh : HR hs top bef ear) (ho : o ≤ topO hs) : Met l yX4_keyHere wsX4_keyHere { frames := 2, cells := 0, slots := 0, locals := 42 } (roP D vwCl (ATy ca) [(am, .inr (3, [.int (nI lim), .int (nI nN), .ref qb, .ref qc, .ref qn, .int (nI nC), .ref kk, .ref kf, .ref kl, .ref kn, .ref ko, .ref kb, .int top, .int bef, .int ear, .int rs, .int rt]))] [.ref am, .int (nI o)]) (vp_Si (fun r : Int32 => r = nI (kAt hs o))) 0 0 (fun _ => False) := by
  refine ro_enter (by decide) rfl (Nat.le_of_ble_eq_true rfl) ?_
  intro p e s m below meth c ls C hK hN hP hl
  obtain ⟨hx, hb, hr, hml, hown, hlocks, hts⟩ := C
  have hl : lv_has ls 2 [(0, .ref am), (1, .int (nI o))] := hl
  have hin_X4 : ∀ w ∈ wsX40, w ∈ wsX4_keyHere := by decide +kernel
  have hl_67 := hts (.fieldLink RX4 67 "EscapeCoder$Model" "before" "I") (by decide +kernel)
  have hl_70 := hts (.fieldLink RX4 70 "EscapeCoder$Model" "earlier" "I") (by decide +kernel)
  have hw_0fc290 := hts (.initialized RX7) (by decide +kernel)
  have hw_c34af5 := hts (.static yX7_keyOf) (by decide +kernel)
  refine lv_iload_n hx hb dX4_keyHere_0 rfl (lv_at hl 1 rfl) ?_
  refine lv_aload_n hx hb dX4_keyHere_1 rfl (lv_at hl 0 rfl) ?_
  refine va_get (D := D) (ci := 3) (v := .int bef) (C := RX4) (T := TX4) (N := 17) hx hb hts hin_X4 hown hK hP 0 rfl rfl 13 (by decide) hl_67 (fun _ h9 => h9) rfl dX4_keyHere_2 ?_
  refine lv_aload_n hx hb dX4_keyHere_5 rfl (lv_at hl 0 rfl) ?_
  refine va_get (D := D) (ci := 3) (v := .int ear) (C := RX4) (T := TX4) (N := 17) hx hb hts hin_X4 hown hK hP 0 rfl rfl 14 (by decide) hl_70 (fun _ h9 => h9) rfl dX4_keyHere_6 ?_
  refine vp_callSi (va_Run.run (va_runSN (As := [.int (nI o), .int bef, .int ear]) (rest := []) ⟨hx, hb, hml, hown, hts⟩ (c_keyOf l D ca (nI o) bef ear ) ⟨va_cnB 3 hts gX4_keyHere_X7_keyOf_n73 rfl rfl rfl (nw_X4_73 hN) hw_0fc290 (by decide +kernel) ⟨Nat.le_of_ble_eq_true rfl, Nat.le_of_ble_eq_true rfl⟩, hw_c34af5, trivial⟩ ⟨roP_blind, roP_at hK hN (hP.sub [] rfl)⟩ rfl rfl hl.1 rfl (lv_room (Nat.le_of_ble_eq_true rfl)) dX4_keyHere_9 ⟨Nat.le_of_ble_eq_true rfl, Nat.le_of_ble_eq_true rfl⟩)) (fun r_1 hq => ?_)
  exact ro_iret hx hb hr hlocks (hq.trans (kO_here hh ho)) dX4_keyHere_12

set_option maxHeartbeats 4000000 in
set_option maxRecDepth 100000 in
theorem c_M_find_n (l : Launch) (D : va_G) (ca : Nat → ClassId) (am : Nat) (qb : Nat) (qc : Nat) (qn : Nat) (kk : Nat) (kf : Nat) (kl : Nat) (kn : Nat) (ko : Nat) (kb : Nat) (lim : Nat) (nN : Nat) (nC : Nat) (top : Int32) (bef : Int32) (ear : Int32) (rs : Int32) (rt : Int32)  : Met l yX4_find wsX4_find { frames := 0, cells := 0, slots := 0, locals := 0 } (roP D vwCl (ATy ca) [(am, .inr (3, [.int (nI lim), .int (nI nN), .ref qb, .ref qc, .ref qn, .int (nI nC), .ref kk, .ref kf, .ref kl, .ref kn, .ref ko, .ref kb, .int top, .int bef, .int ear, .int rs, .int rt]))] [.ref am, .int (-1)]) (vp_Si (fun r : Int32 => r = -1)) 0 0 (fun _ => False) := by
  refine ro_enter (by decide) rfl (Nat.le_of_ble_eq_true rfl) ?_
  intro p e s m below meth c ls C hK hN hP hl
  obtain ⟨hx, hb, hr, hml, hown, hlocks, hts⟩ := C
  have hl : lv_has ls 4 [(0, .ref am), (1, .int (-1))] := hl
  refine lv_iload_n hx hb dX4_find_0 rfl (lv_at hl 1 rfl) ?_
  refine lv_if_ge (tgt := 6) hx hb dX4_find_1 (by decide) (fun h1 => ?_) (fun h1 => ?_)
  · exact absurd h1 (by decide)
  · refine lv_iconst (v := (-1)) hx hb dX4_find_4 (by decide) ?_
    exact ro_iret hx hb hr hlocks (rfl) dX4_find_5

set_option maxHeartbeats 4000000 in
set_option maxRecDepth 100000 in
theorem c_M_find_s (l : Launch) (D : va_G) (ca : Nat → ClassId) (am : Nat) (qb : Nat) (qc : Nat) (qn : Nat) (kk : Nat) (kf : Nat) (kl : Nat) (kn : Nat) (ko : Nat) (kb : Nat) (lim : Nat) (nN : Nat) (top : Int32) (bef : Int32) (ear : Int32) (rs : Int32) (rt : Int32) (gc : Nat) (ck : Nat → Int32) (co : Nat → Int32) (bk : Nat → Int32) (K : List Nat) (k : Nat) (hR : CR K ck co bk) (hKn : ndK K) (hKc : K.length ≤ gcap 6000 gc) (hk : k < 131072) : Met l yX4_find wsX4_find { frames := 1, cells := 0, slots := 0, locals := 21 } (roP D vwCl (ATy ca) [(am, .inr (3, [.int (nI lim), .int (nI nN), .ref qb, .ref qc, .ref qn, .int (nI K.length), .ref kk, .ref kf, .ref kl, .ref kn, .ref ko, .ref kb, .int top, .int bef, .int ear, .int rs, .int rt])), (kk, .inl (ca 0, gcap 6000 gc, .inl ck)), (ko, .inl (ca 0, gcap 6000 gc, .inl co)), (kb, .inl (ca 0, 256, .inl bk))] [.ref am, .int (nI k)]) (vp_Si (fun r : Int32 => r = oI (cix K k))) 0 0 (fun _ => False) := by
  refine ro_enter (by decide) rfl (Nat.le_of_ble_eq_true rfl) ?_
  intro p e s m below meth c ls C hK hN hP hl
  obtain ⟨hx, hb, hr, hml, hown, hlocks, hts⟩ := C
  have hl : lv_has ls 4 [(0, .ref am), (1, .int (nI k))] := hl
  have hin_X4 : ∀ w ∈ wsX40, w ∈ wsX4_find := by decide +kernel
  have hl_64 := hts (.fieldLink RX4 64 "EscapeCoder$Model" "contexts" "I") (by decide +kernel)
  have hl_25 := hts (.fieldLink RX4 25 "EscapeCoder$Model" "contextKey" "[I") (by decide +kernel)
  have hl_37 := hts (.fieldLink RX4 37 "EscapeCoder$Model" "contextOlder" "[I") (by decide +kernel)
  have hl_40 := hts (.fieldLink RX4 40 "EscapeCoder$Model" "bucketNewest" "[I") (by decide +kernel)
  have hg := gcap_le 6000 gc
  have hbl := bkt_lt k
  have hlo : ∀ (z : Nat) (t : Nat) (i : Nat) (x : Int32), (t ≤ z) → (isPv (fun d => bkt (K.getD d 0) = bkt k) t x) → (i + t ≤ K.length) → (∀ d, t ≤ d → d < K.length → K.getD d 0 ≠ k) → ∀ (ls : Array Slot), lv_has ls 4 [(3, .int (nI i)), (2, .int x), (0, .ref am), (1, .int (nI k))] → W p l e ({ frames := 1, cells := 0, slots := 0, locals := 21 } : Room) s m ([.ref am, .int (nI k)] : List Value).toArray below meth c s.heap [] 0 0 (MQ below (vp_Si (fun r : Int32 => r = oI (cix K k))) ([.ref am, .int (nI k)] : List Value).toArray s 0 0 (fun _ => False)) (F0 m 18 ls []) := by
    intro z
    induction z with
    | zero =>
      intro t i x htz hpv hti hno ls hl
      have ht0 : t = 0 := by omega
      rcases hpv with ⟨rfl, hnone⟩ | ⟨c1, rfl, hc, -, -⟩
      · have hn : cix K k = none := cix_none (fun d hd q => by
          by_cases h7 : d < t
          · exact hnone d h7 (show bkt (K.getD d 0) = bkt k by rw [q])
          · exact hno d (by omega) hd q)
        refine lv_iload_n hx hb dX4_find_18 rfl (lv_at hl 0 rfl) ?_
        refine lv_aload_n hx hb dX4_find_19 rfl (lv_at hl 2 rfl) ?_
        refine va_get (D := D) (ci := 3) (v := .int (nI K.length)) (C := RX4) (T := TX4) (N := 17) hx hb hts hin_X4 hown hK hP 0 rfl rfl 5 (by decide) hl_64 (fun _ h9 => h9) rfl dX4_find_20 ?_
        refine bn_ge (tgt := 59) hx hb dX4_find_23 (by decide) (by omega) (by omega) (fun h1 => ?_) (fun h1 => ?_)
        · refine lv_iconst (v := (-1)) hx hb dX4_find_59 (by decide) ?_
          exact ro_iret hx hb hr hlocks (by rw [hn]; rfl) dX4_find_60
        · refine lv_aload_n hx hb dX4_find_26 rfl (lv_at hl 2 rfl) ?_
          refine lv_iload_n hx hb dX4_find_27 rfl (lv_at hl 1 rfl) ?_
          refine vp_callSi (va_Run.run (va_runV (As := [.int (-1)]) (rest := []) ⟨hx, hb, hml, hown, hts⟩ (c_M_isContext_n l D ca am qb qc qn kk kf kl kn ko kb lim nN K.length top bef ear rs rt ) (cwV 1 hts gX4_find_X4_isContext rfl rfl rfl (by decide +kernel) ⟨Nat.le_of_ble_eq_true rfl, Nat.le_of_ble_eq_true rfl⟩) ⟨roP_blind, va_recv hK hP (ci := 3) (q0 := 0) rfl rfl, roP_at hK hN (hP.sub [0] rfl)⟩ rfl rfl hl.1 rfl (lv_room (Nat.le_of_ble_eq_true rfl)) dX4_find_28 ⟨Nat.le_of_ble_eq_true rfl, Nat.le_of_ble_eq_true rfl⟩)) (fun r_1 hq => ?_)
          subst hq
          refine bb_eq (tgt := 59) hx hb dX4_find_31 (by decide) (fun h2 => ?_) (fun h2 => ?_)
          · refine lv_iconst (v := (-1)) hx hb dX4_find_59 (by decide) ?_
            exact ro_iret hx hb hr hlocks (by rw [hn]; rfl) dX4_find_60
          · exact absurd h2 (by decide)
      · exact absurd hc (by omega)
    | succ z ih =>
      intro t i x htz hpv hti hno ls hl
      rcases hpv with ⟨rfl, hnone⟩ | ⟨c1, rfl, hc, hb1, hb2⟩
      · have hn : cix K k = none := cix_none (fun d hd q => by
          by_cases h7 : d < t
          · exact hnone d h7 (show bkt (K.getD d 0) = bkt k by rw [q])
          · exact hno d (by omega) hd q)
        refine lv_iload_n hx hb dX4_find_18 rfl (lv_at hl 0 rfl) ?_
        refine lv_aload_n hx hb dX4_find_19 rfl (lv_at hl 2 rfl) ?_
        refine va_get (D := D) (ci := 3) (v := .int (nI K.length)) (C := RX4) (T := TX4) (N := 17) hx hb hts hin_X4 hown hK hP 0 rfl rfl 5 (by decide) hl_64 (fun _ h9 => h9) rfl dX4_find_20 ?_
        refine bn_ge (tgt := 59) hx hb dX4_find_23 (by decide) (by omega) (by omega) (fun h1 => ?_) (fun h1 => ?_)
        · refine lv_iconst (v := (-1)) hx hb dX4_find_59 (by decide) ?_
          exact ro_iret hx hb hr hlocks (by rw [hn]; rfl) dX4_find_60
        · refine lv_aload_n hx hb dX4_find_26 rfl (lv_at hl 2 rfl) ?_
          refine lv_iload_n hx hb dX4_find_27 rfl (lv_at hl 1 rfl) ?_
          refine vp_callSi (va_Run.run (va_runV (As := [.int (-1)]) (rest := []) ⟨hx, hb, hml, hown, hts⟩ (c_M_isContext_n l D ca am qb qc qn kk kf kl kn ko kb lim nN K.length top bef ear rs rt ) (cwV 1 hts gX4_find_X4_isContext rfl rfl rfl (by decide +kernel) ⟨Nat.le_of_ble_eq_true rfl, Nat.le_of_ble_eq_true rfl⟩) ⟨roP_blind, va_recv hK hP (ci := 3) (q0 := 0) rfl rfl, roP_at hK hN (hP.sub [0] rfl)⟩ rfl rfl hl.1 rfl (lv_room (Nat.le_of_ble_eq_true rfl)) dX4_find_28 ⟨Nat.le_of_ble_eq_true rfl, Nat.le_of_ble_eq_true rfl⟩)) (fun r_2 hq => ?_)
          subst hq
          refine bb_eq (tgt := 59) hx hb dX4_find_31 (by decide) (fun h2 => ?_) (fun h2 => ?_)
          · refine lv_iconst (v := (-1)) hx hb dX4_find_59 (by decide) ?_
            exact ro_iret hx hb hr hlocks (by rw [hn]; rfl) dX4_find_60
          · exact absurd h2 (by decide)
      · refine lv_iload_n hx hb dX4_find_18 rfl (lv_at hl 0 rfl) ?_
        refine lv_aload_n hx hb dX4_find_19 rfl (lv_at hl 2 rfl) ?_
        refine va_get (D := D) (ci := 3) (v := .int (nI K.length)) (C := RX4) (T := TX4) (N := 17) hx hb hts hin_X4 hown hK hP 0 rfl rfl 5 (by decide) hl_64 (fun _ h9 => h9) rfl dX4_find_20 ?_
        refine bn_ge (tgt := 59) hx hb dX4_find_23 (by decide) (by omega) (by omega) (fun h1 => ?_) (fun h1 => ?_)
        · exact absurd h1 (by omega)
        · refine lv_aload_n hx hb dX4_find_26 rfl (lv_at hl 2 rfl) ?_
          refine lv_iload_n hx hb dX4_find_27 rfl (lv_at hl 1 rfl) ?_
          refine vp_callSi (va_Run.run (va_runV (As := [.int (nI c1)]) (rest := []) ⟨hx, hb, hml, hown, hts⟩ (c_M_isContext_s l D ca am qb qc qn kk kf kl kn ko kb lim nN K.length top bef ear rs rt c1 (by omega) (by omega)) (cwV 1 hts gX4_find_X4_isContext rfl rfl rfl (by decide +kernel) ⟨Nat.le_of_ble_eq_true rfl, Nat.le_of_ble_eq_true rfl⟩) ⟨roP_blind, va_recv hK hP (ci := 3) (q0 := 0) rfl rfl, roP_at hK hN (hP.sub [0] rfl)⟩ rfl rfl hl.1 rfl (lv_room (Nat.le_of_ble_eq_true rfl)) dX4_find_28 ⟨Nat.le_of_ble_eq_true rfl, Nat.le_of_ble_eq_true rfl⟩)) (fun r_3 hq => ?_)
          subst hq
          refine bb_eq (tgt := 59) hx hb dX4_find_31 (by decide) (fun h2 => ?_) (fun h2 => ?_)
          · exact absurd h2 (by decide)
          · obtain ⟨hk1, hk2, hk3⟩ := hR.1 c1 (by omega)
            refine lv_aload_n hx hb dX4_find_34 rfl (lv_at hl 2 rfl) ?_
            refine va_get (D := D) (ci := 3) (v := .ref kk) (C := RX4) (T := TX4) (N := 17) hx hb hts hin_X4 hown hK hP 0 rfl rfl 6 (by decide) hl_25 (fun _ h9 => h9) rfl dX4_find_35 ?_
            refine lv_iload_n hx hb dX4_find_38 rfl (lv_at hl 1 rfl) ?_
            refine ld_i hx hb hK hP 1 0 rfl rfl (j := c1) (by omega) (by omega) dX4_find_39 ?_
            refine tp_i (y := nI (K.getD c1 0)) (hk1) ?_
            refine lv_iload_n hx hb dX4_find_40 rfl (lv_at hl 3 rfl) ?_
            refine bn_ne (tgt := 46) hx hb dX4_find_41 (by decide) (by omega) (by omega) (fun h3 => ?_) (fun h3 => ?_)
            · refine lv_aload_n hx hb dX4_find_46 rfl (lv_at hl 2 rfl) ?_
              refine va_get (D := D) (ci := 3) (v := .ref ko) (C := RX4) (T := TX4) (N := 17) hx hb hts hin_X4 hown hK hP 0 rfl rfl 10 (by decide) hl_37 (fun _ h9 => h9) rfl dX4_find_47 ?_
              refine lv_iload_n hx hb dX4_find_50 rfl (lv_at hl 1 rfl) ?_
              refine ld_i hx hb hK hP 2 0 rfl rfl (j := c1) (by omega) (by omega) dX4_find_51 ?_
              refine lv_istore_n (lv' := [(2, .int (co c1)), (3, .int (nI i)), (0, .ref am), (1, .int (nI k))]) hx hb dX4_find_52 rfl hl (by decide) rfl (fun ls hl => ?_)
              refine lv_iinc (v := nI (i + 1)) (lv' := [(3, .int (nI (i + 1))), (2, .int (co c1)), (0, .ref am), (1, .int (nI k))]) hx hb dX4_find_53 hl (k := 1) rfl (nI_1 _) (by decide) rfl (fun ls hl => ?_)
              refine lv_goto (tgt := 18) hx hb dX4_find_56 (by decide) ?_
              refine ih c1 (i + 1) (co c1) (by omega) (by rw [hb1] at hk3; exact hk3) (by omega) (fun d h8 h9 q => ?_) _ (lv_sub hl [0, 1, 2, 3] rfl)
              by_cases h5 : d = c1
              · subst h5; exact h3 q
              · by_cases h6 : d < t
                · exact hb2 d (by omega) h6 (show bkt (K.getD d 0) = bkt k by rw [q])
                · exact hno d (by omega) h9 q
            · refine lv_iload_n hx hb dX4_find_44 rfl (lv_at hl 1 rfl) ?_
              exact ro_iret hx hb hr hlocks (by rw [cix_some (by omega) h3 hKn]; rfl) dX4_find_45
  refine lv_iload_n hx hb dX4_find_0 rfl (lv_at hl 1 rfl) ?_
  refine lv_if_ge (tgt := 6) hx hb dX4_find_1 (by decide) (fun h1 => ?_) (fun h1 => ?_)
  · refine lv_aload_n hx hb dX4_find_6 rfl (lv_at hl 0 rfl) ?_
    refine va_get (D := D) (ci := 3) (v := .ref kb) (C := RX4) (T := TX4) (N := 17) hx hb hts hin_X4 hown hK hP 0 rfl rfl 11 (by decide) hl_40 (fun _ h9 => h9) rfl dX4_find_7 ?_
    refine lv_iload_n hx hb dX4_find_10 rfl (lv_at hl 1 rfl) ?_
    refine vp_callSi (va_Run.run (va_runS (As := [.int (nI k)]) (rest := [.ref kb]) ⟨hx, hb, hml, hown, hts⟩ (c_bucketOf l D ca k (by omega)) (va_cwS 1 hts gX4_find_X4_bucketOf rfl rfl rfl (by decide +kernel) ⟨Nat.le_of_ble_eq_true rfl, Nat.le_of_ble_eq_true rfl⟩) ⟨roP_blind, roP_at hK hN (hP.sub [] rfl)⟩ rfl rfl hl.1 rfl (lv_room (Nat.le_of_ble_eq_true rfl)) dX4_find_11 ⟨Nat.le_of_ble_eq_true rfl, Nat.le_of_ble_eq_true rfl⟩)) (fun r_4 hq => ?_)
    subst hq
    refine ld_i hx hb hK hP 3 0 rfl rfl (j := (bkt k)) (by omega) (by omega) dX4_find_14 ?_
    refine lv_istore_n (lv' := [(2, .int (bk (bkt k))), (0, .ref am), (1, .int (nI k))]) hx hb dX4_find_15 rfl hl (by decide) rfl (fun ls hl => ?_)
    refine lv_iconst (v := nI 0) hx hb dX4_find_16 (by decide) ?_
    refine lv_istore_n (lv' := [(3, .int (nI 0)), (2, .int (bk (bkt k))), (0, .ref am), (1, .int (nI k))]) hx hb dX4_find_17 rfl hl (by decide) rfl (fun ls hl => ?_)
    exact hlo K.length K.length 0 (bk (bkt k)) (Nat.le_refl _) (hR.2 _ hbl) (by omega) (fun d h8 h9 => absurd h9 (by omega)) _ (lv_sub hl [0, 1, 2, 3] rfl)
  · exact absurd (nI_pos' (by omega)) h1
