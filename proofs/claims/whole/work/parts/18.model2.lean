set_option maxHeartbeats 4000000 in
set_option maxRecDepth 100000 in
theorem c_M_nodeOfByte_n (l : Launch) (D : va_G) (ca : Nat → ClassId) (am : Nat) (qb : Nat) (qc : Nat) (qn : Nat) (kk : Nat) (kf : Nat) (kl : Nat) (kn : Nat) (ko : Nat) (kb : Nat) (lim : Nat) (nN : Nat) (nC : Nat) (top : Int32) (bef : Int32) (ear : Int32) (rs : Int32) (rt : Int32) (b : Int32)  : Met l yX4_nodeOfByte wsX4_nodeOfByte { frames := 2, cells := 0, slots := 0, locals := 42 } (roP D vwCl (ATy ca) [(am, .inr (3, [.int (nI lim), .int (nI nN), .ref qb, .ref qc, .ref qn, .int (nI nC), .ref kk, .ref kf, .ref kl, .ref kn, .ref ko, .ref kb, .int top, .int bef, .int ear, .int rs, .int rt]))] [.ref am, .int (-1), .int b]) (vp_Si (fun r : Int32 => r = -1)) 0 0 (fun _ => False) := by
  refine ro_enter (by decide) rfl (Nat.le_of_ble_eq_true rfl) ?_
  intro p e s m below meth c ls C hK hN hP hl
  obtain ⟨hx, hb, hr, hml, hown, hlocks, hts⟩ := C
  have hl : lv_has ls 5 [(0, .ref am), (1, .int (-1)), (2, .int b)] := hl
  refine lv_aload_n hx hb dX4_nodeOfByte_0 rfl (lv_at hl 0 rfl) ?_
  refine lv_iload_n hx hb dX4_nodeOfByte_1 rfl (lv_at hl 1 rfl) ?_
  refine vp_callSi (va_Run.run (va_runV (As := [.int (-1)]) (rest := []) ⟨hx, hb, hml, hown, hts⟩ (c_M_firstNode_n l D ca am qb qc qn kk kf kl kn ko kb lim nN nC top bef ear rs rt ) (cwV 1 hts gX4_nodeOfByte_X4_firstNode rfl rfl rfl (by decide +kernel) ⟨Nat.le_of_ble_eq_true rfl, Nat.le_of_ble_eq_true rfl⟩) ⟨roP_blind, va_recv hK hP (ci := 3) (q0 := 0) rfl rfl, roP_at hK hN (hP.sub [0] rfl)⟩ rfl rfl hl.1 rfl (lv_room (Nat.le_of_ble_eq_true rfl)) dX4_nodeOfByte_2 ⟨Nat.le_of_ble_eq_true rfl, Nat.le_of_ble_eq_true rfl⟩)) (fun r_1 hq => ?_)
  subst hq
  refine lv_istore_n (lv' := [(3, .int (-1)), (0, .ref am), (1, .int (-1)), (2, .int b)]) hx hb dX4_nodeOfByte_5 rfl hl (by decide) rfl (fun ls hl => ?_)
  refine lv_aload_n hx hb dX4_nodeOfByte_6 rfl (lv_at hl 1 rfl) ?_
  refine lv_iload_n hx hb dX4_nodeOfByte_7 rfl (lv_at hl 2 rfl) ?_
  refine vp_callSi (va_Run.run (va_runV (As := [.int (-1)]) (rest := []) ⟨hx, hb, hml, hown, hts⟩ (c_M_nodesIn_n l D ca am qb qc qn kk kf kl kn ko kb lim nN nC top bef ear rs rt ) (cwV 1 hts gX4_nodeOfByte_X4_nodesIn rfl rfl rfl (by decide +kernel) ⟨Nat.le_of_ble_eq_true rfl, Nat.le_of_ble_eq_true rfl⟩) ⟨roP_blind, va_recv hK hP (ci := 3) (q0 := 0) rfl rfl, roP_at hK hN (hP.sub [0] rfl)⟩ rfl rfl hl.1 rfl (lv_room (Nat.le_of_ble_eq_true rfl)) dX4_nodeOfByte_8 ⟨Nat.le_of_ble_eq_true rfl, Nat.le_of_ble_eq_true rfl⟩)) (fun r_2 hq => ?_)
  subst hq
  refine lv_istore (lv' := [(4, .int (nI 0)), (3, .int (-1)), (0, .ref am), (1, .int (-1)), (2, .int b)]) hx hb dX4_nodeOfByte_11 hl (by decide) rfl (fun ls hl => ?_)
  refine lv_iload hx hb dX4_nodeOfByte_13 (lv_at hl 0 rfl) ?_
  refine lv_if_le (tgt := 41) hx hb dX4_nodeOfByte_15 (by decide) (fun h1 => ?_) (fun h1 => ?_)
  · refine lv_iconst (v := (-1)) hx hb dX4_nodeOfByte_41 (by decide) ?_
    exact ro_iret hx hb hr hlocks (rfl) dX4_nodeOfByte_42
  · exact absurd (by decide) h1

set_option maxHeartbeats 4000000 in
set_option maxRecDepth 100000 in
theorem c_M_nodeOfByte_s (l : Launch) (D : va_G) (ca : Nat → ClassId) (am : Nat) (qb : Nat) (qc : Nat) (qn : Nat) (kk : Nat) (kf : Nat) (kl : Nat) (kn : Nat) (ko : Nat) (kb : Nat) (lim : Nat) (nC : Nat) (top : Int32) (bef : Int32) (ear : Int32) (rs : Int32) (rt : Int32) (gn : Nat) (gc : Nat) (i : Nat) (cf : Nat → Int32) (ct : Nat → Int32) (nn : Nat → Int32) (nb : Nat → Int32) (N : List Nd) (kx : Nat) (b : Int32) (hcf : isNx (fun j => (nd N j).1 = kx) 0 N.length (cf i)) (hct : ct i = nI (kF N kx 0).length) (hi : i < nC) (hiC : nC ≤ gcap 6000 gc) (hnN : N.length ≤ gcap 6000 gn) (hnx : ∀ j, j < N.length → isNx (fun t => (nd N t).1 = (nd N j).1) (j + 1) N.length (nn j)) (hnb : ∀ j, j < N.length → nb j = nI (nd N j).2.1) : Met l yX4_nodeOfByte wsX4_nodeOfByte { frames := 2, cells := 0, slots := 0, locals := 42 } (roP D vwCl (ATy ca) [(am, .inr (3, [.int (nI lim), .int (nI N.length), .ref qb, .ref qc, .ref qn, .int (nI nC), .ref kk, .ref kf, .ref kl, .ref kn, .ref ko, .ref kb, .int top, .int bef, .int ear, .int rs, .int rt])), (kf, .inl (ca 0, gcap 6000 gc, .inl cf)), (kn, .inl (ca 0, gcap 6000 gc, .inl ct)), (qn, .inl (ca 0, gcap 6000 gn, .inl nn)), (qb, .inl (ca 0, gcap 6000 gn, .inl nb))] [.ref am, .int (nI i), .int b]) (vp_Si (fun r : Int32 => r = oI (nix N kx b))) 0 0 (fun _ => False) := by
  refine ro_enter (by decide) rfl (Nat.le_of_ble_eq_true rfl) ?_
  intro p e s m below meth c ls C hK hN hP hl
  obtain ⟨hx, hb, hr, hml, hown, hlocks, hts⟩ := C
  have hl : lv_has ls 5 [(0, .ref am), (1, .int (nI i)), (2, .int b)] := hl
  have hg := gcap_le 6000 gn
  have hg2 := gcap_le 6000 gc
  have hlo : ∀ (z : Nat) (t : Nat) (x : Int32), ((kF N kx t).length = z) → (isNx (fun j => (nd N j).1 = kx) t N.length x) → (∀ j, j < t → j < N.length → (nd N j).1 = kx → ¬ nI (nd N j).2.1 = b) → ∀ (ls : Array Slot), lv_has ls 5 [(4, .int (nI z)), (3, .int x), (0, .ref am), (1, .int (nI i)), (2, .int b)] → W p l e ({ frames := 2, cells := 0, slots := 0, locals := 42 } : Room) s m ([.ref am, .int (nI i), .int b] : List Value).toArray below meth c s.heap [] 0 0 (MQ below (vp_Si (fun r : Int32 => r = oI (nix N kx b))) ([.ref am, .int (nI i), .int b] : List Value).toArray s 0 0 (fun _ => False)) (F0 m 13 ls []) := by
    intro z
    induction z with
    | zero =>
      intro t x hF hx1 hno ls hl
      refine lv_iload hx hb dX4_nodeOfByte_13 (lv_at hl 0 rfl) ?_
      refine lv_if_le (tgt := 41) hx hb dX4_nodeOfByte_15 (by decide) (fun h1 => ?_) (fun h1 => ?_)
      · refine lv_iconst (v := (-1)) hx hb dX4_nodeOfByte_41 (by decide) ?_
        have hF0 := List.eq_nil_of_length_eq_zero hF
        have e9 : nix N kx b = none := nix_none (fun j hj hk1 => by
          by_cases h7 : j < t
          · exact hno j h7 hj hk1
          · exact absurd hk1 (kF_nil hF0 (by omega) hj))
        exact ro_iret hx hb hr hlocks (by rw [e9]; rfl) dX4_nodeOfByte_42
      · exact absurd (by decide) h1
    | succ z ih =>
      intro t x hF hx1 hno ls hl
      obtain ⟨y, F, hyF⟩ := List.exists_cons_of_length_eq_add_one hF
      obtain ⟨j, rfl, h1, h2, h3, h4, h5, h6⟩ := nx_cons hx1 hyF
      have hzl : (kF N kx t).length ≤ N.length := kF_len N kx t
      refine lv_iload hx hb dX4_nodeOfByte_13 (lv_at hl 0 rfl) ?_
      refine lv_if_le (tgt := 41) hx hb dX4_nodeOfByte_15 (by decide) (fun h7 => ?_) (fun h7 => ?_)
      · exact absurd h7 (nI_nle (by omega) (by omega))
      · refine lv_aload_n hx hb dX4_nodeOfByte_18 rfl (lv_at hl 2 rfl) ?_
        refine lv_iload_n hx hb dX4_nodeOfByte_19 rfl (lv_at hl 1 rfl) ?_
        refine vp_callSi (va_Run.run (va_runV (As := [.int (nI j)]) (rest := []) ⟨hx, hb, hml, hown, hts⟩ (c_M_byteOf_s l D ca am qb qc qn kk kf kl kn ko kb lim N.length nC top bef ear rs rt j gn nb (h2) (hnN)) (cwV 1 hts gX4_nodeOfByte_X4_byteOf rfl rfl rfl (by decide +kernel) ⟨Nat.le_of_ble_eq_true rfl, Nat.le_of_ble_eq_true rfl⟩) ⟨roP_blind, va_recv hK hP (ci := 3) (q0 := 0) rfl rfl, roP_at hK hN (hP.sub [0, 4] rfl)⟩ rfl rfl hl.1 rfl (lv_room (Nat.le_of_ble_eq_true rfl)) dX4_nodeOfByte_20 ⟨Nat.le_of_ble_eq_true rfl, Nat.le_of_ble_eq_true rfl⟩)) (fun r_1 hq => ?_)
        rw [hnb j h2] at hq
        subst hq
        refine lv_iload_n hx hb dX4_nodeOfByte_23 rfl (lv_at hl 4 rfl) ?_
        refine lv_icmp_ne (tgt := 29) hx hb dX4_nodeOfByte_24 (by decide) (fun h8 => ?_) (fun h8 => ?_)
        · refine lv_aload_n hx hb dX4_nodeOfByte_29 rfl (lv_at hl 2 rfl) ?_
          refine lv_iload_n hx hb dX4_nodeOfByte_30 rfl (lv_at hl 1 rfl) ?_
          refine vp_callSi (va_Run.run (va_runV (As := [.int (nI j)]) (rest := []) ⟨hx, hb, hml, hown, hts⟩ (c_M_nextNode_s l D ca am qb qc qn kk kf kl kn ko kb lim N.length nC top bef ear rs rt j gn nn (h2) (hnN)) (cwV 1 hts gX4_nodeOfByte_X4_nextNode rfl rfl rfl (by decide +kernel) ⟨Nat.le_of_ble_eq_true rfl, Nat.le_of_ble_eq_true rfl⟩) ⟨roP_blind, va_recv hK hP (ci := 3) (q0 := 0) rfl rfl, roP_at hK hN (hP.sub [0, 3] rfl)⟩ rfl rfl hl.1 rfl (lv_room (Nat.le_of_ble_eq_true rfl)) dX4_nodeOfByte_31 ⟨Nat.le_of_ble_eq_true rfl, Nat.le_of_ble_eq_true rfl⟩)) (fun r_2 hq => ?_)
          subst hq
          refine lv_istore_n (lv' := [(3, .int (nn j)), (4, .int (nI (z + 1))), (0, .ref am), (1, .int (nI i)), (2, .int b)]) hx hb dX4_nodeOfByte_34 rfl hl (by decide) rfl (fun ls hl => ?_)
          refine lv_iinc (v := nI z) (lv' := [(4, .int (nI z)), (3, .int (nn j)), (0, .ref am), (1, .int (nI i)), (2, .int b)]) hx hb dX4_nodeOfByte_35 hl (k := 1) rfl (pk_m1 z) (by decide) rfl (fun ls hl => ?_)
          refine lv_goto (tgt := 13) hx hb dX4_nodeOfByte_38 (by decide) ?_
          exact ih (j + 1) (nn j) (by rw [h5]; rw [hyF] at hF; exact Nat.succ.inj hF) (nx_key (hnx j h2) h4) (fun i2 g1 g2 g3 => by
                by_cases h9 : i2 < t
                · exact hno i2 h9 g2 g3
                · by_cases e9 : i2 = j
                  · subst e9; exact h8
                  · exact absurd g3 (h6 i2 (by omega) (by omega))) _ (lv_sub hl [0, 1, 2, 3, 4] rfl)
        · refine lv_iload_n hx hb dX4_nodeOfByte_27 rfl (lv_at hl 1 rfl) ?_
          exact ro_iret hx hb hr hlocks (by rw [nix_some h2 h4 h8 (fun i2 hi2 hk2 => by
                by_cases h9 : i2 < t
                · exact hno i2 h9 (by omega) hk2
                · exact absurd hk2 (h6 i2 (by omega) hi2))]; rfl) dX4_nodeOfByte_28
  refine lv_aload_n hx hb dX4_nodeOfByte_0 rfl (lv_at hl 0 rfl) ?_
  refine lv_iload_n hx hb dX4_nodeOfByte_1 rfl (lv_at hl 1 rfl) ?_
  refine vp_callSi (va_Run.run (va_runV (As := [.int (nI i)]) (rest := []) ⟨hx, hb, hml, hown, hts⟩ (c_M_firstNode_s l D ca am qb qc qn kk kf kl kn ko kb lim N.length nC top bef ear rs rt i gc cf (hi) (hiC)) (cwV 1 hts gX4_nodeOfByte_X4_firstNode rfl rfl rfl (by decide +kernel) ⟨Nat.le_of_ble_eq_true rfl, Nat.le_of_ble_eq_true rfl⟩) ⟨roP_blind, va_recv hK hP (ci := 3) (q0 := 0) rfl rfl, roP_at hK hN (hP.sub [0, 1] rfl)⟩ rfl rfl hl.1 rfl (lv_room (Nat.le_of_ble_eq_true rfl)) dX4_nodeOfByte_2 ⟨Nat.le_of_ble_eq_true rfl, Nat.le_of_ble_eq_true rfl⟩)) (fun r_3 hq => ?_)
  subst hq
  refine lv_istore_n (lv' := [(3, .int (cf i)), (0, .ref am), (1, .int (nI i)), (2, .int b)]) hx hb dX4_nodeOfByte_5 rfl hl (by decide) rfl (fun ls hl => ?_)
  refine lv_aload_n hx hb dX4_nodeOfByte_6 rfl (lv_at hl 1 rfl) ?_
  refine lv_iload_n hx hb dX4_nodeOfByte_7 rfl (lv_at hl 2 rfl) ?_
  refine vp_callSi (va_Run.run (va_runV (As := [.int (nI i)]) (rest := []) ⟨hx, hb, hml, hown, hts⟩ (c_M_nodesIn_s l D ca am qb qc qn kk kf kl kn ko kb lim N.length nC top bef ear rs rt i gc ct (hi) (hiC)) (cwV 1 hts gX4_nodeOfByte_X4_nodesIn rfl rfl rfl (by decide +kernel) ⟨Nat.le_of_ble_eq_true rfl, Nat.le_of_ble_eq_true rfl⟩) ⟨roP_blind, va_recv hK hP (ci := 3) (q0 := 0) rfl rfl, roP_at hK hN (hP.sub [0, 2] rfl)⟩ rfl rfl hl.1 rfl (lv_room (Nat.le_of_ble_eq_true rfl)) dX4_nodeOfByte_8 ⟨Nat.le_of_ble_eq_true rfl, Nat.le_of_ble_eq_true rfl⟩)) (fun r_4 hq => ?_)
  rw [hct] at hq
  subst hq
  refine lv_istore (lv' := [(4, .int (nI (kF N kx 0).length)), (3, .int (cf i)), (0, .ref am), (1, .int (nI i)), (2, .int b)]) hx hb dX4_nodeOfByte_11 hl (by decide) rfl (fun ls hl => ?_)
  exact hlo _ 0 (cf i) rfl hcf (fun j h => absurd h (by omega)) _ (lv_sub hl [0, 1, 2, 3, 4] rfl)

set_option maxHeartbeats 4000000 in
set_option maxRecDepth 100000 in
theorem c_M_nodeAt_n (l : Launch) (D : va_G) (ca : Nat → ClassId) (am : Nat) (qb : Nat) (qc : Nat) (qn : Nat) (kk : Nat) (kf : Nat) (kl : Nat) (kn : Nat) (ko : Nat) (kb : Nat) (lim : Nat) (nN : Nat) (nC : Nat) (top : Int32) (bef : Int32) (ear : Int32) (rs : Int32) (rt : Int32) (w : Int32)  : Met l yX4_nodeAt wsX4_nodeAt { frames := 2, cells := 0, slots := 0, locals := 42 } (roP D vwCl (ATy ca) [(am, .inr (3, [.int (nI lim), .int (nI nN), .ref qb, .ref qc, .ref qn, .int (nI nC), .ref kk, .ref kf, .ref kl, .ref kn, .ref ko, .ref kb, .int top, .int bef, .int ear, .int rs, .int rt]))] [.ref am, .int (-1), .int w]) (vp_Si (fun r : Int32 => r = -1)) 0 0 (fun _ => False) := by
  refine ro_enter (by decide) rfl (Nat.le_of_ble_eq_true rfl) ?_
  intro p e s m below meth c ls C hK hN hP hl
  obtain ⟨hx, hb, hr, hml, hown, hlocks, hts⟩ := C
  have hl : lv_has ls 5 [(0, .ref am), (1, .int (-1)), (2, .int w)] := hl
  refine lv_iload_n hx hb dX4_nodeAt_0 rfl (lv_at hl 2 rfl) ?_
  refine lv_if_lt (tgt := 13) hx hb dX4_nodeAt_1 (by decide) (fun h1 => ?_) (fun h1 => ?_)
  · refine lv_iconst (v := (-1)) hx hb dX4_nodeAt_13 (by decide) ?_
    exact ro_iret hx hb hr hlocks (rfl) dX4_nodeAt_14
  · refine lv_iload_n hx hb dX4_nodeAt_4 rfl (lv_at hl 2 rfl) ?_
    refine lv_aload_n hx hb dX4_nodeAt_5 rfl (lv_at hl 0 rfl) ?_
    refine lv_iload_n hx hb dX4_nodeAt_6 rfl (lv_at hl 1 rfl) ?_
    refine vp_callSi (va_Run.run (va_runV (As := [.int (-1)]) (rest := [.int w]) ⟨hx, hb, hml, hown, hts⟩ (c_M_nodesIn_n l D ca am qb qc qn kk kf kl kn ko kb lim nN nC top bef ear rs rt ) (cwV 1 hts gX4_nodeAt_X4_nodesIn rfl rfl rfl (by decide +kernel) ⟨Nat.le_of_ble_eq_true rfl, Nat.le_of_ble_eq_true rfl⟩) ⟨roP_blind, va_recv hK hP (ci := 3) (q0 := 0) rfl rfl, roP_at hK hN (hP.sub [0] rfl)⟩ rfl rfl hl.1 rfl (lv_room (Nat.le_of_ble_eq_true rfl)) dX4_nodeAt_7 ⟨Nat.le_of_ble_eq_true rfl, Nat.le_of_ble_eq_true rfl⟩)) (fun r_1 hq => ?_)
    subst hq
    refine lv_icmp_lt (tgt := 15) hx hb dX4_nodeAt_10 (by decide) (fun h2 => ?_) (fun h2 => ?_)
    · exact absurd h2 h1
    · refine lv_iconst (v := (-1)) hx hb dX4_nodeAt_13 (by decide) ?_
      exact ro_iret hx hb hr hlocks (rfl) dX4_nodeAt_14

set_option maxHeartbeats 4000000 in
set_option maxRecDepth 100000 in
theorem c_M_nodeAt_s (l : Launch) (D : va_G) (ca : Nat → ClassId) (am : Nat) (qb : Nat) (qc : Nat) (qn : Nat) (kk : Nat) (kf : Nat) (kl : Nat) (kn : Nat) (ko : Nat) (kb : Nat) (lim : Nat) (nC : Nat) (top : Int32) (bef : Int32) (ear : Int32) (rs : Int32) (rt : Int32) (gn : Nat) (gc : Nat) (i : Nat) (cf : Nat → Int32) (ct : Nat → Int32) (nn : Nat → Int32) (N : List Nd) (kx : Nat) (w : Int32) (hcf : isNx (fun j => (nd N j).1 = kx) 0 N.length (cf i)) (hct : ct i = nI (kF N kx 0).length) (hi : i < nC) (hiC : nC ≤ gcap 6000 gc) (hnN : N.length ≤ gcap 6000 gn) (hnx : ∀ j, j < N.length → isNx (fun t => (nd N t).1 = (nd N j).1) (j + 1) N.length (nn j)) : Met l yX4_nodeAt wsX4_nodeAt { frames := 2, cells := 0, slots := 0, locals := 42 } (roP D vwCl (ATy ca) [(am, .inr (3, [.int (nI lim), .int (nI N.length), .ref qb, .ref qc, .ref qn, .int (nI nC), .ref kk, .ref kf, .ref kl, .ref kn, .ref ko, .ref kb, .int top, .int bef, .int ear, .int rs, .int rt])), (kf, .inl (ca 0, gcap 6000 gc, .inl cf)), (kn, .inl (ca 0, gcap 6000 gc, .inl ct)), (qn, .inl (ca 0, gcap 6000 gn, .inl nn))] [.ref am, .int (nI i), .int w]) (vp_Si (fun r : Int32 => (¬ (0 ≤ w.toInt ∧ w.toInt < (kF N kx 0).length) ∧ r = -1) ∨ ∃ j, r = nI j ∧ j < N.length ∧ (0 ≤ w.toInt ∧ w.toInt < (kF N kx 0).length) ∧ nd N j = (kF N kx 0).getD w.toNatClampNeg (0, 0, 0))) 0 0 (fun _ => False) := by
  refine ro_enter (by decide) rfl (Nat.le_of_ble_eq_true rfl) ?_
  intro p e s m below meth c ls C hK hN hP hl
  obtain ⟨hx, hb, hr, hml, hown, hlocks, hts⟩ := C
  have hl : lv_has ls 5 [(0, .ref am), (1, .int (nI i)), (2, .int w)] := hl
  have hg := gcap_le 6000 gn
  have hg2 := gcap_le 6000 gc
  have hzl : (kF N kx 0).length ≤ N.length := kF_len N kx 0
  refine lv_iload_n hx hb dX4_nodeAt_0 rfl (lv_at hl 2 rfl) ?_
  refine lv_if_lt (tgt := 13) hx hb dX4_nodeAt_1 (by decide) (fun h1 => ?_) (fun h1 => ?_)
  · refine lv_iconst (v := (-1)) hx hb dX4_nodeAt_13 (by decide) ?_
    exact ro_iret hx hb hr hlocks (Or.inl ⟨by rw [Int32.lt_iff_toInt_lt, Int32.toInt_zero] at h1; omega, rfl⟩) dX4_nodeAt_14
  · obtain ⟨v, hv, rfl⟩ := nI_of h1
    rw [nI_toInt hv, nI_clamp hv]
    refine lv_iload_n hx hb dX4_nodeAt_4 rfl (lv_at hl 2 rfl) ?_
    refine lv_aload_n hx hb dX4_nodeAt_5 rfl (lv_at hl 0 rfl) ?_
    refine lv_iload_n hx hb dX4_nodeAt_6 rfl (lv_at hl 1 rfl) ?_
    refine vp_callSi (va_Run.run (va_runV (As := [.int (nI i)]) (rest := [.int (nI v)]) ⟨hx, hb, hml, hown, hts⟩ (c_M_nodesIn_s l D ca am qb qc qn kk kf kl kn ko kb lim N.length nC top bef ear rs rt i gc ct (hi) (hiC)) (cwV 1 hts gX4_nodeAt_X4_nodesIn rfl rfl rfl (by decide +kernel) ⟨Nat.le_of_ble_eq_true rfl, Nat.le_of_ble_eq_true rfl⟩) ⟨roP_blind, va_recv hK hP (ci := 3) (q0 := 0) rfl rfl, roP_at hK hN (hP.sub [0, 2] rfl)⟩ rfl rfl hl.1 rfl (lv_room (Nat.le_of_ble_eq_true rfl)) dX4_nodeAt_7 ⟨Nat.le_of_ble_eq_true rfl, Nat.le_of_ble_eq_true rfl⟩)) (fun r_1 hq => ?_)
    rw [hct] at hq
    subst hq
    refine bn_lt (tgt := 15) hx hb dX4_nodeAt_10 (by decide) (by omega) (by omega) (fun h2 => ?_) (fun h2 => ?_)
    · refine lv_aload_n hx hb dX4_nodeAt_15 rfl (lv_at hl 0 rfl) ?_
      refine lv_iload_n hx hb dX4_nodeAt_16 rfl (lv_at hl 1 rfl) ?_
      refine vp_callSi (va_Run.run (va_runV (As := [.int (nI i)]) (rest := []) ⟨hx, hb, hml, hown, hts⟩ (c_M_firstNode_s l D ca am qb qc qn kk kf kl kn ko kb lim N.length nC top bef ear rs rt i gc cf (hi) (hiC)) (cwV 1 hts gX4_nodeAt_X4_firstNode rfl rfl rfl (by decide +kernel) ⟨Nat.le_of_ble_eq_true rfl, Nat.le_of_ble_eq_true rfl⟩) ⟨roP_blind, va_recv hK hP (ci := 3) (q0 := 0) rfl rfl, roP_at hK hN (hP.sub [0, 1] rfl)⟩ rfl rfl hl.1 rfl (lv_room (Nat.le_of_ble_eq_true rfl)) dX4_nodeAt_17 ⟨Nat.le_of_ble_eq_true rfl, Nat.le_of_ble_eq_true rfl⟩)) (fun r_2 hq => ?_)
      subst hq
      refine lv_istore_n (lv' := [(3, .int (cf i)), (0, .ref am), (1, .int (nI i)), (2, .int (nI v))]) hx hb dX4_nodeAt_20 rfl hl (by decide) rfl (fun ls hl => ?_)
      refine lv_iconst (v := nI 0) hx hb dX4_nodeAt_21 (by decide) ?_
      refine lv_istore (lv' := [(4, .int (nI 0)), (3, .int (cf i)), (0, .ref am), (1, .int (nI i)), (2, .int (nI v))]) hx hb dX4_nodeAt_22 hl (by decide) rfl (fun ls hl => ?_)
      have hlo : ∀ (z : Nat) (k : Nat) (t : Nat) (x : Int32), (k + z = v) → (kF N kx t = (kF N kx 0).drop k) → (isNx (fun j => (nd N j).1 = kx) t N.length x) → ∀ (ls : Array Slot), lv_has ls 5 [(4, .int (nI k)), (3, .int x), (0, .ref am), (1, .int (nI i)), (2, .int (nI v))] → W p l e ({ frames := 2, cells := 0, slots := 0, locals := 42 } : Room) s m ([.ref am, .int (nI i), .int (nI v)] : List Value).toArray below meth c s.heap [] 0 0 (MQ below (vp_Si (fun r : Int32 => (¬ (0 ≤ (v : Int) ∧ (v : Int) < (kF N kx 0).length) ∧ r = -1) ∨ ∃ j, r = nI j ∧ j < N.length ∧ (0 ≤ (v : Int) ∧ (v : Int) < (kF N kx 0).length) ∧ nd N j = (kF N kx 0).getD v (0, 0, 0))) ([.ref am, .int (nI i), .int (nI v)] : List Value).toArray s 0 0 (fun _ => False)) (F0 m 24 ls []) := by
        intro z
        induction z with
        | zero =>
          intro k t x hkz hF hx1 ls hl
          have hyF := hF
          rw [List.drop_eq_getElem_cons (show k < (kF N kx 0).length by omega)] at hyF
          obtain ⟨j, rfl, g1, g2, g3, g4, g5, g6⟩ := nx_cons hx1 hyF
          refine lv_iload hx hb dX4_nodeAt_24 (lv_at hl 0 rfl) ?_
          refine lv_iload_n hx hb dX4_nodeAt_26 rfl (lv_at hl 4 rfl) ?_
          refine bn_ge (tgt := 42) hx hb dX4_nodeAt_27 (by decide) (by omega) (by omega) (fun h7 => ?_) (fun h7 => ?_)
          · refine lv_iload_n hx hb dX4_nodeAt_42 rfl (lv_at hl 1 rfl) ?_
            have e9 : k = v := by omega
            have e8 : nd N j = (kF N kx 0).getD v (0, 0, 0) := by
              subst e9
              rw [g3]
              simp [List.getD, List.getElem?_eq_getElem (show k < (kF N kx 0).length by omega)]
            exact ro_iret hx hb hr hlocks (Or.inr ⟨j, rfl, g2, by omega, e8⟩) dX4_nodeAt_43
          · exact absurd h7 (by omega)
        | succ z ih =>
          intro k t x hkz hF hx1 ls hl
          have hyF := hF
          rw [List.drop_eq_getElem_cons (show k < (kF N kx 0).length by omega)] at hyF
          obtain ⟨j, rfl, g1, g2, g3, g4, g5, g6⟩ := nx_cons hx1 hyF
          refine lv_iload hx hb dX4_nodeAt_24 (lv_at hl 0 rfl) ?_
          refine lv_iload_n hx hb dX4_nodeAt_26 rfl (lv_at hl 4 rfl) ?_
          refine bn_ge (tgt := 42) hx hb dX4_nodeAt_27 (by decide) (by omega) (by omega) (fun h7 => ?_) (fun h7 => ?_)
          · exact absurd h7 (by omega)
          · refine lv_aload_n hx hb dX4_nodeAt_30 rfl (lv_at hl 2 rfl) ?_
            refine lv_iload_n hx hb dX4_nodeAt_31 rfl (lv_at hl 1 rfl) ?_
            refine vp_callSi (va_Run.run (va_runV (As := [.int (nI j)]) (rest := []) ⟨hx, hb, hml, hown, hts⟩ (c_M_nextNode_s l D ca am qb qc qn kk kf kl kn ko kb lim N.length nC top bef ear rs rt j gn nn (g2) (hnN)) (cwV 1 hts gX4_nodeAt_X4_nextNode rfl rfl rfl (by decide +kernel) ⟨Nat.le_of_ble_eq_true rfl, Nat.le_of_ble_eq_true rfl⟩) ⟨roP_blind, va_recv hK hP (ci := 3) (q0 := 0) rfl rfl, roP_at hK hN (hP.sub [0, 3] rfl)⟩ rfl rfl hl.1 rfl (lv_room (Nat.le_of_ble_eq_true rfl)) dX4_nodeAt_32 ⟨Nat.le_of_ble_eq_true rfl, Nat.le_of_ble_eq_true rfl⟩)) (fun r_3 hq => ?_)
            subst hq
            refine lv_istore_n (lv' := [(3, .int (nn j)), (4, .int (nI k)), (0, .ref am), (1, .int (nI i)), (2, .int (nI v))]) hx hb dX4_nodeAt_35 rfl hl (by decide) rfl (fun ls hl => ?_)
            refine lv_iinc (v := nI (k + 1)) (lv' := [(4, .int (nI (k + 1))), (3, .int (nn j)), (0, .ref am), (1, .int (nI i)), (2, .int (nI v))]) hx hb dX4_nodeAt_36 hl (k := 1) rfl (nI_1 _) (by decide) rfl (fun ls hl => ?_)
            refine lv_goto (tgt := 24) hx hb dX4_nodeAt_39 (by decide) ?_
            exact ih (k + 1) (j + 1) (nn j) (by omega) g5 (nx_key (hnx j g2) g4) _ (lv_sub hl [0, 1, 2, 3, 4] rfl)
      exact hlo v 0 0 (cf i) (by omega) rfl hcf _ (lv_sub hl [0, 1, 2, 3, 4] rfl)
    · refine lv_iconst (v := (-1)) hx hb dX4_nodeAt_13 (by decide) ?_
      exact ro_iret hx hb hr hlocks (Or.inl ⟨by omega, rfl⟩) dX4_nodeAt_14

set_option maxHeartbeats 4000000 in
set_option maxRecDepth 100000 in
theorem c_M_rescale (l : Launch) (D : va_G) (ca : Nat → ClassId) (am : Nat) (qb : Nat) (qc : Nat) (qn : Nat) (kk : Nat) (kf : Nat) (kl : Nat) (kn : Nat) (ko : Nat) (kb : Nat) (lim : Nat) (nC : Nat) (rs : Nat) (top : Int32) (bef : Int32) (ear : Int32) (rt : Int32) (gn : Nat) (gc : Nat) (i : Nat) (cf : Nat → Int32) (ct : Nat → Int32) (nn : Nat → Int32) (nc : Nat → Int32) (N : List Nd) (kx : Nat) (hcf : isNx (fun j => (nd N j).1 = kx) 0 N.length (cf i)) (hct : ct i = nI (kF N kx 0).length) (hi : i < nC) (hiC : nC ≤ gcap 6000 gc) (hnN : N.length ≤ gcap 6000 gn) (hnx : ∀ j, j < N.length → isNx (fun t => (nd N t).1 = (nd N j).1) (j + 1) N.length (nn j)) (hnc : ∀ j, j < N.length → nc j = nI (nd N j).2.2) (hcl : ∀ j, j < N.length → (nd N j).2.2 ≤ 255) (sz : Nat) : Met l yX4_rescale wsX4_rescale { frames := 2, cells := 0, slots := 0, locals := 42 } (rwP D vwCl (ATy ca) [(am, .inr (3, [.int (nI lim), .int (nI N.length), .ref qb, .ref qc, .ref qn, .int (nI nC), .ref kk, .ref kf, .ref kl, .ref kn, .ref ko, .ref kb, .int top, .int bef, .int ear, .int (nI rs), .int rt])), (kf, .inl (ca 0, gcap 6000 gc, .inl cf)), (kn, .inl (ca 0, gcap 6000 gc, .inl ct)), (qn, .inl (ca 0, gcap 6000 gn, .inl nn)), (qc, .inl (ca 0, gcap 6000 gn, .inl nc))] sz [.ref am, .int (nI i)]) (va_Qv (fun (u : (Nat → Int32)) => ∀ j, j < N.length → u j = nI (if (nd N j).1 = kx then ((nd N j).2.2 + 1) / 2 else (nd N j).2.2)) (bB D vwCl (fun (u : (Nat → Int32)) => [(am, .inr (3, [.int (nI lim), .int (nI N.length), .ref qb, .ref qc, .ref qn, .int (nI nC), .ref kk, .ref kf, .ref kl, .ref kn, .ref ko, .ref kb, .int top, .int bef, .int ear, .int (nI (rs + 1)), .int rt])), (kf, .inl (ca 0, gcap 6000 gc, .inl cf)), (kn, .inl (ca 0, gcap 6000 gc, .inl ct)), (qn, .inl (ca 0, gcap 6000 gn, .inl nn)), (qc, .inl (ca 0, gcap 6000 gn, .inl u))]) (va_A [(am, .inr (3, [.int (nI lim), .int (nI N.length), .ref qb, .ref qc, .ref qn, .int (nI nC), .ref kk, .ref kf, .ref kl, .ref kn, .ref ko, .ref kb, .int top, .int bef, .int ear, .int (nI rs), .int rt])), (kf, .inl (ca 0, gcap 6000 gc, .inl cf)), (kn, .inl (ca 0, gcap 6000 gc, .inl ct)), (qn, .inl (ca 0, gcap 6000 gn, .inl nn)), (qc, .inl (ca 0, gcap 6000 gn, .inl nc))] sz)) (va_A [(am, .inr (3, [.int (nI lim), .int (nI N.length), .ref qb, .ref qc, .ref qn, .int (nI nC), .ref kk, .ref kf, .ref kl, .ref kn, .ref ko, .ref kb, .int top, .int bef, .int ear, .int (nI rs), .int rt])), (kf, .inl (ca 0, gcap 6000 gc, .inl cf)), (kn, .inl (ca 0, gcap 6000 gc, .inl ct)), (qn, .inl (ca 0, gcap 6000 gn, .inl nn)), (qc, .inl (ca 0, gcap 6000 gn, .inl nc))] sz)) 0 0 (va_A [(am, .inr (3, [.int (nI lim), .int (nI N.length), .ref qb, .ref qc, .ref qn, .int (nI nC), .ref kk, .ref kf, .ref kl, .ref kn, .ref ko, .ref kb, .int top, .int bef, .int ear, .int (nI rs), .int rt])), (kf, .inl (ca 0, gcap 6000 gc, .inl cf)), (kn, .inl (ca 0, gcap 6000 gc, .inl ct)), (qn, .inl (ca 0, gcap 6000 gn, .inl nn)), (qc, .inl (ca 0, gcap 6000 gn, .inl nc))] sz) := by
  refine rw_enter (Q := fun A => va_Qv (fun (u : (Nat → Int32)) => ∀ j, j < N.length → u j = nI (if (nd N j).1 = kx then ((nd N j).2.2 + 1) / 2 else (nd N j).2.2)) (bB D vwCl (fun (u : (Nat → Int32)) => [(am, .inr (3, [.int (nI lim), .int (nI N.length), .ref qb, .ref qc, .ref qn, .int (nI nC), .ref kk, .ref kf, .ref kl, .ref kn, .ref ko, .ref kb, .int top, .int bef, .int ear, .int (nI (rs + 1)), .int rt])), (kf, .inl (ca 0, gcap 6000 gc, .inl cf)), (kn, .inl (ca 0, gcap 6000 gc, .inl ct)), (qn, .inl (ca 0, gcap 6000 gn, .inl nn)), (qc, .inl (ca 0, gcap 6000 gn, .inl u))]) A) A) (by decide) rfl (Nat.le_of_ble_eq_true rfl) ?_
  intro p e s m below meth c ls A C hnm hK hN hP hD hA hl
  have hS : va_S A s.heap s.heap [] := va_S.rf
  obtain ⟨hx, hb, hr, hml, hown, hlocks, hts⟩ := C
  have hl : lv_has ls 4 [(0, .ref am), (1, .int (nI i))] := hl
  have hin_X4 : ∀ w ∈ wsX40, w ∈ wsX4_rescale := by decide +kernel
  have hl_55 := hts (.fieldLink RX4 55 "EscapeCoder$Model" "rescalings" "I") (by decide +kernel)
  have hl_19 := hts (.fieldLink RX4 19 "EscapeCoder$Model" "nodeCount" "[I") (by decide +kernel)
  have hl_22 := hts (.fieldLink RX4 22 "EscapeCoder$Model" "nodeNext" "[I") (by decide +kernel)
  have hg := gcap_le 6000 gn
  have hg2 := gcap_le 6000 gc
  have hlo : ∀ (z : Nat) (t : Nat) (x : Int32) (nc2 : Nat → Int32), ((kF N kx t).length = z) → (isNx (fun j => (nd N j).1 = kx) t N.length x) → (∀ j, j < N.length → nc2 j = nI (if (nd N j).1 = kx ∧ j < t then ((nd N j).2.2 + 1) / 2 else (nd N j).2.2)) → ∀ (H : Heap) (locs : List Loc), va_P D vwCl [(am, .inr (3, [.int (nI lim), .int (nI N.length), .ref qb, .ref qc, .ref qn, .int (nI nC), .ref kk, .ref kf, .ref kl, .ref kn, .ref ko, .ref kb, .int top, .int bef, .int ear, .int (nI rs), .int rt])), (kf, .inl (ca 0, gcap 6000 gc, .inl cf)), (kn, .inl (ca 0, gcap 6000 gc, .inl ct)), (qn, .inl (ca 0, gcap 6000 gn, .inl nn)), (qc, .inl (ca 0, gcap 6000 gn, .inl nc2))] H → va_D A [(am, .inr (3, [.int (nI lim), .int (nI N.length), .ref qb, .ref qc, .ref qn, .int (nI nC), .ref kk, .ref kf, .ref kl, .ref kn, .ref ko, .ref kb, .int top, .int bef, .int ear, .int (nI rs), .int rt])), (kf, .inl (ca 0, gcap 6000 gc, .inl cf)), (kn, .inl (ca 0, gcap 6000 gc, .inl ct)), (qn, .inl (ca 0, gcap 6000 gn, .inl nn)), (qc, .inl (ca 0, gcap 6000 gn, .inl nc2))] → va_S A s.heap H locs → ∀ (ls : Array Slot), lv_has ls 4 [(3, .int (nI z)), (2, .int x), (0, .ref am), (1, .int (nI i))] → W p l e ({ frames := 2, cells := 0, slots := 0, locals := 42 } : Room) s m ([.ref am, .int (nI i)] : List Value).toArray below meth c H locs 0 0 (MQ below (va_Qv (fun (u : (Nat → Int32)) => ∀ j, j < N.length → u j = nI (if (nd N j).1 = kx then ((nd N j).2.2 + 1) / 2 else (nd N j).2.2)) (bB D vwCl (fun (u : (Nat → Int32)) => [(am, .inr (3, [.int (nI lim), .int (nI N.length), .ref qb, .ref qc, .ref qn, .int (nI nC), .ref kk, .ref kf, .ref kl, .ref kn, .ref ko, .ref kb, .int top, .int bef, .int ear, .int (nI (rs + 1)), .int rt])), (kf, .inl (ca 0, gcap 6000 gc, .inl cf)), (kn, .inl (ca 0, gcap 6000 gc, .inl ct)), (qn, .inl (ca 0, gcap 6000 gn, .inl nn)), (qc, .inl (ca 0, gcap 6000 gn, .inl u))]) A) A) ([.ref am, .int (nI i)] : List Value).toArray s 0 0 A) (F0 m 12 ls []) := by
    intro z
    induction z with
    | zero =>
      intro t x nc2 hF hx1 hc2 H locs hP hD hS ls hl
      refine lv_iload_n hx hb dX4_rescale_12 rfl (lv_at hl 0 rfl) ?_
      refine lv_if_le (tgt := 53) hx hb dX4_rescale_13 (by decide) (fun h1 => ?_) (fun h1 => ?_)
      · refine lv_aload_n hx hb dX4_rescale_53 rfl (lv_at hl 2 rfl) ?_
        refine lv_dup hx hb dX4_rescale_54 rfl ?_
        refine va_get (D := D) (ci := 3) (v := .int (nI rs)) (C := RX4) (T := TX4) (N := 17) hx hb hts hin_X4 hown hK hP 0 rfl rfl 15 (by decide) hl_55 (fun _ h9 => h9) rfl dX4_rescale_55 ?_
        refine lv_iconst (v := nI 1) hx hb dX4_rescale_58 (by decide) ?_
        refine lv_iadd hx hb dX4_rescale_59 ?_
        refine tp_i (y := nI (rs + 1)) (nI_1 _) ?_
        refine va_put (D := D) (ci := 3) (v := .int (nI (rs + 1))) (ty := .int) (C := RX4) (T := TX4) (N := 17) hx hb hts hin_X4 tyX4 tyX4_ok nmX4 hown hK hP hD hS 0 rfl rfl 15 (by decide) hl_55 (fun _ h9 => h9) rfl (by decide +kernel) rfl rfl (Nat.le_of_ble_eq_true rfl) dX4_rescale_60 (fun H locs hP hD hS => ?_)
        have hP : va_P D vwCl [(am, .inr (3, [.int (nI lim), .int (nI N.length), .ref qb, .ref qc, .ref qn, .int (nI nC), .ref kk, .ref kf, .ref kl, .ref kn, .ref ko, .ref kb, .int top, .int bef, .int ear, .int (nI (rs + 1)), .int rt])), (kf, .inl (ca 0, gcap 6000 gc, .inl cf)), (kn, .inl (ca 0, gcap 6000 gc, .inl ct)), (qn, .inl (ca 0, gcap 6000 gn, .inl nn)), (qc, .inl (ca 0, gcap 6000 gn, .inl nc2))] H := hP
        have hD : va_D A [(am, .inr (3, [.int (nI lim), .int (nI N.length), .ref qb, .ref qc, .ref qn, .int (nI nC), .ref kk, .ref kf, .ref kl, .ref kn, .ref ko, .ref kb, .int top, .int bef, .int ear, .int (nI (rs + 1)), .int rt])), (kf, .inl (ca 0, gcap 6000 gc, .inl cf)), (kn, .inl (ca 0, gcap 6000 gc, .inl ct)), (qn, .inl (ca 0, gcap 6000 gn, .inl nn)), (qc, .inl (ca 0, gcap 6000 gn, .inl nc2))] := hD
        have hF0 := List.eq_nil_of_length_eq_zero hF
        have hpost : ∀ j, j < N.length → nc2 j = nI (if (nd N j).1 = kx then ((nd N j).2.2 + 1) / 2 else (nd N j).2.2) := by
          intro j hj
          rw [hc2 j hj]
          by_cases e1 : (nd N j).1 = kx
          · by_cases e2 : j < t
            · rw [if_pos ⟨e1, e2⟩, if_pos e1]
            · exact absurd e1 (kF_nil hF0 (by omega) hj)
          · rw [if_neg (fun q => e1 q.1), if_neg e1]
        exact rw_vret (u := nc2) hx hb hr hlocks (hpost) (hP.sub [0, 1, 2, 3, 4] rfl) (hD.sub [0, 1, 2, 3, 4] (by decide) rfl) hS (Nat.le_refl _) (Nat.le_refl _) dX4_rescale_63
      · exact absurd (by decide) h1
    | succ z ih =>
      intro t x nc2 hF hx1 hc2 H locs hP hD hS ls hl
      obtain ⟨y, F, hyF⟩ := List.exists_cons_of_length_eq_add_one hF
      obtain ⟨j, rfl, h1, h2, h3, h4, h5, h6⟩ := nx_cons hx1 hyF
      have hzl : (kF N kx t).length ≤ N.length := kF_len N kx t
      have hv := hc2 j h2
      rw [if_neg (by omega)] at hv
      have hv2 := hcl j h2
      refine lv_iload_n hx hb dX4_rescale_12 rfl (lv_at hl 0 rfl) ?_
      refine lv_if_le (tgt := 53) hx hb dX4_rescale_13 (by decide) (fun h7 => ?_) (fun h7 => ?_)
      · exact absurd h7 (nI_nle (by omega) (by omega))
      · refine lv_aload_n hx hb dX4_rescale_16 rfl (lv_at hl 2 rfl) ?_
        refine lv_iload_n hx hb dX4_rescale_17 rfl (lv_at hl 1 rfl) ?_
        refine vp_callSi (va_Run.run (va_runV (As := [.int (nI j)]) (rest := []) ⟨hx, hb, hml, hown, hts⟩ (c_M_isNode_s l D ca am qb qc qn kk kf kl kn ko kb lim N.length nC top bef ear (nI rs) rt j (h2) (by omega)) (cwV 1 hts gX4_rescale_X4_isNode rfl rfl rfl (by decide +kernel) ⟨Nat.le_of_ble_eq_true rfl, Nat.le_of_ble_eq_true rfl⟩) ⟨roP_blind, va_recv hK hP (ci := 3) (q0 := 0) rfl rfl, roP_at hK hN (hP.sub [0] rfl)⟩ rfl rfl hl.1 rfl (lv_room (Nat.le_of_ble_eq_true rfl)) dX4_rescale_18 ⟨Nat.le_of_ble_eq_true rfl, Nat.le_of_ble_eq_true rfl⟩)) (fun r_1 hq => ?_)
        subst hq
        refine bb_eq (tgt := 53) hx hb dX4_rescale_21 (by decide) (fun h8 => ?_) (fun h8 => ?_)
        · exact absurd h8 (by decide)
        · refine lv_aload_n hx hb dX4_rescale_24 rfl (lv_at hl 2 rfl) ?_
          refine va_get (D := D) (ci := 3) (v := .ref qc) (C := RX4) (T := TX4) (N := 17) hx hb hts hin_X4 hown hK hP 0 rfl rfl 3 (by decide) hl_19 (fun _ h9 => h9) rfl dX4_rescale_25 ?_
          refine lv_iload_n hx hb dX4_rescale_28 rfl (lv_at hl 1 rfl) ?_
          refine lv_aload_n hx hb dX4_rescale_29 rfl (lv_at hl 2 rfl) ?_
          refine va_get (D := D) (ci := 3) (v := .ref qc) (C := RX4) (T := TX4) (N := 17) hx hb hts hin_X4 hown hK hP 0 rfl rfl 3 (by decide) hl_19 (fun _ h9 => h9) rfl dX4_rescale_30 ?_
          refine lv_iload_n hx hb dX4_rescale_33 rfl (lv_at hl 1 rfl) ?_
          refine ld_i hx hb hK hP 4 0 rfl rfl (j := j) (by omega) (by omega) dX4_rescale_34 ?_
          refine tp_i (y := nI (nd N j).2.2) (hv) ?_
          refine lv_iconst (v := nI 1) hx hb dX4_rescale_35 (by decide) ?_
          refine lv_iadd hx hb dX4_rescale_36 ?_
          refine tp_i (y := nI ((nd N j).2.2 + 1)) (nI_1 _) ?_
          refine lv_iconst (v := nI 2) hx hb dX4_rescale_37 (by decide) ?_
          refine lv_idiv hx hb dX4_rescale_38 (by decide) ?_
          refine tp_i (y := nI (((nd N j).2.2 + 1) / 2)) (pk_div (d := 2) (by omega) (by decide) (by decide)) ?_
          refine st_i hx hb hK hP hD hS 4 0 rfl rfl (j := j) (by omega) (by omega) dX4_rescale_39 (fun H locs hP hD hS => ?_)
          have hP : va_P D vwCl [(am, .inr (3, [.int (nI lim), .int (nI N.length), .ref qb, .ref qc, .ref qn, .int (nI nC), .ref kk, .ref kf, .ref kl, .ref kn, .ref ko, .ref kb, .int top, .int bef, .int ear, .int (nI rs), .int rt])), (kf, .inl (ca 0, gcap 6000 gc, .inl cf)), (kn, .inl (ca 0, gcap 6000 gc, .inl ct)), (qn, .inl (ca 0, gcap 6000 gn, .inl nn)), (qc, .inl (ca 0, gcap 6000 gn, .inl (upd nc2 j (nI (((nd N j).2.2 + 1) / 2)))))] H := hP
          have hD : va_D A [(am, .inr (3, [.int (nI lim), .int (nI N.length), .ref qb, .ref qc, .ref qn, .int (nI nC), .ref kk, .ref kf, .ref kl, .ref kn, .ref ko, .ref kb, .int top, .int bef, .int ear, .int (nI rs), .int rt])), (kf, .inl (ca 0, gcap 6000 gc, .inl cf)), (kn, .inl (ca 0, gcap 6000 gc, .inl ct)), (qn, .inl (ca 0, gcap 6000 gn, .inl nn)), (qc, .inl (ca 0, gcap 6000 gn, .inl (upd nc2 j (nI (((nd N j).2.2 + 1) / 2)))))] := hD
          refine lv_aload_n hx hb dX4_rescale_40 rfl (lv_at hl 2 rfl) ?_
          refine va_get (D := D) (ci := 3) (v := .ref qn) (C := RX4) (T := TX4) (N := 17) hx hb hts hin_X4 hown hK hP 0 rfl rfl 4 (by decide) hl_22 (fun _ h9 => h9) rfl dX4_rescale_41 ?_
          refine lv_iload_n hx hb dX4_rescale_44 rfl (lv_at hl 1 rfl) ?_
          refine ld_i hx hb hK hP 3 0 rfl rfl (j := j) (by omega) (by omega) dX4_rescale_45 ?_
          refine lv_istore_n (lv' := [(2, .int (nn j)), (3, .int (nI (z + 1))), (0, .ref am), (1, .int (nI i))]) hx hb dX4_rescale_46 rfl hl (by decide) rfl (fun ls hl => ?_)
          refine lv_iinc (v := nI z) (lv' := [(3, .int (nI z)), (2, .int (nn j)), (0, .ref am), (1, .int (nI i))]) hx hb dX4_rescale_47 hl (k := 1) rfl (pk_m1 z) (by decide) rfl (fun ls hl => ?_)
          refine lv_goto (tgt := 12) hx hb dX4_rescale_50 (by decide) ?_
          have hst : ∀ i2, i2 < N.length → upd nc2 j (nI (((nd N j).2.2 + 1) / 2)) i2 = nI (if (nd N i2).1 = kx ∧ i2 < j + 1 then ((nd N i2).2.2 + 1) / 2 else (nd N i2).2.2) := by
            intro i2 hi2
            by_cases e1 : i2 = j
            · subst e1
              rw [if_pos ⟨h4, by omega⟩]
              simp [upd]
            · rw [show upd nc2 j (nI (((nd N j).2.2 + 1) / 2)) i2 = nc2 i2 by simp [upd, e1], hc2 i2 hi2]
              by_cases e2 : (nd N i2).1 = kx
              · by_cases e3 : i2 < t
                · rw [if_pos ⟨e2, e3⟩, if_pos ⟨e2, by omega⟩]
                · by_cases e4 : i2 < j
                  · exact absurd e2 (h6 i2 (by omega) e4)
                  · rw [if_neg (by omega), if_neg (by omega)]
              · rw [if_neg (fun q => e2 q.1), if_neg (fun q => e2 q.1)]
          exact ih (j + 1) (nn j) _ (by rw [h5]; rw [hyF] at hF; exact Nat.succ.inj hF) (nx_key (hnx j h2) h4) hst H locs hP hD hS _ (lv_sub hl [0, 1, 2, 3] rfl)
  refine lv_aload_n hx hb dX4_rescale_0 rfl (lv_at hl 0 rfl) ?_
  refine lv_iload_n hx hb dX4_rescale_1 rfl (lv_at hl 1 rfl) ?_
  refine vp_callSi (va_Run.run (va_runV (As := [.int (nI i)]) (rest := []) ⟨hx, hb, hml, hown, hts⟩ (c_M_firstNode_s l D ca am qb qc qn kk kf kl kn ko kb lim N.length nC top bef ear (nI rs) rt i gc cf (hi) (hiC)) (cwV 1 hts gX4_rescale_X4_firstNode rfl rfl rfl (by decide +kernel) ⟨Nat.le_of_ble_eq_true rfl, Nat.le_of_ble_eq_true rfl⟩) ⟨roP_blind, va_recv hK hP (ci := 3) (q0 := 0) rfl rfl, roP_at hK hN (hP.sub [0, 1] rfl)⟩ rfl rfl hl.1 rfl (lv_room (Nat.le_of_ble_eq_true rfl)) dX4_rescale_2 ⟨Nat.le_of_ble_eq_true rfl, Nat.le_of_ble_eq_true rfl⟩)) (fun r_2 hq => ?_)
  subst hq
  refine lv_istore_n (lv' := [(2, .int (cf i)), (0, .ref am), (1, .int (nI i))]) hx hb dX4_rescale_5 rfl hl (by decide) rfl (fun ls hl => ?_)
  refine lv_aload_n hx hb dX4_rescale_6 rfl (lv_at hl 1 rfl) ?_
  refine lv_iload_n hx hb dX4_rescale_7 rfl (lv_at hl 2 rfl) ?_
  refine vp_callSi (va_Run.run (va_runV (As := [.int (nI i)]) (rest := []) ⟨hx, hb, hml, hown, hts⟩ (c_M_nodesIn_s l D ca am qb qc qn kk kf kl kn ko kb lim N.length nC top bef ear (nI rs) rt i gc ct (hi) (hiC)) (cwV 1 hts gX4_rescale_X4_nodesIn rfl rfl rfl (by decide +kernel) ⟨Nat.le_of_ble_eq_true rfl, Nat.le_of_ble_eq_true rfl⟩) ⟨roP_blind, va_recv hK hP (ci := 3) (q0 := 0) rfl rfl, roP_at hK hN (hP.sub [0, 2] rfl)⟩ rfl rfl hl.1 rfl (lv_room (Nat.le_of_ble_eq_true rfl)) dX4_rescale_8 ⟨Nat.le_of_ble_eq_true rfl, Nat.le_of_ble_eq_true rfl⟩)) (fun r_3 hq => ?_)
  rw [hct] at hq
  subst hq
  refine lv_istore_n (lv' := [(3, .int (nI (kF N kx 0).length)), (2, .int (cf i)), (0, .ref am), (1, .int (nI i))]) hx hb dX4_rescale_11 rfl hl (by decide) rfl (fun ls hl => ?_)
  exact hlo _ 0 (cf i) nc rfl hcf (fun j hj => by rw [if_neg (by omega)]; exact hnc j hj) s.heap [] hP hD hS _ (lv_sub hl [0, 1, 2, 3] rfl)

set_option maxHeartbeats 4000000 in
set_option maxRecDepth 100000 in
theorem c_M_dropAll (l : Launch) (D : va_G) (ca : Nat → ClassId) (am : Nat) (qb : Nat) (qc : Nat) (qn : Nat) (kk : Nat) (kf : Nat) (kl : Nat) (kn : Nat) (ko : Nat) (kb : Nat) (lim : Nat) (nN : Nat) (top : Int32) (bef : Int32) (ear : Int32) (rs : Int32) (rt : Int32) (nN0 : Nat) (gc : Nat) (ck : Nat → Int32) (bk : Nat → Int32) (K : List Nat) (hck : ∀ d, d < K.length → ck d = nI (K.getD d 0) ∧ K.getD d 0 < 131072) (hbk : ∀ h, h < 256 → isPv (fun t => bkt (K.getD t 0) = h) K.length (bk h)) (hKc : K.length ≤ gcap 6000 gc) (sz : Nat) : Met l yX4_dropAll wsX4_dropAll { frames := 1, cells := 0, slots := 0, locals := 20 } (rwP D vwCl (ATy ca) [(am, .inr (3, [.int (nI lim), .int (nI nN0), .ref qb, .ref qc, .ref qn, .int (nI K.length), .ref kk, .ref kf, .ref kl, .ref kn, .ref ko, .ref kb, .int top, .int bef, .int ear, .int rs, .int rt])), (kk, .inl (ca 0, gcap 6000 gc, .inl ck)), (kb, .inl (ca 0, 256, .inl bk))] sz [.ref am]) (va_Qv (fun (u : (Nat → Int32)) => ∀ h, h < 256 → u h = -1) (bB D vwCl (fun (u : (Nat → Int32)) => [(am, .inr (3, [.int (nI lim), .int (nI 0), .ref qb, .ref qc, .ref qn, .int (nI 0), .ref kk, .ref kf, .ref kl, .ref kn, .ref ko, .ref kb, .int top, .int bef, .int ear, .int rs, .int rt])), (kk, .inl (ca 0, gcap 6000 gc, .inl ck)), (kb, .inl (ca 0, 256, .inl u))]) (va_A [(am, .inr (3, [.int (nI lim), .int (nI nN0), .ref qb, .ref qc, .ref qn, .int (nI K.length), .ref kk, .ref kf, .ref kl, .ref kn, .ref ko, .ref kb, .int top, .int bef, .int ear, .int rs, .int rt])), (kk, .inl (ca 0, gcap 6000 gc, .inl ck)), (kb, .inl (ca 0, 256, .inl bk))] sz)) (va_A [(am, .inr (3, [.int (nI lim), .int (nI nN0), .ref qb, .ref qc, .ref qn, .int (nI K.length), .ref kk, .ref kf, .ref kl, .ref kn, .ref ko, .ref kb, .int top, .int bef, .int ear, .int rs, .int rt])), (kk, .inl (ca 0, gcap 6000 gc, .inl ck)), (kb, .inl (ca 0, 256, .inl bk))] sz)) 0 0 (va_A [(am, .inr (3, [.int (nI lim), .int (nI nN0), .ref qb, .ref qc, .ref qn, .int (nI K.length), .ref kk, .ref kf, .ref kl, .ref kn, .ref ko, .ref kb, .int top, .int bef, .int ear, .int rs, .int rt])), (kk, .inl (ca 0, gcap 6000 gc, .inl ck)), (kb, .inl (ca 0, 256, .inl bk))] sz) := by
  refine rw_enter (Q := fun A => va_Qv (fun (u : (Nat → Int32)) => ∀ h, h < 256 → u h = -1) (bB D vwCl (fun (u : (Nat → Int32)) => [(am, .inr (3, [.int (nI lim), .int (nI 0), .ref qb, .ref qc, .ref qn, .int (nI 0), .ref kk, .ref kf, .ref kl, .ref kn, .ref ko, .ref kb, .int top, .int bef, .int ear, .int rs, .int rt])), (kk, .inl (ca 0, gcap 6000 gc, .inl ck)), (kb, .inl (ca 0, 256, .inl u))]) A) A) (by decide) rfl (Nat.le_of_ble_eq_true rfl) ?_
  intro p e s m below meth c ls A C hnm hK hN hP hD hA hl
  have hS : va_S A s.heap s.heap [] := va_S.rf
  obtain ⟨hx, hb, hr, hml, hown, hlocks, hts⟩ := C
  have hl : lv_has ls 2 [(0, .ref am)] := hl
  have hin_X4 : ∀ w ∈ wsX40, w ∈ wsX4_dropAll := by decide +kernel
  have hl_64 := hts (.fieldLink RX4 64 "EscapeCoder$Model" "contexts" "I") (by decide +kernel)
  have hl_61 := hts (.fieldLink RX4 61 "EscapeCoder$Model" "nodes" "I") (by decide +kernel)
  have hl_40 := hts (.fieldLink RX4 40 "EscapeCoder$Model" "bucketNewest" "[I") (by decide +kernel)
  have hl_25 := hts (.fieldLink RX4 25 "EscapeCoder$Model" "contextKey" "[I") (by decide +kernel)
  have hg := gcap_le 6000 gc
  refine lv_iconst (v := nI 0) hx hb dX4_dropAll_0 (by decide) ?_
  refine lv_istore_n (lv' := [(1, .int (nI 0)), (0, .ref am)]) hx hb dX4_dropAll_1 rfl hl (by decide) rfl (fun ls hl => ?_)
  have hlo : ∀ (z : Nat) (i : Nat) (bk2 : Nat → Int32), (i + z = K.length) → (∀ h, h < 256 → bk2 h = -1 ∨ (bk2 h = bk h ∧ ∀ d, d < i → ¬ bkt (K.getD d 0) = h)) → ∀ (H : Heap) (locs : List Loc), va_P D vwCl [(am, .inr (3, [.int (nI lim), .int (nI nN0), .ref qb, .ref qc, .ref qn, .int (nI K.length), .ref kk, .ref kf, .ref kl, .ref kn, .ref ko, .ref kb, .int top, .int bef, .int ear, .int rs, .int rt])), (kk, .inl (ca 0, gcap 6000 gc, .inl ck)), (kb, .inl (ca 0, 256, .inl bk2))] H → va_D A [(am, .inr (3, [.int (nI lim), .int (nI nN0), .ref qb, .ref qc, .ref qn, .int (nI K.length), .ref kk, .ref kf, .ref kl, .ref kn, .ref ko, .ref kb, .int top, .int bef, .int ear, .int rs, .int rt])), (kk, .inl (ca 0, gcap 6000 gc, .inl ck)), (kb, .inl (ca 0, 256, .inl bk2))] → va_S A s.heap H locs → ∀ (ls : Array Slot), lv_has ls 2 [(1, .int (nI i)), (0, .ref am)] → W p l e ({ frames := 1, cells := 0, slots := 0, locals := 20 } : Room) s m ([.ref am] : List Value).toArray below meth c H locs 0 0 (MQ below (va_Qv (fun (u : (Nat → Int32)) => ∀ h, h < 256 → u h = -1) (bB D vwCl (fun (u : (Nat → Int32)) => [(am, .inr (3, [.int (nI lim), .int (nI 0), .ref qb, .ref qc, .ref qn, .int (nI 0), .ref kk, .ref kf, .ref kl, .ref kn, .ref ko, .ref kb, .int top, .int bef, .int ear, .int rs, .int rt])), (kk, .inl (ca 0, gcap 6000 gc, .inl ck)), (kb, .inl (ca 0, 256, .inl u))]) A) A) ([.ref am] : List Value).toArray s 0 0 A) (F0 m 2 ls []) := by
    intro z
    induction z with
    | zero =>
      intro i bk2 hiz hb2 H locs hP hD hS ls hl
      refine lv_iload_n hx hb dX4_dropAll_2 rfl (lv_at hl 0 rfl) ?_
      refine lv_aload_n hx hb dX4_dropAll_3 rfl (lv_at hl 1 rfl) ?_
      refine va_get (D := D) (ci := 3) (v := .int (nI K.length)) (C := RX4) (T := TX4) (N := 17) hx hb hts hin_X4 hown hK hP 0 rfl rfl 5 (by decide) hl_64 (fun _ h9 => h9) rfl dX4_dropAll_4 ?_
      refine bn_ge (tgt := 31) hx hb dX4_dropAll_7 (by decide) (by omega) (by omega) (fun h1 => ?_) (fun h1 => ?_)
      · refine lv_aload_n hx hb dX4_dropAll_31 rfl (lv_at hl 1 rfl) ?_
        refine lv_iconst (v := nI 0) hx hb dX4_dropAll_32 (by decide) ?_
        refine va_put (D := D) (ci := 3) (v := .int (nI 0)) (ty := .int) (C := RX4) (T := TX4) (N := 17) hx hb hts hin_X4 tyX4 tyX4_ok nmX4 hown hK hP hD hS 0 rfl rfl 5 (by decide) hl_64 (fun _ h9 => h9) rfl (by decide +kernel) rfl rfl (Nat.le_of_ble_eq_true rfl) dX4_dropAll_33 (fun H locs hP hD hS => ?_)
        have hP : va_P D vwCl [(am, .inr (3, [.int (nI lim), .int (nI nN0), .ref qb, .ref qc, .ref qn, .int (nI 0), .ref kk, .ref kf, .ref kl, .ref kn, .ref ko, .ref kb, .int top, .int bef, .int ear, .int rs, .int rt])), (kk, .inl (ca 0, gcap 6000 gc, .inl ck)), (kb, .inl (ca 0, 256, .inl bk2))] H := hP
        have hD : va_D A [(am, .inr (3, [.int (nI lim), .int (nI nN0), .ref qb, .ref qc, .ref qn, .int (nI 0), .ref kk, .ref kf, .ref kl, .ref kn, .ref ko, .ref kb, .int top, .int bef, .int ear, .int rs, .int rt])), (kk, .inl (ca 0, gcap 6000 gc, .inl ck)), (kb, .inl (ca 0, 256, .inl bk2))] := hD
        refine lv_aload_n hx hb dX4_dropAll_36 rfl (lv_at hl 1 rfl) ?_
        refine lv_iconst (v := nI 0) hx hb dX4_dropAll_37 (by decide) ?_
        refine va_put (D := D) (ci := 3) (v := .int (nI 0)) (ty := .int) (C := RX4) (T := TX4) (N := 17) hx hb hts hin_X4 tyX4 tyX4_ok nmX4 hown hK hP hD hS 0 rfl rfl 1 (by decide) hl_61 (fun _ h9 => h9) rfl (by decide +kernel) rfl rfl (Nat.le_of_ble_eq_true rfl) dX4_dropAll_38 (fun H locs hP hD hS => ?_)
        have hP : va_P D vwCl [(am, .inr (3, [.int (nI lim), .int (nI 0), .ref qb, .ref qc, .ref qn, .int (nI 0), .ref kk, .ref kf, .ref kl, .ref kn, .ref ko, .ref kb, .int top, .int bef, .int ear, .int rs, .int rt])), (kk, .inl (ca 0, gcap 6000 gc, .inl ck)), (kb, .inl (ca 0, 256, .inl bk2))] H := hP
        have hD : va_D A [(am, .inr (3, [.int (nI lim), .int (nI 0), .ref qb, .ref qc, .ref qn, .int (nI 0), .ref kk, .ref kf, .ref kl, .ref kn, .ref ko, .ref kb, .int top, .int bef, .int ear, .int rs, .int rt])), (kk, .inl (ca 0, gcap 6000 gc, .inl ck)), (kb, .inl (ca 0, 256, .inl bk2))] := hD
        have hpost : ∀ h, h < 256 → bk2 h = -1 := by
          intro h hh
          rcases hb2 h hh with q | ⟨q1, q2⟩
          · exact q
          · rcases hbk h hh with ⟨q3, q4⟩ | ⟨d, q3, q4, q5, q6⟩
            · rw [q1, q3]
            · exact absurd q5 (q2 d (by omega))
        exact rw_vret (u := bk2) hx hb hr hlocks (hpost) (hP.sub [0, 1, 2] rfl) (hD.sub [0, 1, 2] (by decide) rfl) hS (Nat.le_refl _) (Nat.le_refl _) dX4_dropAll_41
      · exact absurd h1 (by omega)
    | succ z ih =>
      intro i bk2 hiz hb2 H locs hP hD hS ls hl
      refine lv_iload_n hx hb dX4_dropAll_2 rfl (lv_at hl 0 rfl) ?_
      refine lv_aload_n hx hb dX4_dropAll_3 rfl (lv_at hl 1 rfl) ?_
      refine va_get (D := D) (ci := 3) (v := .int (nI K.length)) (C := RX4) (T := TX4) (N := 17) hx hb hts hin_X4 hown hK hP 0 rfl rfl 5 (by decide) hl_64 (fun _ h9 => h9) rfl dX4_dropAll_4 ?_
      refine bn_ge (tgt := 31) hx hb dX4_dropAll_7 (by decide) (by omega) (by omega) (fun h1 => ?_) (fun h1 => ?_)
      · exact absurd h1 (by omega)
      · obtain ⟨e1, e2⟩ := hck i h1
        have hbl := bkt_lt (K.getD i 0)
        refine lv_aload_n hx hb dX4_dropAll_10 rfl (lv_at hl 1 rfl) ?_
        refine va_get (D := D) (ci := 3) (v := .ref kb) (C := RX4) (T := TX4) (N := 17) hx hb hts hin_X4 hown hK hP 0 rfl rfl 11 (by decide) hl_40 (fun _ h9 => h9) rfl dX4_dropAll_11 ?_
        refine lv_aload_n hx hb dX4_dropAll_14 rfl (lv_at hl 1 rfl) ?_
        refine va_get (D := D) (ci := 3) (v := .ref kk) (C := RX4) (T := TX4) (N := 17) hx hb hts hin_X4 hown hK hP 0 rfl rfl 6 (by decide) hl_25 (fun _ h9 => h9) rfl dX4_dropAll_15 ?_
        refine lv_iload_n hx hb dX4_dropAll_18 rfl (lv_at hl 0 rfl) ?_
        refine ld_i hx hb hK hP 1 0 rfl rfl (j := i) (by omega) (by omega) dX4_dropAll_19 ?_
        refine tp_i (y := nI (K.getD i 0)) (e1) ?_
        refine vp_callSi (va_Run.run (va_runS (As := [.int (nI (K.getD i 0))]) (rest := [.ref kb]) ⟨hx, hb, hml, hown, hts⟩ (c_bucketOf l D ca (K.getD i 0) (by omega)) (va_cwS 1 hts gX4_dropAll_X4_bucketOf rfl rfl rfl (by decide +kernel) ⟨Nat.le_of_ble_eq_true rfl, Nat.le_of_ble_eq_true rfl⟩) ⟨roP_blind, roP_at hK hN (hP.sub [] rfl)⟩ rfl rfl hl.1 rfl (lv_room (Nat.le_of_ble_eq_true rfl)) dX4_dropAll_20 ⟨Nat.le_of_ble_eq_true rfl, Nat.le_of_ble_eq_true rfl⟩)) (fun r_1 hq => ?_)
        subst hq
        refine lv_iconst (v := (-1)) hx hb dX4_dropAll_23 (by decide) ?_
        refine st_i hx hb hK hP hD hS 2 0 rfl rfl (j := (bkt (K.getD i 0))) (by omega) (by omega) dX4_dropAll_24 (fun H locs hP hD hS => ?_)
        have hP : va_P D vwCl [(am, .inr (3, [.int (nI lim), .int (nI nN0), .ref qb, .ref qc, .ref qn, .int (nI K.length), .ref kk, .ref kf, .ref kl, .ref kn, .ref ko, .ref kb, .int top, .int bef, .int ear, .int rs, .int rt])), (kk, .inl (ca 0, gcap 6000 gc, .inl ck)), (kb, .inl (ca 0, 256, .inl (upd bk2 (bkt (K.getD i 0)) (-1))))] H := hP
        have hD : va_D A [(am, .inr (3, [.int (nI lim), .int (nI nN0), .ref qb, .ref qc, .ref qn, .int (nI K.length), .ref kk, .ref kf, .ref kl, .ref kn, .ref ko, .ref kb, .int top, .int bef, .int ear, .int rs, .int rt])), (kk, .inl (ca 0, gcap 6000 gc, .inl ck)), (kb, .inl (ca 0, 256, .inl (upd bk2 (bkt (K.getD i 0)) (-1))))] := hD
        refine lv_iinc (v := nI (i + 1)) (lv' := [(1, .int (nI (i + 1))), (0, .ref am)]) hx hb dX4_dropAll_25 hl (k := 0) rfl (nI_1 _) (by decide) rfl (fun ls hl => ?_)
        refine lv_goto (tgt := 2) hx hb dX4_dropAll_28 (by decide) ?_
        have hst : ∀ h, h < 256 → upd bk2 (bkt (K.getD i 0)) (-1) h = -1 ∨ (upd bk2 (bkt (K.getD i 0)) (-1) h = bk h ∧ ∀ d, d < i + 1 → ¬ bkt (K.getD d 0) = h) := by
          intro h hh
          by_cases e3 : h = bkt (K.getD i 0)
          · left
            subst e3
            simp [upd]
          · rw [pk_un (f := bk2) (x := -1) e3]
            rcases hb2 h hh with q | ⟨q1, q2⟩
            · exact Or.inl q
            · refine Or.inr ⟨q1, fun d hd => ?_⟩
              by_cases e4 : d = i
              · subst e4
                exact fun q => e3 q.symm
              · exact q2 d (by omega)
        exact ih (i + 1) _ (by omega) hst H locs hP hD hS _ (lv_sub hl [0, 1] rfl)
  exact hlo K.length 0 bk (by omega) (fun h hh => Or.inr ⟨rfl, fun d hd => absurd hd (by omega)⟩) s.heap [] hP hD hS _ (lv_sub hl [0, 1] rfl)
