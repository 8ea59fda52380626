set_option maxHeartbeats 8000000 in
set_option maxRecDepth 100000 in
theorem law_count {p : Program} {e : Env} {s : State} {m : MethodId} {below : List Frame} {meth : Method} {c : Code} (l : Launch) {b L : Nat} {xs : Nat → Int32} (hL : L ≤ 2560) (C0 : lw_At p s m meth c b L xs) (D : va_G) (ca : Nat → ClassId) (hK : va_K D vwCl (ATy ca) s) (i : Nat) (hi : i + 5 ≤ L) (next : LSt p l e s m below meth c b D ca 18 (i + 5)) : LSt p l e s m below meth c b D ca 367 i := by
  obtain ⟨hx, hb, hr, hml, hown, hts0, hX, hbl, hlocks, hgv⟩ := id C0
  have hts : ∀ w ∈ wsL_law, w.before #[Value.ref b] s = true := fun w h => hts0 w (wsL_law_in w h)
  have hown : s.vm.findClass RL = some m.cls := hown
  have hN : NW s := law_nw hts0
  have hA : ∀ q : Nat, s.heap.size ≤ q → AL s q := fun _ h => h
  have hbA : ¬ AL s b := Nat.not_le.mpr hbl
  unfold LSt
  intro ae tx ic ox as_ am at_ iw ir qt qi qu qs qb qc qn kk kf kl kn ko kb qo ql qm ra yt yc yo yk ys yn y0 y1 y2 y3 yz lim sh rs rt rg tn gt gi gu gs gn gc li lt ou Tx Cd Ox N st ft fi fu nb nc nn ck cf cl ct co bk os lv lz ut uc uo uk us un u0 u1 u2 u3 uz sf tpc bfc erc to svw svr tkn bef ear top rd_ fl nx ti rgw low rgr ahd ab hLI hLC hLR H locs hP hD hS ls hl
  obtain ⟨a1, a2, ⟨a3, a4, a5⟩, a6, ⟨b1, b2, b3, b4, b5, b6⟩, a7, a8, a9, a10⟩ := id hLI
  obtain ⟨⟨c1, c2⟩, ⟨c3, c4⟩, ⟨c5, c6⟩, ⟨c7, c8⟩, c9, c10⟩ := id hLC
  obtain ⟨d1, d2, d3, d4, d5⟩ := id hLR
  obtain ⟨-, -, -, hl6, -, hok⟩ := id c9
  have g1 := gcap_le 4000 gt
  have g2 := gcap_le 8000 gi
  have g3 := gcap_le 4000 gu
  have g4 := gcap_le 6000 gn
  refine lv_aload_n hx hb dL_law_367 rfl (lv_at hl 2 rfl) ?_
  refine lv_aload_n hx hb dL_law_368 rfl (lv_at hl 3 rfl) ?_
  refine lv_iload_n hx hb dL_law_369 rfl (lv_at hl 0 rfl) ?_
  refine lv_iconst (v := nI 1) hx hb dL_law_370 (by decide) ?_
  refine lv_iadd hx hb dL_law_371 ?_
  refine tp_i (y := nI (i + 1)) (nI_add _ _) ?_
  refine sl hx hb hX hbl hbA hS (j := i + 1) (by omega) hL dL_law_372 ?_
  refine vp_callSl (va_Run.run (va_runV (As := [.int (xs (i + 1))]) (rest := []) ⟨hx, hb, hml, hown, hts⟩ (c_E_count l D ca ae tx ic ox as_ am at_ iw ir sh rg qs gs sf st qb qc qn kk kf kl kn ko kb lim rs rt tpc bfc erc N (xs (i + 1)) (⟨by omega, by omega, by omega, by omega⟩)) (cwV 1 hts gL_law_X7_count rfl rfl rfl (by decide +kernel) ⟨Nat.le_of_ble_eq_true rfl, Nat.le_of_ble_eq_true rfl⟩) ⟨roP_blind, va_recv hK hP (ci := 6) (q0 := 0) rfl rfl, roP_at hK hN (hP.sub [0, 7, 8, 9] rfl)⟩ rfl rfl hl.1 rfl (lv_room (Nat.le_of_ble_eq_true rfl)) dL_law_373 ⟨by show _ ≤ 600000; omega, by show _ ≤ 7302250; omega⟩)) (fun r_1 h1 => ?_)
  subst h1
  refine lv_aload_n hx hb dL_law_376 rfl (lv_at hl 1 rfl) ?_
  refine lv_aload_n hx hb dL_law_377 rfl (lv_at hl 3 rfl) ?_
  refine lv_iload_n hx hb dL_law_378 rfl (lv_at hl 0 rfl) ?_
  refine lv_iconst (v := nI 1) hx hb dL_law_379 (by decide) ?_
  refine lv_iadd hx hb dL_law_380 ?_
  refine tp_i (y := nI (i + 1)) (nI_add _ _) ?_
  refine sl hx hb hX hbl hbA hS (j := i + 1) (by omega) hL dL_law_381 ?_
  refine vp_callSl (va_Run.run (va_runV (As := [.int (xs (i + 1))]) (rest := [.long (cntW st sh rg N rs rt (xs (i + 1)))]) ⟨hx, hb, hml, hown, hts⟩ (c_x_count l D ca ra yt yc yo yk ys yn y0 y1 y2 y3 yz Tx Cd Ox N st lim sh rs rt rg bef ear top rd_ fl nx ti ab uk us un (xs (i + 1)) (d4) (hok) (by omega) (⟨by omega, by omega, by omega, by omega⟩)) (cwV 1 hts gL_law_X8_count rfl rfl rfl (by decide +kernel) ⟨Nat.le_of_ble_eq_true rfl, Nat.le_of_ble_eq_true rfl⟩) ⟨roP_blind, va_recv hK hP (ci := 7) (q0 := 25) rfl rfl, roP_at hK hN (hP.sub [25, 29, 30, 31] rfl)⟩ rfl rfl hl.1 rfl (lv_room (Nat.le_of_ble_eq_true rfl)) dL_law_382 ⟨by show _ ≤ 600000; omega, by show _ ≤ 7302250; omega⟩)) (fun r_2 h2 => ?_)
  subst h2
  refine W.lcmp hx hb dL_law_385 ?_
  refine tp_i (y := 0) (law_cmp _) ?_
  refine lv_if_eq (tgt := 497) hx hb dL_law_386 (by decide) (fun hcm => ?_) (fun hcm => ?_)
  · refine lv_iinc (v := nI (i + 5)) (lv' := [(3, .int (nI (i + 5))), (2, .ref ra), (1, .ref ae), (0, .ref b)]) hx hb dL_law_497 hl (k := 0) rfl (by rw [← nI_add]; rfl) (by decide) rfl (fun ls hl => ?_)
    refine lv_goto (tgt := 18) hx hb dL_law_500 (by decide) ?_
    exact next ae tx ic ox as_ am at_ iw ir qt qi qu qs qb qc qn kk kf kl kn ko kb qo ql qm ra yt yc yo yk ys yn y0 y1 y2 y3 yz lim sh rs rt rg tn gt gi gu gs gn gc li lt ou Tx Cd Ox N st ft fi fu nb nc nn ck cf cl ct co bk os lv lz ut uc uo uk us un u0 u1 u2 u3 uz sf tpc bfc erc to svw svr tkn bef ear top rd_ fl nx ti rgw low rgr ahd ab (LI_up hLI) (hLC) (hLR) _ _ (hP.sub [0, 1, 2, 3, 4, 5, 6, 7, 8, 9, 10, 11, 12, 13, 14, 15, 16, 17, 18, 19, 20, 21, 22, 23, 24, 25, 26, 27, 28, 29, 30, 31, 32, 33, 34, 35, 36] rfl) (hD.sub [0, 1, 2, 3, 4, 5, 6, 7, 8, 9, 10, 11, 12, 13, 14, 15, 16, 17, 18, 19, 20, 21, 22, 23, 24, 25, 26, 27, 28, 29, 30, 31, 32, 33, 34, 35, 36] (by decide) rfl) hS _ (lv_sub hl [0, 1, 2, 3] rfl)
  · exact absurd rfl hcm

set_option maxHeartbeats 8000000 in
set_option maxRecDepth 100000 in
theorem law_learnt {p : Program} {e : Env} {s : State} {m : MethodId} {below : List Frame} {meth : Method} {c : Code} (l : Launch) {b L : Nat} {xs : Nat → Int32} (hL : L ≤ 2560) (C0 : lw_At p s m meth c b L xs) (D : va_G) (ca : Nat → ClassId) (hK : va_K D vwCl (ATy ca) s) (i : Nat) (hi : i + 5 ≤ L) (next : LSt p l e s m below meth c b D ca 18 (i + 5)) : LSt p l e s m below meth c b D ca 391 i := by
  obtain ⟨hx, hb, hr, hml, hown, hts0, hX, hbl, hlocks, hgv⟩ := id C0
  have hts : ∀ w ∈ wsL_law, w.before #[Value.ref b] s = true := fun w h => hts0 w (wsL_law_in w h)
  have hown : s.vm.findClass RL = some m.cls := hown
  have hN : NW s := law_nw hts0
  have hA : ∀ q : Nat, s.heap.size ≤ q → AL s q := fun _ h => h
  have hbA : ¬ AL s b := Nat.not_le.mpr hbl
  unfold LSt
  intro ae tx ic ox as_ am at_ iw ir qt qi qu qs qb qc qn kk kf kl kn ko kb qo ql qm ra yt yc yo yk ys yn y0 y1 y2 y3 yz lim sh rs rt rg tn gt gi gu gs gn gc li lt ou Tx Cd Ox N st ft fi fu nb nc nn ck cf cl ct co bk os lv lz ut uc uo uk us un u0 u1 u2 u3 uz sf tpc bfc erc to svw svr tkn bef ear top rd_ fl nx ti rgw low rgr ahd ab hLI hLC hLR H locs hP hD hS ls hl
  obtain ⟨a1, a2, ⟨a3, a4, a5⟩, a6, ⟨b1, b2, b3, b4, b5, b6⟩, a7, a8, a9, a10⟩ := id hLI
  obtain ⟨⟨c1, c2⟩, ⟨c3, c4⟩, ⟨c5, c6⟩, ⟨c7, c8⟩, c9, c10⟩ := id hLC
  obtain ⟨d1, d2, d3, d4, d5⟩ := id hLR
  obtain ⟨-, -, -, hl6, -, hok⟩ := id c9
  have g1 := gcap_le 4000 gt
  have g2 := gcap_le 8000 gi
  have g3 := gcap_le 4000 gu
  have g4 := gcap_le 6000 gn
  refine lv_aload_n hx hb dL_law_391 rfl (lv_at hl 2 rfl) ?_
  refine lv_aload_n hx hb dL_law_392 rfl (lv_at hl 3 rfl) ?_
  refine lv_iload_n hx hb dL_law_393 rfl (lv_at hl 0 rfl) ?_
  refine lv_iconst (v := nI 1) hx hb dL_law_394 (by decide) ?_
  refine lv_iadd hx hb dL_law_395 ?_
  refine tp_i (y := nI (i + 1)) (nI_add _ _) ?_
  refine sl hx hb hX hbl hbA hS (j := i + 1) (by omega) hL dL_law_396 ?_
  refine lv_aload_n hx hb dL_law_397 rfl (lv_at hl 3 rfl) ?_
  refine lv_iload_n hx hb dL_law_398 rfl (lv_at hl 0 rfl) ?_
  refine lv_iconst (v := nI 2) hx hb dL_law_399 (by decide) ?_
  refine lv_iadd hx hb dL_law_400 ?_
  refine tp_i (y := nI (i + 2)) (nI_add _ _) ?_
  refine sl hx hb hX hbl hbA hS (j := i + 2) (by omega) hL dL_law_401 ?_
  refine lv_aload_n hx hb dL_law_402 rfl (lv_at hl 3 rfl) ?_
  refine lv_iload_n hx hb dL_law_403 rfl (lv_at hl 0 rfl) ?_
  refine lv_iconst (v := nI 3) hx hb dL_law_404 (by decide) ?_
  refine lv_iadd hx hb dL_law_405 ?_
  refine tp_i (y := nI (i + 3)) (nI_add _ _) ?_
  refine sl hx hb hX hbl hbA hS (j := i + 3) (by omega) hL dL_law_406 ?_
  refine lv_aload_n hx hb dL_law_407 rfl (lv_at hl 3 rfl) ?_
  refine lv_iload_n hx hb dL_law_408 rfl (lv_at hl 0 rfl) ?_
  refine lv_iconst (v := nI 4) hx hb dL_law_409 (by decide) ?_
  refine lv_iadd hx hb dL_law_410 ?_
  refine tp_i (y := nI (i + 4)) (nI_add _ _) ?_
  refine sl hx hb hX hbl hbA hS (j := i + 4) (by omega) hL dL_law_411 ?_
  refine vp_callSi (va_Run.run (va_runV (As := [.int (xs (i + 1)), .int (xs (i + 2)), .int (xs (i + 3)), .int (xs (i + 4))]) (rest := []) ⟨hx, hb, hml, hown, hts⟩ (c_E_learnt l D ca ae tx ic ox as_ am at_ iw ir sh rg qb qc qn kk kf kl kn ko kb lim rs rt gn gc tpc bfc erc nb nc nn ck cf cl ct co bk N (xs (i + 1)) (xs (i + 2)) (xs (i + 3)) (xs (i + 4)) (c9)) (cwV 4 hts gL_law_X7_learnt rfl rfl rfl (by decide +kernel) ⟨Nat.le_of_ble_eq_true rfl, Nat.le_of_ble_eq_true rfl⟩) ⟨roP_blind, va_recv hK hP (ci := 6) (q0 := 0) rfl rfl, roP_at hK hN (hP.sub [0, 9, 10, 11, 12, 13, 14, 15, 16, 17, 18] rfl)⟩ rfl rfl hl.1 rfl (lv_room (Nat.le_of_ble_eq_true rfl)) dL_law_412 ⟨by show _ ≤ 600000; omega, by show _ ≤ 7302250; omega⟩)) (fun r_1 h1 => ?_)
  subst h1
  refine lv_aload_n hx hb dL_law_415 rfl (lv_at hl 1 rfl) ?_
  refine lv_aload_n hx hb dL_law_416 rfl (lv_at hl 3 rfl) ?_
  refine lv_iload_n hx hb dL_law_417 rfl (lv_at hl 0 rfl) ?_
  refine lv_iconst (v := nI 1) hx hb dL_law_418 (by decide) ?_
  refine lv_iadd hx hb dL_law_419 ?_
  refine tp_i (y := nI (i + 1)) (nI_add _ _) ?_
  refine sl hx hb hX hbl hbA hS (j := i + 1) (by omega) hL dL_law_420 ?_
  refine lv_aload_n hx hb dL_law_421 rfl (lv_at hl 3 rfl) ?_
  refine lv_iload_n hx hb dL_law_422 rfl (lv_at hl 0 rfl) ?_
  refine lv_iconst (v := nI 2) hx hb dL_law_423 (by decide) ?_
  refine lv_iadd hx hb dL_law_424 ?_
  refine tp_i (y := nI (i + 2)) (nI_add _ _) ?_
  refine sl hx hb hX hbl hbA hS (j := i + 2) (by omega) hL dL_law_425 ?_
  refine lv_aload_n hx hb dL_law_426 rfl (lv_at hl 3 rfl) ?_
  refine lv_iload_n hx hb dL_law_427 rfl (lv_at hl 0 rfl) ?_
  refine lv_iconst (v := nI 3) hx hb dL_law_428 (by decide) ?_
  refine lv_iadd hx hb dL_law_429 ?_
  refine tp_i (y := nI (i + 3)) (nI_add _ _) ?_
  refine sl hx hb hX hbl hbA hS (j := i + 3) (by omega) hL dL_law_430 ?_
  refine lv_aload_n hx hb dL_law_431 rfl (lv_at hl 3 rfl) ?_
  refine lv_iload_n hx hb dL_law_432 rfl (lv_at hl 0 rfl) ?_
  refine lv_iconst (v := nI 4) hx hb dL_law_433 (by decide) ?_
  refine lv_iadd hx hb dL_law_434 ?_
  refine tp_i (y := nI (i + 4)) (nI_add _ _) ?_
  refine sl hx hb hX hbl hbA hS (j := i + 4) (by omega) hL dL_law_435 ?_
  refine vp_callSi (va_Run.run (va_runV (As := [.int (xs (i + 1)), .int (xs (i + 2)), .int (xs (i + 3)), .int (xs (i + 4))]) (rest := [.int (lrI N (xs (i + 1)) (xs (i + 2)) (xs (i + 3)) (xs (i + 4)))]) ⟨hx, hb, hml, hown, hts⟩ (c_x_learnt l D ca ra yt yc yo yk ys yn y0 y1 y2 y3 yz Tx Cd Ox N st lim sh rs rt rg bef ear top rd_ fl nx ti ab uk us un (xs (i + 1)) (xs (i + 2)) (xs (i + 3)) (xs (i + 4)) (d4) (hok) (by omega)) (cwV 4 hts gL_law_X8_learnt rfl rfl rfl (by decide +kernel) ⟨Nat.le_of_ble_eq_true rfl, Nat.le_of_ble_eq_true rfl⟩) ⟨roP_blind, va_recv hK hP (ci := 7) (q0 := 25) rfl rfl, roP_at hK hN (hP.sub [25, 29, 30, 31] rfl)⟩ rfl rfl hl.1 rfl (lv_room (Nat.le_of_ble_eq_true rfl)) dL_law_436 ⟨by show _ ≤ 600000; omega, by show _ ≤ 7302250; omega⟩)) (fun r_2 h2 => ?_)
  subst h2
  refine lv_icmp_eq (tgt := 497) hx hb dL_law_439 (by decide) (fun hcm => ?_) (fun hcm => ?_)
  · refine lv_iinc (v := nI (i + 5)) (lv' := [(3, .int (nI (i + 5))), (2, .ref ra), (1, .ref ae), (0, .ref b)]) hx hb dL_law_497 hl (k := 0) rfl (by rw [← nI_add]; rfl) (by decide) rfl (fun ls hl => ?_)
    refine lv_goto (tgt := 18) hx hb dL_law_500 (by decide) ?_
    exact next ae tx ic ox as_ am at_ iw ir qt qi qu qs qb qc qn kk kf kl kn ko kb qo ql qm ra yt yc yo yk ys yn y0 y1 y2 y3 yz lim sh rs rt rg tn gt gi gu gs gn gc li lt ou Tx Cd Ox N st ft fi fu nb nc nn ck cf cl ct co bk os lv lz ut uc uo uk us un u0 u1 u2 u3 uz sf tpc bfc erc to svw svr tkn bef ear top rd_ fl nx ti rgw low rgr ahd ab (LI_up hLI) (hLC) (hLR) _ _ (hP.sub [0, 1, 2, 3, 4, 5, 6, 7, 8, 9, 10, 11, 12, 13, 14, 15, 16, 17, 18, 19, 20, 21, 22, 23, 24, 25, 26, 27, 28, 29, 30, 31, 32, 33, 34, 35, 36] rfl) (hD.sub [0, 1, 2, 3, 4, 5, 6, 7, 8, 9, 10, 11, 12, 13, 14, 15, 16, 17, 18, 19, 20, 21, 22, 23, 24, 25, 26, 27, 28, 29, 30, 31, 32, 33, 34, 35, 36] (by decide) rfl) hS _ (lv_sub hl [0, 1, 2, 3] rfl)
  · exact absurd rfl hcm

set_option maxHeartbeats 8000000 in
set_option maxRecDepth 100000 in
theorem law_node {p : Program} {e : Env} {s : State} {m : MethodId} {below : List Frame} {meth : Method} {c : Code} (l : Launch) {b L : Nat} {xs : Nat → Int32} (hL : L ≤ 2560) (C0 : lw_At p s m meth c b L xs) (D : va_G) (ca : Nat → ClassId) (hK : va_K D vwCl (ATy ca) s) (i : Nat) (hi : i + 5 ≤ L) (next : LSt p l e s m below meth c b D ca 18 (i + 5)) : LSt p l e s m below meth c b D ca 444 i := by
  obtain ⟨hx, hb, hr, hml, hown, hts0, hX, hbl, hlocks, hgv⟩ := id C0
  have hts : ∀ w ∈ wsL_law, w.before #[Value.ref b] s = true := fun w h => hts0 w (wsL_law_in w h)
  have hown : s.vm.findClass RL = some m.cls := hown
  have hN : NW s := law_nw hts0
  have hA : ∀ q : Nat, s.heap.size ≤ q → AL s q := fun _ h => h
  have hbA : ¬ AL s b := Nat.not_le.mpr hbl
  unfold LSt
  intro ae tx ic ox as_ am at_ iw ir qt qi qu qs qb qc qn kk kf kl kn ko kb qo ql qm ra yt yc yo yk ys yn y0 y1 y2 y3 yz lim sh rs rt rg tn gt gi gu gs gn gc li lt ou Tx Cd Ox N st ft fi fu nb nc nn ck cf cl ct co bk os lv lz ut uc uo uk us un u0 u1 u2 u3 uz sf tpc bfc erc to svw svr tkn bef ear top rd_ fl nx ti rgw low rgr ahd ab hLI hLC hLR H locs hP hD hS ls hl
  obtain ⟨a1, a2, ⟨a3, a4, a5⟩, a6, ⟨b1, b2, b3, b4, b5, b6⟩, a7, a8, a9, a10⟩ := id hLI
  obtain ⟨⟨c1, c2⟩, ⟨c3, c4⟩, ⟨c5, c6⟩, ⟨c7, c8⟩, c9, c10⟩ := id hLC
  obtain ⟨d1, d2, d3, d4, d5⟩ := id hLR
  obtain ⟨-, -, -, hl6, -, hok⟩ := id c9
  have g1 := gcap_le 4000 gt
  have g2 := gcap_le 8000 gi
  have g3 := gcap_le 4000 gu
  have g4 := gcap_le 6000 gn
  refine lv_aload_n hx hb dL_law_444 rfl (lv_at hl 2 rfl) ?_
  refine lv_aload_n hx hb dL_law_445 rfl (lv_at hl 3 rfl) ?_
  refine lv_iload_n hx hb dL_law_446 rfl (lv_at hl 0 rfl) ?_
  refine lv_iconst (v := nI 1) hx hb dL_law_447 (by decide) ?_
  refine lv_iadd hx hb dL_law_448 ?_
  refine tp_i (y := nI (i + 1)) (nI_add _ _) ?_
  refine sl hx hb hX hbl hbA hS (j := i + 1) (by omega) hL dL_law_449 ?_
  refine lv_aload_n hx hb dL_law_450 rfl (lv_at hl 3 rfl) ?_
  refine lv_iload_n hx hb dL_law_451 rfl (lv_at hl 0 rfl) ?_
  refine lv_iconst (v := nI 2) hx hb dL_law_452 (by decide) ?_
  refine lv_iadd hx hb dL_law_453 ?_
  refine tp_i (y := nI (i + 2)) (nI_add _ _) ?_
  refine sl hx hb hX hbl hbA hS (j := i + 2) (by omega) hL dL_law_454 ?_
  refine lv_aload_n hx hb dL_law_455 rfl (lv_at hl 3 rfl) ?_
  refine lv_iload_n hx hb dL_law_456 rfl (lv_at hl 0 rfl) ?_
  refine lv_iconst (v := nI 3) hx hb dL_law_457 (by decide) ?_
  refine lv_iadd hx hb dL_law_458 ?_
  refine tp_i (y := nI (i + 3)) (nI_add _ _) ?_
  refine sl hx hb hX hbl hbA hS (j := i + 3) (by omega) hL dL_law_459 ?_
  refine lv_aload_n hx hb dL_law_460 rfl (lv_at hl 3 rfl) ?_
  refine lv_iload_n hx hb dL_law_461 rfl (lv_at hl 0 rfl) ?_
  refine lv_iconst (v := nI 4) hx hb dL_law_462 (by decide) ?_
  refine lv_iadd hx hb dL_law_463 ?_
  refine tp_i (y := nI (i + 4)) (nI_add _ _) ?_
  refine sl hx hb hX hbl hbA hS (j := i + 4) (by omega) hL dL_law_464 ?_
  refine vp_callSi (va_Run.run (va_runV (As := [.int (xs (i + 1)), .int (xs (i + 2)), .int (xs (i + 3)), .int (xs (i + 4))]) (rest := []) ⟨hx, hb, hml, hown, hts⟩ (c_E_node l D ca ae tx ic ox as_ am at_ iw ir sh rg qb qc qn kk kf kl kn ko kb lim rs rt gn gc tpc bfc erc nb nc nn ck cf cl ct co bk N (xs (i + 1)) (xs (i + 2)) (xs (i + 3)) (xs (i + 4)) (c9)) (cwV 4 hts gL_law_X7_node rfl rfl rfl (by decide +kernel) ⟨Nat.le_of_ble_eq_true rfl, Nat.le_of_ble_eq_true rfl⟩) ⟨roP_blind, va_recv hK hP (ci := 6) (q0 := 0) rfl rfl, roP_at hK hN (hP.sub [0, 9, 10, 11, 12, 13, 14, 15, 16, 17, 18] rfl)⟩ rfl rfl hl.1 rfl (lv_room (Nat.le_of_ble_eq_true rfl)) dL_law_465 ⟨by show _ ≤ 600000; omega, by show _ ≤ 7302250; omega⟩)) (fun r_1 h1 => ?_)
  subst h1
  refine lv_aload_n hx hb dL_law_468 rfl (lv_at hl 1 rfl) ?_
  refine lv_aload_n hx hb dL_law_469 rfl (lv_at hl 3 rfl) ?_
  refine lv_iload_n hx hb dL_law_470 rfl (lv_at hl 0 rfl) ?_
  refine lv_iconst (v := nI 1) hx hb dL_law_471 (by decide) ?_
  refine lv_iadd hx hb dL_law_472 ?_
  refine tp_i (y := nI (i + 1)) (nI_add _ _) ?_
  refine sl hx hb hX hbl hbA hS (j := i + 1) (by omega) hL dL_law_473 ?_
  refine lv_aload_n hx hb dL_law_474 rfl (lv_at hl 3 rfl) ?_
  refine lv_iload_n hx hb dL_law_475 rfl (lv_at hl 0 rfl) ?_
  refine lv_iconst (v := nI 2) hx hb dL_law_476 (by decide) ?_
  refine lv_iadd hx hb dL_law_477 ?_
  refine tp_i (y := nI (i + 2)) (nI_add _ _) ?_
  refine sl hx hb hX hbl hbA hS (j := i + 2) (by omega) hL dL_law_478 ?_
  refine lv_aload_n hx hb dL_law_479 rfl (lv_at hl 3 rfl) ?_
  refine lv_iload_n hx hb dL_law_480 rfl (lv_at hl 0 rfl) ?_
  refine lv_iconst (v := nI 3) hx hb dL_law_481 (by decide) ?_
  refine lv_iadd hx hb dL_law_482 ?_
  refine tp_i (y := nI (i + 3)) (nI_add _ _) ?_
  refine sl hx hb hX hbl hbA hS (j := i + 3) (by omega) hL dL_law_483 ?_
  refine lv_aload_n hx hb dL_law_484 rfl (lv_at hl 3 rfl) ?_
  refine lv_iload_n hx hb dL_law_485 rfl (lv_at hl 0 rfl) ?_
  refine lv_iconst (v := nI 4) hx hb dL_law_486 (by decide) ?_
  refine lv_iadd hx hb dL_law_487 ?_
  refine tp_i (y := nI (i + 4)) (nI_add _ _) ?_
  refine sl hx hb hX hbl hbA hS (j := i + 4) (by omega) hL dL_law_488 ?_
  refine vp_callSi (va_Run.run (va_runV (As := [.int (xs (i + 1)), .int (xs (i + 2)), .int (xs (i + 3)), .int (xs (i + 4))]) (rest := [.int (ndI N (xs (i + 1)) (xs (i + 2)) (xs (i + 3)) (xs (i + 4)))]) ⟨hx, hb, hml, hown, hts⟩ (c_x_node l D ca ra yt yc yo yk ys yn y0 y1 y2 y3 yz Tx Cd Ox N st lim sh rs rt rg bef ear top rd_ fl nx ti ab uk us un (xs (i + 1)) (xs (i + 2)) (xs (i + 3)) (xs (i + 4)) (d4) (hok) (by omega)) (cwV 4 hts gL_law_X8_node rfl rfl rfl (by decide +kernel) ⟨Nat.le_of_ble_eq_true rfl, Nat.le_of_ble_eq_true rfl⟩) ⟨roP_blind, va_recv hK hP (ci := 7) (q0 := 25) rfl rfl, roP_at hK hN (hP.sub [25, 29, 30, 31] rfl)⟩ rfl rfl hl.1 rfl (lv_room (Nat.le_of_ble_eq_true rfl)) dL_law_489 ⟨by show _ ≤ 600000; omega, by show _ ≤ 7302250; omega⟩)) (fun r_2 h2 => ?_)
  subst h2
  refine lv_icmp_eq (tgt := 497) hx hb dL_law_492 (by decide) (fun hcm => ?_) (fun hcm => ?_)
  · refine lv_iinc (v := nI (i + 5)) (lv' := [(3, .int (nI (i + 5))), (2, .ref ra), (1, .ref ae), (0, .ref b)]) hx hb dL_law_497 hl (k := 0) rfl (by rw [← nI_add]; rfl) (by decide) rfl (fun ls hl => ?_)
    refine lv_goto (tgt := 18) hx hb dL_law_500 (by decide) ?_
    exact next ae tx ic ox as_ am at_ iw ir qt qi qu qs qb qc qn kk kf kl kn ko kb qo ql qm ra yt yc yo yk ys yn y0 y1 y2 y3 yz lim sh rs rt rg tn gt gi gu gs gn gc li lt ou Tx Cd Ox N st ft fi fu nb nc nn ck cf cl ct co bk os lv lz ut uc uo uk us un u0 u1 u2 u3 uz sf tpc bfc erc to svw svr tkn bef ear top rd_ fl nx ti rgw low rgr ahd ab (LI_up hLI) (hLC) (hLR) _ _ (hP.sub [0, 1, 2, 3, 4, 5, 6, 7, 8, 9, 10, 11, 12, 13, 14, 15, 16, 17, 18, 19, 20, 21, 22, 23, 24, 25, 26, 27, 28, 29, 30, 31, 32, 33, 34, 35, 36] rfl) (hD.sub [0, 1, 2, 3, 4, 5, 6, 7, 8, 9, 10, 11, 12, 13, 14, 15, 16, 17, 18, 19, 20, 21, 22, 23, 24, 25, 26, 27, 28, 29, 30, 31, 32, 33, 34, 35, 36] (by decide) rfl) hS _ (lv_sub hl [0, 1, 2, 3] rfl)
  · exact absurd rfl hcm
