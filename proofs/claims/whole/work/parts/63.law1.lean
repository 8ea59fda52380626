set_option maxHeartbeats 8000000 in
set_option maxRecDepth 100000 in
theorem law_at {p : Program} {e : Env} {s : State} {m : MethodId} {below : List Frame} {meth : Method} {c : Code} (l : Launch) {b L : Nat} {xs : Nat → Int32} (hL : L ≤ 2560) (C0 : lw_At p s m meth c b L xs) (D : va_G) (ca : Nat → ClassId) (hK : va_K D vwCl (ATy ca) s) (i : Nat) (hi : i + 5 ≤ L) (next : LSt p l e s m below meth c b D ca 18 (i + 5)) : LSt p l e s m below meth c b D ca 278 i := by
  obtain ⟨hx, hb, hr, hml, hown, hts0, hX, hbl, hlocks, hgv⟩ := id C0
  have hts : ∀ w ∈ wsL_law, w.before #[Value.ref b] s = true := fun w h => hts0 w (wsL_law_in w h)
  have hown : s.vm.findClass RL = some m.cls := hown
  have hN : NW s := law_nw hts0
  have hA : ∀ q : Nat, s.heap.size ≤ q → AL s q := fun _ h => h
  have hbA : ¬ AL s b := Nat.not_le.mpr hbl
  unfold LSt
  intro ae tx ic ox as_ am at_ iw ir qt qi qu qs qb qc qn kk kf kl kn ko kb qo ql qm ra yt yc yo yk ys yn y0 y1 y2 y3 yz lim sh rs rt rg tn gt gi gu gs gn gc li lt ou Tx Cd Ox N st ft fi fu nb nc nn ck cf cl ct co bk os lv lz ut uc uo uk us un u0 u1 u2 u3 uz sf tpc bfc erc to svw svr tkn bef ear top rd_ fl nx ti rgw low rgr ahd ab hLI hLC hLR H locs hP hD hS ls hl
  obtain ⟨a1, a2, ⟨a3, a4, a5⟩, a6, ⟨b1, b2, b3, b4, b5, b6⟩, a7, a8, a9, a10⟩ := id hLI
  obtain ⟨⟨c1, c2⟩, ⟨c3, c4⟩, ⟨c5, c6⟩, ⟨c7, c8⟩, c9, c10⟩ := id hLC
  obtain ⟨d1, d2, d3, d4, d5⟩ := id hLR
  obtain ⟨-, -, -, hl6, -, hok⟩ := id c9
  have g1 := gcap_le 4000 gt
  have g2 := gcap_le 8000 gi
  have g3 := gcap_le 4000 gu
  have g4 := gcap_le 6000 gn
  refine lv_aload_n hx hb dL_law_278 rfl (lv_at hl 2 rfl) ?_
  refine lv_aload_n hx hb dL_law_279 rfl (lv_at hl 3 rfl) ?_
  refine lv_iload_n hx hb dL_law_280 rfl (lv_at hl 0 rfl) ?_
  refine lv_iconst (v := nI 1) hx hb dL_law_281 (by decide) ?_
  refine lv_iadd hx hb dL_law_282 ?_
  refine tp_i (y := nI (i + 1)) (nI_add _ _) ?_
  refine sl hx hb hX hbl hbA hS (j := i + 1) (by omega) hL dL_law_283 ?_
  refine lv_aload_n hx hb dL_law_284 rfl (lv_at hl 3 rfl) ?_
  refine lv_iload_n hx hb dL_law_285 rfl (lv_at hl 0 rfl) ?_
  refine lv_iconst (v := nI 2) hx hb dL_law_286 (by decide) ?_
  refine lv_iadd hx hb dL_law_287 ?_
  refine tp_i (y := nI (i + 2)) (nI_add _ _) ?_
  refine sl hx hb hX hbl hbA hS (j := i + 2) (by omega) hL dL_law_288 ?_
  refine vp_callSi (va_Run.run (va_runV (As := [.int (xs (i + 1)), .int (xs (i + 2))]) (rest := []) ⟨hx, hb, hml, hown, hts⟩ (c_E_at l D ca ae tx ic ox as_ am at_ iw ir sh rg qt gt ft Tx qi gi fi Cd qu gu fu Ox (xs (i + 1)) (xs (i + 2)) (c1) (c2) (c3) (c4) (c5) (c6)) (cwV 2 hts gL_law_X7_at rfl rfl rfl (by decide +kernel) ⟨Nat.le_of_ble_eq_true rfl, Nat.le_of_ble_eq_true rfl⟩) ⟨roP_blind, va_recv hK hP (ci := 6) (q0 := 0) rfl rfl, roP_at hK hN (hP.sub [0, 1, 2, 3, 4, 5, 6] rfl)⟩ rfl rfl hl.1 rfl (lv_room (Nat.le_of_ble_eq_true rfl)) dL_law_289 ⟨by show _ ≤ 600000; omega, by show _ ≤ 7302250; omega⟩)) (fun r_1 h1 => ?_)
  subst h1
  refine lv_aload_n hx hb dL_law_292 rfl (lv_at hl 1 rfl) ?_
  refine lv_aload_n hx hb dL_law_293 rfl (lv_at hl 3 rfl) ?_
  refine lv_iload_n hx hb dL_law_294 rfl (lv_at hl 0 rfl) ?_
  refine lv_iconst (v := nI 1) hx hb dL_law_295 (by decide) ?_
  refine lv_iadd hx hb dL_law_296 ?_
  refine tp_i (y := nI (i + 1)) (nI_add _ _) ?_
  refine sl hx hb hX hbl hbA hS (j := i + 1) (by omega) hL dL_law_297 ?_
  refine lv_aload_n hx hb dL_law_298 rfl (lv_at hl 3 rfl) ?_
  refine lv_iload_n hx hb dL_law_299 rfl (lv_at hl 0 rfl) ?_
  refine lv_iconst (v := nI 2) hx hb dL_law_300 (by decide) ?_
  refine lv_iadd hx hb dL_law_301 ?_
  refine tp_i (y := nI (i + 2)) (nI_add _ _) ?_
  refine sl hx hb hX hbl hbA hS (j := i + 2) (by omega) hL dL_law_302 ?_
  refine vp_callSi (va_Run.run (va_runV (As := [.int (xs (i + 1)), .int (xs (i + 2))]) (rest := [.int (atW Tx Cd Ox (xs (i + 1)) (xs (i + 2)))]) ⟨hx, hb, hml, hown, hts⟩ (c_x_at l D ca ra yt yc yo yk ys yn y0 y1 y2 y3 yz Tx Cd Ox N st lim sh rs rt rg bef ear top rd_ fl nx ti ab ut uc uo (xs (i + 1)) (xs (i + 2)) (d1) (by omega) (d2) (by omega) (d3) (by omega)) (cwV 2 hts gL_law_X8_at rfl rfl rfl (by decide +kernel) ⟨Nat.le_of_ble_eq_true rfl, Nat.le_of_ble_eq_true rfl⟩) ⟨roP_blind, va_recv hK hP (ci := 7) (q0 := 25) rfl rfl, roP_at hK hN (hP.sub [25, 26, 27, 28] rfl)⟩ rfl rfl hl.1 rfl (lv_room (Nat.le_of_ble_eq_true rfl)) dL_law_303 ⟨by show _ ≤ 600000; omega, by show _ ≤ 7302250; omega⟩)) (fun r_2 h2 => ?_)
  subst h2
  refine lv_icmp_eq (tgt := 497) hx hb dL_law_306 (by decide) (fun hcm => ?_) (fun hcm => ?_)
  · refine lv_iinc (v := nI (i + 5)) (lv' := [(3, .int (nI (i + 5))), (2, .ref ra), (1, .ref ae), (0, .ref b)]) hx hb dL_law_497 hl (k := 0) rfl (by rw [← nI_add]; rfl) (by decide) rfl (fun ls hl => ?_)
    refine lv_goto (tgt := 18) hx hb dL_law_500 (by decide) ?_
    exact next ae tx ic ox as_ am at_ iw ir qt qi qu qs qb qc qn kk kf kl kn ko kb qo ql qm ra yt yc yo yk ys yn y0 y1 y2 y3 yz lim sh rs rt rg tn gt gi gu gs gn gc li lt ou Tx Cd Ox N st ft fi fu nb nc nn ck cf cl ct co bk os lv lz ut uc uo uk us un u0 u1 u2 u3 uz sf tpc bfc erc to svw svr tkn bef ear top rd_ fl nx ti rgw low rgr ahd ab (LI_up hLI) (hLC) (hLR) _ _ (hP.sub [0, 1, 2, 3, 4, 5, 6, 7, 8, 9, 10, 11, 12, 13, 14, 15, 16, 17, 18, 19, 20, 21, 22, 23, 24, 25, 26, 27, 28, 29, 30, 31, 32, 33, 34, 35, 36] rfl) (hD.sub [0, 1, 2, 3, 4, 5, 6, 7, 8, 9, 10, 11, 12, 13, 14, 15, 16, 17, 18, 19, 20, 21, 22, 23, 24, 25, 26, 27, 28, 29, 30, 31, 32, 33, 34, 35, 36] (by decide) rfl) hS _ (lv_sub hl [0, 1, 2, 3] rfl)
  · exact absurd rfl hcm

set_option maxHeartbeats 8000000 in
set_option maxRecDepth 100000 in
theorem law_size {p : Program} {e : Env} {s : State} {m : MethodId} {below : List Frame} {meth : Method} {c : Code} (l : Launch) {b L : Nat} {xs : Nat → Int32} (hL : L ≤ 2560) (C0 : lw_At p s m meth c b L xs) (D : va_G) (ca : Nat → ClassId) (hK : va_K D vwCl (ATy ca) s) (i : Nat) (hi : i + 5 ≤ L) (next : LSt p l e s m below meth c b D ca 18 (i + 5)) : LSt p l e s m below meth c b D ca 311 i := by
  obtain ⟨hx, hb, hr, hml, hown, hts0, hX, hbl, hlocks, hgv⟩ := id C0
  have hts : ∀ w ∈ wsL_law, w.before #[Value.ref b] s = true := fun w h => hts0 w (wsL_law_in w h)
  have hown : s.vm.findClass RL = some m.cls := hown
  have hN : NW s := law_nw hts0
  have hA : ∀ q : Nat, s.heap.size ≤ q → AL s q := fun _ h => h
  have hbA : ¬ AL s b := Nat.not_le.mpr hbl
  unfold LSt
  intro ae tx ic ox as_ am at_ iw ir qt qi qu qs qb qc qn kk kf kl kn ko kb qo ql qm ra yt yc yo yk ys yn y0 y1 y2 y3 yz lim sh rs rt rg tn gt gi gu gs gn gc li lt ou Tx Cd Ox N st ft fi fu nb nc nn ck cf cl ct co bk os lv lz ut uc uo uk us un u0 u1 u2 u3 uz sf tpc bfc erc to svw svr tkn bef ear top rd_ fl nx ti rgw low rgr ahd ab hLI hLC hLR H locs hP hD hS ls hl
  obtain ⟨a1, a2, ⟨a3, a4, a5⟩, a6, ⟨b1, b2, b3, b4, b5, b6⟩, a7, a8, a9, a10⟩ := id hLI
  obtain ⟨⟨c1, c2⟩, ⟨c3, c4⟩, ⟨c5, c6⟩, ⟨c7, c8⟩, c9, c10⟩ := id hLC
  obtain ⟨d1, d2, d3, d4, d5⟩ := id hLR
  obtain ⟨-, -, -, hl6, -, hok⟩ := id c9
  have g1 := gcap_le 4000 gt
  have g2 := gcap_le 8000 gi
  have g3 := gcap_le 4000 gu
  have g4 := gcap_le 6000 gn
  refine lv_aload_n hx hb dL_law_311 rfl (lv_at hl 2 rfl) ?_
  refine lv_aload_n hx hb dL_law_312 rfl (lv_at hl 3 rfl) ?_
  refine lv_iload_n hx hb dL_law_313 rfl (lv_at hl 0 rfl) ?_
  refine lv_iconst (v := nI 1) hx hb dL_law_314 (by decide) ?_
  refine lv_iadd hx hb dL_law_315 ?_
  refine tp_i (y := nI (i + 1)) (nI_add _ _) ?_
  refine sl hx hb hX hbl hbA hS (j := i + 1) (by omega) hL dL_law_316 ?_
  refine vp_callSi (va_Run.run (va_runV (As := [.int (xs (i + 1))]) (rest := []) ⟨hx, hb, hml, hown, hts⟩ (c_E_size l D ca ae tx ic ox as_ am at_ iw ir sh rg qt gt ft Tx qi gi fi Cd qu gu fu Ox (xs (i + 1)) (c1) (c2) (c3) (c4) (c5) (c6)) (cwV 1 hts gL_law_X7_size rfl rfl rfl (by decide +kernel) ⟨Nat.le_of_ble_eq_true rfl, Nat.le_of_ble_eq_true rfl⟩) ⟨roP_blind, va_recv hK hP (ci := 6) (q0 := 0) rfl rfl, roP_at hK hN (hP.sub [0, 1, 2, 3, 4, 5, 6] rfl)⟩ rfl rfl hl.1 rfl (lv_room (Nat.le_of_ble_eq_true rfl)) dL_law_317 ⟨by show _ ≤ 600000; omega, by show _ ≤ 7302250; omega⟩)) (fun r_1 h1 => ?_)
  subst h1
  refine lv_aload_n hx hb dL_law_320 rfl (lv_at hl 1 rfl) ?_
  refine lv_aload_n hx hb dL_law_321 rfl (lv_at hl 3 rfl) ?_
  refine lv_iload_n hx hb dL_law_322 rfl (lv_at hl 0 rfl) ?_
  refine lv_iconst (v := nI 1) hx hb dL_law_323 (by decide) ?_
  refine lv_iadd hx hb dL_law_324 ?_
  refine tp_i (y := nI (i + 1)) (nI_add _ _) ?_
  refine sl hx hb hX hbl hbA hS (j := i + 1) (by omega) hL dL_law_325 ?_
  refine vp_callSi (va_Run.run (va_runV (As := [.int (xs (i + 1))]) (rest := [.int (szW Tx Cd Ox (xs (i + 1)))]) ⟨hx, hb, hml, hown, hts⟩ (c_x_size l D ca ra yt yc yo yk ys yn y0 y1 y2 y3 yz Tx Cd Ox N st lim sh rs rt rg bef ear top rd_ fl nx ti ab (xs (i + 1)) ) (cwV 1 hts gL_law_X8_size rfl rfl rfl (by decide +kernel) ⟨Nat.le_of_ble_eq_true rfl, Nat.le_of_ble_eq_true rfl⟩) ⟨roP_blind, va_recv hK hP (ci := 7) (q0 := 25) rfl rfl, roP_at hK hN (hP.sub [25] rfl)⟩ rfl rfl hl.1 rfl (lv_room (Nat.le_of_ble_eq_true rfl)) dL_law_326 ⟨by show _ ≤ 600000; omega, by show _ ≤ 7302250; omega⟩)) (fun r_2 h2 => ?_)
  subst h2
  refine lv_icmp_eq (tgt := 497) hx hb dL_law_329 (by decide) (fun hcm => ?_) (fun hcm => ?_)
  · refine lv_iinc (v := nI (i + 5)) (lv' := [(3, .int (nI (i + 5))), (2, .ref ra), (1, .ref ae), (0, .ref b)]) hx hb dL_law_497 hl (k := 0) rfl (by rw [← nI_add]; rfl) (by decide) rfl (fun ls hl => ?_)
    refine lv_goto (tgt := 18) hx hb dL_law_500 (by decide) ?_
    exact next ae tx ic ox as_ am at_ iw ir qt qi qu qs qb qc qn kk kf kl kn ko kb qo ql qm ra yt yc yo yk ys yn y0 y1 y2 y3 yz lim sh rs rt rg tn gt gi gu gs gn gc li lt ou Tx Cd Ox N st ft fi fu nb nc nn ck cf cl ct co bk os lv lz ut uc uo uk us un u0 u1 u2 u3 uz sf tpc bfc erc to svw svr tkn bef ear top rd_ fl nx ti rgw low rgr ahd ab (LI_up hLI) (hLC) (hLR) _ _ (hP.sub [0, 1, 2, 3, 4, 5, 6, 7, 8, 9, 10, 11, 12, 13, 14, 15, 16, 17, 18, 19, 20, 21, 22, 23, 24, 25, 26, 27, 28, 29, 30, 31, 32, 33, 34, 35, 36] rfl) (hD.sub [0, 1, 2, 3, 4, 5, 6, 7, 8, 9, 10, 11, 12, 13, 14, 15, 16, 17, 18, 19, 20, 21, 22, 23, 24, 25, 26, 27, 28, 29, 30, 31, 32, 33, 34, 35, 36] (by decide) rfl) hS _ (lv_sub hl [0, 1, 2, 3] rfl)
  · exact absurd rfl hcm

set_option maxHeartbeats 8000000 in
set_option maxRecDepth 100000 in
theorem law_step {p : Program} {e : Env} {s : State} {m : MethodId} {below : List Frame} {meth : Method} {c : Code} (l : Launch) {b L : Nat} {xs : Nat → Int32} (hL : L ≤ 2560) (C0 : lw_At p s m meth c b L xs) (D : va_G) (ca : Nat → ClassId) (hK : va_K D vwCl (ATy ca) s) (i : Nat) (hi : i + 5 ≤ L) (next : LSt p l e s m below meth c b D ca 18 (i + 5)) : LSt p l e s m below meth c b D ca 334 i := by
  obtain ⟨hx, hb, hr, hml, hown, hts0, hX, hbl, hlocks, hgv⟩ := id C0
  have hts : ∀ w ∈ wsL_law, w.before #[Value.ref b] s = true := fun w h => hts0 w (wsL_law_in w h)
  have hown : s.vm.findClass RL = some m.cls := hown
  have hN : NW s := law_nw hts0
  have hA : ∀ q : Nat, s.heap.size ≤ q → AL s q := fun _ h => h
  have hbA : ¬ AL s b := Nat.not_le.mpr hbl
  unfold LSt
  intro ae tx ic ox as_ am at_ iw ir qt qi qu qs qb qc qn kk kf kl kn ko kb qo ql qm ra yt yc yo yk ys yn y0 y1 y2 y3 yz lim sh rs rt rg tn gt gi gu gs gn gc li lt ou Tx Cd Ox N st ft fi fu nb nc nn ck cf cl ct co bk os lv lz ut uc uo uk us un u0 u1 u2 u3 uz sf tpc bfc erc to svw svr tkn bef ear top rd_ fl nx ti rgw low rgr ahd ab hLI hLC hLR H locs hP hD hS ls hl
  obtain ⟨a1, a2, ⟨a3, a4, a5⟩, a6, ⟨b1, b2, b3, b4, b5, b6⟩, a7, a8, a9, a10⟩ := id hLI
  obtain ⟨⟨c1, c2⟩, ⟨c3, c4⟩, ⟨c5, c6⟩, ⟨c7, c8⟩, c9, c10⟩ := id hLC
  obtain ⟨d1, d2, d3, d4, d5⟩ := id hLR
  obtain ⟨-, -, -, hl6, -, hok⟩ := id c9
  have g1 := gcap_le 4000 gt
  have g2 := gcap_le 8000 gi
  have g3 := gcap_le 4000 gu
  have g4 := gcap_le 6000 gn
  refine lv_aload_n hx hb dL_law_334 rfl (lv_at hl 2 rfl) ?_
  refine lv_aload_n hx hb dL_law_335 rfl (lv_at hl 3 rfl) ?_
  refine lv_iload_n hx hb dL_law_336 rfl (lv_at hl 0 rfl) ?_
  refine lv_iconst (v := nI 1) hx hb dL_law_337 (by decide) ?_
  refine lv_iadd hx hb dL_law_338 ?_
  refine tp_i (y := nI (i + 1)) (nI_add _ _) ?_
  refine sl hx hb hX hbl hbA hS (j := i + 1) (by omega) hL dL_law_339 ?_
  refine lv_aload_n hx hb dL_law_340 rfl (lv_at hl 3 rfl) ?_
  refine lv_iload_n hx hb dL_law_341 rfl (lv_at hl 0 rfl) ?_
  refine lv_iconst (v := nI 2) hx hb dL_law_342 (by decide) ?_
  refine lv_iadd hx hb dL_law_343 ?_
  refine tp_i (y := nI (i + 2)) (nI_add _ _) ?_
  refine sl hx hb hX hbl hbA hS (j := i + 2) (by omega) hL dL_law_344 ?_
  refine vp_callSi (va_Run.run (va_runV (As := [.int (xs (i + 1)), .int (xs (i + 2))]) (rest := []) ⟨hx, hb, hml, hown, hts⟩ (c_E_step l D ca ae tx ic ox as_ am at_ iw ir sh rg qs gs sf st (xs (i + 1)) (xs (i + 2)) (c7) (c8) (a9) (a10)) (cwV 2 hts gL_law_X7_step rfl rfl rfl (by decide +kernel) ⟨Nat.le_of_ble_eq_true rfl, Nat.le_of_ble_eq_true rfl⟩) ⟨roP_blind, va_recv hK hP (ci := 6) (q0 := 0) rfl rfl, roP_at hK hN (hP.sub [0, 7, 8] rfl)⟩ rfl rfl hl.1 rfl (lv_room (Nat.le_of_ble_eq_true rfl)) dL_law_345 ⟨by show _ ≤ 600000; omega, by show _ ≤ 7302250; omega⟩)) (fun r_1 h1 => ?_)
  subst h1
  refine lv_aload_n hx hb dL_law_348 rfl (lv_at hl 1 rfl) ?_
  refine lv_aload_n hx hb dL_law_349 rfl (lv_at hl 3 rfl) ?_
  refine lv_iload_n hx hb dL_law_350 rfl (lv_at hl 0 rfl) ?_
  refine lv_iconst (v := nI 1) hx hb dL_law_351 (by decide) ?_
  refine lv_iadd hx hb dL_law_352 ?_
  refine tp_i (y := nI (i + 1)) (nI_add _ _) ?_
  refine sl hx hb hX hbl hbA hS (j := i + 1) (by omega) hL dL_law_353 ?_
  refine lv_aload_n hx hb dL_law_354 rfl (lv_at hl 3 rfl) ?_
  refine lv_iload_n hx hb dL_law_355 rfl (lv_at hl 0 rfl) ?_
  refine lv_iconst (v := nI 2) hx hb dL_law_356 (by decide) ?_
  refine lv_iadd hx hb dL_law_357 ?_
  refine tp_i (y := nI (i + 2)) (nI_add _ _) ?_
  refine sl hx hb hX hbl hbA hS (j := i + 2) (by omega) hL dL_law_358 ?_
  refine vp_callSi (va_Run.run (va_runV (As := [.int (xs (i + 1)), .int (xs (i + 2))]) (rest := [.int (stepI st (xs (i + 1)) (xs (i + 2)))]) ⟨hx, hb, hml, hown, hts⟩ (c_x_step l D ca ra yt yc yo yk ys yn y0 y1 y2 y3 yz Tx Cd Ox N st lim sh rs rt rg bef ear top rd_ fl nx ti ab u0 u1 u2 u3 (xs (i + 1)) (xs (i + 2)) (d5) (a9) (a10)) (cwV 2 hts gL_law_X8_step rfl rfl rfl (by decide +kernel) ⟨Nat.le_of_ble_eq_true rfl, Nat.le_of_ble_eq_true rfl⟩) ⟨roP_blind, va_recv hK hP (ci := 7) (q0 := 25) rfl rfl, roP_at hK hN (hP.sub [25, 32, 33, 34, 35] rfl)⟩ rfl rfl hl.1 rfl (lv_room (Nat.le_of_ble_eq_true rfl)) dL_law_359 ⟨by show _ ≤ 600000; omega, by show _ ≤ 7302250; omega⟩)) (fun r_2 h2 => ?_)
  subst h2
  refine lv_icmp_eq (tgt := 497) hx hb dL_law_362 (by decide) (fun hcm => ?_) (fun hcm => ?_)
  · refine lv_iinc (v := nI (i + 5)) (lv' := [(3, .int (nI (i + 5))), (2, .ref ra), (1, .ref ae), (0, .ref b)]) hx hb dL_law_497 hl (k := 0) rfl (by rw [← nI_add]; rfl) (by decide) rfl (fun ls hl => ?_)
    refine lv_goto (tgt := 18) hx hb dL_law_500 (by decide) ?_
    exact next ae tx ic ox as_ am at_ iw ir qt qi qu qs qb qc qn kk kf kl kn ko kb qo ql qm ra yt yc yo yk ys yn y0 y1 y2 y3 yz lim sh rs rt rg tn gt gi gu gs gn gc li lt ou Tx Cd Ox N st ft fi fu nb nc nn ck cf cl ct co bk os lv lz ut uc uo uk us un u0 u1 u2 u3 uz sf tpc bfc erc to svw svr tkn bef ear top rd_ fl nx ti rgw low rgr ahd ab (LI_up hLI) (hLC) (hLR) _ _ (hP.sub [0, 1, 2, 3, 4, 5, 6, 7, 8, 9, 10, 11, 12, 13, 14, 15, 16, 17, 18, 19, 20, 21, 22, 23, 24, 25, 26, 27, 28, 29, 30, 31, 32, 33, 34, 35, 36] rfl) (hD.sub [0, 1, 2, 3, 4, 5, 6, 7, 8, 9, 10, 11, 12, 13, 14, 15, 16, 17, 18, 19, 20, 21, 22, 23, 24, 25, 26, 27, 28, 29, 30, 31, 32, 33, 34, 35, 36] (by decide) rfl) hS _ (lv_sub hl [0, 1, 2, 3] rfl)
  · exact absurd rfl hcm
