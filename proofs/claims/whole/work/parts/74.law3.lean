set_option maxHeartbeats 4000000 in
set_option maxRecDepth 100000 in
theorem cf_case_teach (l : Launch) (hl0 : l.stackTraces = false) {p : Program} {e : Env} {s : State} {m : MethodId} {below : List Frame} {meth : Method} {c : Code} {b L : Nat} {xs : Nat → Int32} (hL : L ≤ 2560) (C0 : lw_At p s m meth c b L xs) {D : va_G} {cT : Nat → ClassId} (hT : cf_Tb D cT s.heap.size s s.heap) {ad0 : cf_Ad} {i : Nat} (hi : i < L / 5) {H : Heap} {locs : List Loc} {ls : Array Slot} {u : cf_St} (hI : cf_LI D cT s b ad0 i H locs ls u) (ih : ∀ (H2 : Heap) (locs2 : List Loc) (ls2 : Array Slot) (u2 : cf_St), cf_LI D cT s b ad0 (i + 1) H2 locs2 ls2 u2 → W p l e room_1 s m #[Value.ref b] below meth c H2 locs2 (60 + (i + 1) * 4) (800 + (i + 1) * 24) (lw_Z below #[Value.ref b] s) (F0 m 23 ls2 [])) : W p l e room_1 s m #[Value.ref b] below meth c H locs (60 + i * 4) (800 + i * 24) (lw_Z below #[Value.ref b] s) (F0 m 356 ls []) := by
  obtain ⟨hx, hb, hr, hml, hown, hts0, hX, hbl, hlocks, hgv⟩ := id C0
  have hts : ∀ w ∈ wsL_law, w.before #[Value.ref b] s = true := fun w h => hts0 w (wsL_law_in w h)
  have hbA : ¬ s.heap.size ≤ b := Nat.not_le.mpr hbl
  obtain ⟨nc, ng, S, P, O, ad⟩ := u
  obtain ⟨hW, hS, hl, hR, hag⟩ := hI
  have hW : cf_W D s.heap.size (cf_E cT nc ng S P O ad) ad H := hW
  have hR : cf_R i nc ng S P := hR
  have hag : ∀ k, k = 5 ∨ k = 6 ∨ k = 17 ∨ k = 18 → ad k 0 = ad0 k 0 := hag
  have hl : lv_has ls 7 [(4, .int (nI (5 * i))), (3, .ref (ad 18 0)), (2, .ref (ad 6 0)), (1, .ref (ad 5 0)), (0, .ref b)] := by rw [hag 5 (by simp), hag 6 (by simp), hag 18 (by simp)]; exact hl
  refine lv_aload_n hx hb dL_law_356 rfl (lv_at hl 3 rfl) ?_
  refine lv_aload_n hx hb dL_law_357 rfl (lv_at hl 4 rfl) ?_
  refine lv_iload hx hb dL_law_358 (lv_at hl 0 rfl) ?_
  refine lv_iconst (v := 1) hx hb dL_law_360 (by decide) ?_
  refine lv_iadd hx hb dL_law_361 ?_
  refine cf_sld hx hb hX hbl hbA hS (5 * i + 1) (cf_5k 1) (by omega) (by omega) dL_law_362 ?_
  refine lv_aload_n hx hb dL_law_363 rfl (lv_at hl 4 rfl) ?_
  refine lv_iload hx hb dL_law_364 (lv_at hl 0 rfl) ?_
  refine lv_iconst (v := 2) hx hb dL_law_366 (by decide) ?_
  refine lv_iadd hx hb dL_law_367 ?_
  refine cf_sld hx hb hX hbl hbA hS (5 * i + 2) (cf_5k 2) (by omega) (by omega) dL_law_368 ?_
  refine lv_aload_n hx hb dL_law_369 rfl (lv_at hl 4 rfl) ?_
  refine lv_iload hx hb dL_law_370 (lv_at hl 0 rfl) ?_
  refine lv_iconst (v := 3) hx hb dL_law_372 (by decide) ?_
  refine lv_iadd hx hb dL_law_373 ?_
  refine cf_sld hx hb hX hbl hbA hS (5 * i + 3) (cf_5k 3) (by omega) (by omega) dL_law_374 ?_
  refine lv_if_eq (tgt := 382) hx hb dL_law_375 (by decide) (fun c375_1 => ?_) (fun c375_1 => ?_)
  · refine lv_iconst (v := 0) hx hb dL_law_382 (by decide) ?_
    refine lv_aload_n hx hb dL_law_383 rfl (lv_at hl 1 rfl) ?_
    refine vx_calli (vx_runSX (As := [.ref (ad 5 0), .int (xs (5 * i + 1)), .int (xs (5 * i + 2)), .int 0, .ref (ad 18 0)]) (rest := []) ⟨hx, hb, hml, hown, hts⟩ (c_L_teach l D cT s.heap.size ad nc ng S P O hl0 (xs (5 * i + 1)) (xs (5 * i + 2)) 0 (Or.inl rfl) hR.k10) (vx_cwSW 5 hts gL_law_L_teach rfl rfl rfl (by decide +kernel) ⟨Nat.le_of_ble_eq_true rfl, Nat.le_of_ble_eq_true rfl⟩) (cf_preS hT hS hW) rfl rfl hl.1 rfl (lv_room (Nat.le_of_ble_eq_true rfl)) dL_law_384 ⟨(by show _ ≤ 765407; omega), (by show _ ≤ 6799882; omega)⟩) hS (fun _ _ h => h) (fun _ h => h) (fun _ _ h => h) (fun E9 ce q9 u9 t9 H locs ht hvm hu hB hz1 hk1 hS hce hcv hcl => absurd hB.1 id) (fun k1 u1 t9 H locs ht hvm hw hW hz1 hk1 hS => ?_)
    have hW9 := cf_W.er ht hW
    have hpre := cf_pre_teach hR hw
    refine lv_istore (lv' := [(5, .int k1), (4, .int (nI (5 * i))), (3, .ref (ad 18 0)), (2, .ref (ad 6 0)), (1, .ref (ad 5 0)), (0, .ref b)]) hx hb dL_law_387 hl (by decide) rfl (fun ls hl => ?_)
    obtain ⟨hu1, hu2, hag2, hH⟩ := hpre
    obtain ⟨nc2, ng2, S2, P2, O2, ad2⟩ := u1
    have hu1 : nc2 = nc := hu1
    subst hu1
    have hu2 : ng2 = ng := hu2
    subst hu2
    have hW : cf_W D s.heap.size (cf_E cT nc2 ng2 S2 P2 O2 ad2) ad2 H := hW9
    have hag2 : ∀ k, k = 5 ∨ k = 6 ∨ k = 17 ∨ k = 18 → ad2 k 0 = ad k 0 := hag2
    have hH : cf_H nc2 ng2 S2 P2 P := hH
    have hl : lv_has ls 7 [(5, .int k1), (4, .int (nI (5 * i))), (3, .ref (ad2 18 0)), (2, .ref (ad2 6 0)), (1, .ref (ad2 5 0)), (0, .ref b)] := by rw [hag2 5 (by simp), hag2 6 (by simp), hag2 18 (by simp)]; exact hl
    have hag3 : ∀ k, k = 5 ∨ k = 6 ∨ k = 17 ∨ k = 18 → ad2 k 0 = ad0 k 0 := fun k hk => (hag2 k hk).trans (hag k hk)
    refine lv_aload_n hx hb dL_law_389 rfl (lv_at hl 3 rfl) ?_
    refine lv_aload_n hx hb dL_law_390 rfl (lv_at hl 5 rfl) ?_
    refine lv_iload hx hb dL_law_391 (lv_at hl 1 rfl) ?_
    refine lv_iconst (v := 1) hx hb dL_law_393 (by decide) ?_
    refine lv_iadd hx hb dL_law_394 ?_
    refine cf_sld hx hb hX hbl hbA hS (5 * i + 1) (cf_5k 1) (by omega) (by omega) dL_law_395 ?_
    refine lv_aload_n hx hb dL_law_396 rfl (lv_at hl 5 rfl) ?_
    refine lv_iload hx hb dL_law_397 (lv_at hl 1 rfl) ?_
    refine lv_iconst (v := 2) hx hb dL_law_399 (by decide) ?_
    refine lv_iadd hx hb dL_law_400 ?_
    refine cf_sld hx hb hX hbl hbA hS (5 * i + 2) (cf_5k 2) (by omega) (by omega) dL_law_401 ?_
    refine lv_aload_n hx hb dL_law_402 rfl (lv_at hl 5 rfl) ?_
    refine lv_iload hx hb dL_law_403 (lv_at hl 1 rfl) ?_
    refine lv_iconst (v := 3) hx hb dL_law_405 (by decide) ?_
    refine lv_iadd hx hb dL_law_406 ?_
    refine cf_sld hx hb hX hbl hbA hS (5 * i + 3) (cf_5k 3) (by omega) (by omega) dL_law_407 ?_
    refine lv_if_eq (tgt := 415) hx hb dL_law_408 (by decide) (fun c408_2 => ?_) (fun c408_2 => (by first | exact absurd c375_1 c408_2 | exact absurd c408_2 c375_1))
    refine lv_iconst (v := 0) hx hb dL_law_415 (by decide) ?_
    have hb9 : (0 : Int32) = 0 ∨ (0 : Int32) = 1 := Or.inl rfl
    refine va_calli (va_runV (As := [.int (xs (5 * i + 1)), .int (xs (5 * i + 2)), .int 0]) (rest := []) ⟨hx, hb, hml, hown, hts⟩ (c_X6_teach l D cT s.heap.size ad2 nc2 ng2 S2 P2 O2 (xs (5 * i + 1)) (xs (5 * i + 2)) 0) (cwV 3 hts gL_law_X6_teach rfl rfl rfl (by decide +kernel) ⟨Nat.le_of_ble_eq_true rfl, Nat.le_of_ble_eq_true rfl⟩) (cf_preV (T := TX6) (N := 24) hT hS hW cf_e6 rfl) rfl rfl hl.1 rfl (lv_room (Nat.le_of_ble_eq_true rfl)) dL_law_416 ⟨(by show _ ≤ 765407; omega), (by show _ ≤ 6799882; omega)⟩) hS (fun _ _ h => h) (fun _ h => h) (fun v2 T9 t9 H locs ht hvm hw2 hW hz1 hk1 hS => ?_)
    have hW := cf_W.er ht hW
    have hsim := cf_sim_teach hb9 hR hw hw2
    refine lv_istore (lv' := [(6, .int v2), (5, .int k1), (4, .int (nI (5 * i))), (3, .ref (ad2 18 0)), (2, .ref (ad2 6 0)), (1, .ref (ad2 5 0)), (0, .ref b)]) hx hb dL_law_419 hl (by decide) rfl (fun ls hl => ?_)
    refine lv_aload_n hx hb dL_law_421 rfl (lv_at hl 4 rfl) ?_
    refine va_calli (va_runV (As := []) (rest := []) ⟨hx, hb, hml, hown, hts⟩ (c_X6_thrown l D cT s.heap.size ad2 nc2 ng2 T9 P2 O2) (cwV 0 hts gL_law_X6_thrown rfl rfl rfl (by decide +kernel) ⟨Nat.le_of_ble_eq_true rfl, Nat.le_of_ble_eq_true rfl⟩) (cf_preV (T := TX6) (N := 24) hT hS hW cf_e6 rfl) rfl rfl hl.1 rfl (lv_room (Nat.le_of_ble_eq_true rfl)) dL_law_422 ⟨(by show _ ≤ 765407; omega), (by show _ ≤ 6799882; omega)⟩) hS (fun _ _ h => h) (fun _ h => h) (fun r3 u3 t9 H locs ht hvm hw3 hW hz1 hk1 hS => ?_)
    have hW := cf_W.er ht hW
    have hW : cf_W D s.heap.size (cf_E cT nc2 ng2 T9 P2 O2 ad2) ad2 H := hW
    have e3 : r3 = k1 := hw3.trans hsim.1
    refine lv_iload hx hb dL_law_425 (lv_at hl 1 rfl) ?_
    refine lv_icmp_eq (tgt := 432) hx hb dL_law_427 (by decide) (fun c427_3 => ?_) (fun c427_3 => (by first | exact absurd e3 c427_3 | exact absurd c427_3 e3))
    refine lv_iload hx hb dL_law_432 (lv_at hl 1 rfl) ?_
    refine lv_if_ne (tgt := 456) hx hb dL_law_434 (by decide) (fun c434_4 => ?_) (fun c434_4 => ?_)
    · refine lv_goto (tgt := 1580) hx hb dL_law_456 (by decide) ?_
      refine lv_iinc (v := (nI (5 * (i + 1)))) (lv' := [(4, .int (nI (5 * (i + 1)))), (6, .int v2), (5, .int k1), (3, .ref (ad2 18 0)), (2, .ref (ad2 6 0)), (1, .ref (ad2 5 0)), (0, .ref b)]) hx hb dL_law_1580 hl (k := 2) rfl (cf_5s i) (by decide) rfl (fun ls hl => ?_)
      refine lv_goto (tgt := 23) hx hb dL_law_1583 (by decide) ?_
      refine W.widen (k := 60 + (i + 1) * 4) (n := 800 + (i + 1) * 24) (by omega) (by omega) ?_
      exact ih _ _ _ (nc2, ng2, T9, P2, O2, ad2) ⟨hW, hS, by rw [← hag3 5 (by simp), ← hag3 6 (by simp), ← hag3 18 (by simp)]; exact lv_sub hl [0, 3, 4, 5, 6] rfl, hsim.2.2, hag3⟩
    · have hval := hsim.2.1 c434_4
      refine lv_aload_n hx hb dL_law_437 rfl (lv_at hl 3 rfl) ?_
      refine lv_iconst (v := 0) hx hb dL_law_438 (by decide) ?_
      refine cf_lald (k := 18) (i := 0) (ad := ad2) hx hb hT.1 hW 2 cf_e18 rfl (show vp_in 0 1 from vp_in_nI (show (0 : Nat) < 1 by decide) (by decide)) dL_law_439 ?_
      refine lv_iload hx hb dL_law_440 (lv_at hl 0 rfl) ?_
      refine lv_if_eq (tgt := 449) hx hb dL_law_442 (by decide) (fun c442_5 => ?_) (fun c442_5 => ?_)
      · refine lv_lconst (v := 0) hx hb dL_law_449 (by decide) ?_
        refine W.lcmp hx hb dL_law_450 ?_
        have ec : lg_cmp (O2 0) 0 = 0 := by rw [show O2 0 = 0 from hval.trans (if_pos c442_5)]; simp [lg_cmp]
        refine lv_if_eq (tgt := 456) hx hb dL_law_451 (by decide) (fun c451_6 => ?_) (fun c451_6 => (by first | exact absurd ec c451_6 | exact absurd c451_6 ec))
        refine lv_goto (tgt := 1580) hx hb dL_law_456 (by decide) ?_
        refine lv_iinc (v := (nI (5 * (i + 1)))) (lv' := [(4, .int (nI (5 * (i + 1)))), (6, .int v2), (5, .int k1), (3, .ref (ad2 18 0)), (2, .ref (ad2 6 0)), (1, .ref (ad2 5 0)), (0, .ref b)]) hx hb dL_law_1580 hl (k := 2) rfl (cf_5s i) (by decide) rfl (fun ls hl => ?_)
        refine lv_goto (tgt := 23) hx hb dL_law_1583 (by decide) ?_
        refine W.widen (k := 60 + (i + 1) * 4) (n := 800 + (i + 1) * 24) (by omega) (by omega) ?_
        exact ih _ _ _ (nc2, ng2, T9, P2, O2, ad2) ⟨hW, hS, by rw [← hag3 5 (by simp), ← hag3 6 (by simp), ← hag3 18 (by simp)]; exact lv_sub hl [0, 3, 4, 5, 6] rfl, hsim.2.2, hag3⟩
      · refine lv_lconst (v := 1) hx hb dL_law_445 (by decide) ?_
        refine lv_goto (tgt := 450) hx hb dL_law_446 (by decide) ?_
        refine W.lcmp hx hb dL_law_450 ?_
        have ec : lg_cmp (O2 0) 1 = 0 := by rw [show O2 0 = 1 from hval.trans (if_neg c442_5)]; simp [lg_cmp]
        refine lv_if_eq (tgt := 456) hx hb dL_law_451 (by decide) (fun c451_7 => ?_) (fun c451_7 => (by first | exact absurd ec c451_7 | exact absurd c451_7 ec))
        refine lv_goto (tgt := 1580) hx hb dL_law_456 (by decide) ?_
        refine lv_iinc (v := (nI (5 * (i + 1)))) (lv' := [(4, .int (nI (5 * (i + 1)))), (6, .int v2), (5, .int k1), (3, .ref (ad2 18 0)), (2, .ref (ad2 6 0)), (1, .ref (ad2 5 0)), (0, .ref b)]) hx hb dL_law_1580 hl (k := 2) rfl (cf_5s i) (by decide) rfl (fun ls hl => ?_)
        refine lv_goto (tgt := 23) hx hb dL_law_1583 (by decide) ?_
        refine W.widen (k := 60 + (i + 1) * 4) (n := 800 + (i + 1) * 24) (by omega) (by omega) ?_
        exact ih _ _ _ (nc2, ng2, T9, P2, O2, ad2) ⟨hW, hS, by rw [← hag3 5 (by simp), ← hag3 6 (by simp), ← hag3 18 (by simp)]; exact lv_sub hl [0, 3, 4, 5, 6] rfl, hsim.2.2, hag3⟩
  · refine lv_iconst (v := 1) hx hb dL_law_378 (by decide) ?_
    refine lv_goto (tgt := 383) hx hb dL_law_379 (by decide) ?_
    refine lv_aload_n hx hb dL_law_383 rfl (lv_at hl 1 rfl) ?_
    refine vx_calli (vx_runSX (As := [.ref (ad 5 0), .int (xs (5 * i + 1)), .int (xs (5 * i + 2)), .int 1, .ref (ad 18 0)]) (rest := []) ⟨hx, hb, hml, hown, hts⟩ (c_L_teach l D cT s.heap.size ad nc ng S P O hl0 (xs (5 * i + 1)) (xs (5 * i + 2)) 1 (Or.inr rfl) hR.k10) (vx_cwSW 5 hts gL_law_L_teach rfl rfl rfl (by decide +kernel) ⟨Nat.le_of_ble_eq_true rfl, Nat.le_of_ble_eq_true rfl⟩) (cf_preS hT hS hW) rfl rfl hl.1 rfl (lv_room (Nat.le_of_ble_eq_true rfl)) dL_law_384 ⟨(by show _ ≤ 765407; omega), (by show _ ≤ 6799882; omega)⟩) hS (fun _ _ h => h) (fun _ h => h) (fun _ _ h => h) (fun E9 ce q9 u9 t9 H locs ht hvm hu hB hz1 hk1 hS hce hcv hcl => absurd hB.1 id) (fun k1 u1 t9 H locs ht hvm hw hW hz1 hk1 hS => ?_)
    have hW9 := cf_W.er ht hW
    have hpre := cf_pre_teach hR hw
    refine lv_istore (lv' := [(5, .int k1), (4, .int (nI (5 * i))), (3, .ref (ad 18 0)), (2, .ref (ad 6 0)), (1, .ref (ad 5 0)), (0, .ref b)]) hx hb dL_law_387 hl (by decide) rfl (fun ls hl => ?_)
    obtain ⟨hu1, hu2, hag2, hH⟩ := hpre
    obtain ⟨nc2, ng2, S2, P2, O2, ad2⟩ := u1
    have hu1 : nc2 = nc := hu1
    subst hu1
    have hu2 : ng2 = ng := hu2
    subst hu2
    have hW : cf_W D s.heap.size (cf_E cT nc2 ng2 S2 P2 O2 ad2) ad2 H := hW9
    have hag2 : ∀ k, k = 5 ∨ k = 6 ∨ k = 17 ∨ k = 18 → ad2 k 0 = ad k 0 := hag2
    have hH : cf_H nc2 ng2 S2 P2 P := hH
    have hl : lv_has ls 7 [(5, .int k1), (4, .int (nI (5 * i))), (3, .ref (ad2 18 0)), (2, .ref (ad2 6 0)), (1, .ref (ad2 5 0)), (0, .ref b)] := by rw [hag2 5 (by simp), hag2 6 (by simp), hag2 18 (by simp)]; exact hl
    have hag3 : ∀ k, k = 5 ∨ k = 6 ∨ k = 17 ∨ k = 18 → ad2 k 0 = ad0 k 0 := fun k hk => (hag2 k hk).trans (hag k hk)
    refine lv_aload_n hx hb dL_law_389 rfl (lv_at hl 3 rfl) ?_
    refine lv_aload_n hx hb dL_law_390 rfl (lv_at hl 5 rfl) ?_
    refine lv_iload hx hb dL_law_391 (lv_at hl 1 rfl) ?_
    refine lv_iconst (v := 1) hx hb dL_law_393 (by decide) ?_
    refine lv_iadd hx hb dL_law_394 ?_
    refine cf_sld hx hb hX hbl hbA hS (5 * i + 1) (cf_5k 1) (by omega) (by omega) dL_law_395 ?_
    refine lv_aload_n hx hb dL_law_396 rfl (lv_at hl 5 rfl) ?_
    refine lv_iload hx hb dL_law_397 (lv_at hl 1 rfl) ?_
    refine lv_iconst (v := 2) hx hb dL_law_399 (by decide) ?_
    refine lv_iadd hx hb dL_law_400 ?_
    refine cf_sld hx hb hX hbl hbA hS (5 * i + 2) (cf_5k 2) (by omega) (by omega) dL_law_401 ?_
    refine lv_aload_n hx hb dL_law_402 rfl (lv_at hl 5 rfl) ?_
    refine lv_iload hx hb dL_law_403 (lv_at hl 1 rfl) ?_
    refine lv_iconst (v := 3) hx hb dL_law_405 (by decide) ?_
    refine lv_iadd hx hb dL_law_406 ?_
    refine cf_sld hx hb hX hbl hbA hS (5 * i + 3) (cf_5k 3) (by omega) (by omega) dL_law_407 ?_
    refine lv_if_eq (tgt := 415) hx hb dL_law_408 (by decide) (fun c408_8 => (by first | exact absurd c408_8 c375_1 | exact absurd c375_1 c408_8)) (fun c408_8 => ?_)
    refine lv_iconst (v := 1) hx hb dL_law_411 (by decide) ?_
    refine lv_goto (tgt := 416) hx hb dL_law_412 (by decide) ?_
    have hb9 : (1 : Int32) = 0 ∨ (1 : Int32) = 1 := Or.inr rfl
    refine va_calli (va_runV (As := [.int (xs (5 * i + 1)), .int (xs (5 * i + 2)), .int 1]) (rest := []) ⟨hx, hb, hml, hown, hts⟩ (c_X6_teach l D cT s.heap.size ad2 nc2 ng2 S2 P2 O2 (xs (5 * i + 1)) (xs (5 * i + 2)) 1) (cwV 3 hts gL_law_X6_teach rfl rfl rfl (by decide +kernel) ⟨Nat.le_of_ble_eq_true rfl, Nat.le_of_ble_eq_true rfl⟩) (cf_preV (T := TX6) (N := 24) hT hS hW cf_e6 rfl) rfl rfl hl.1 rfl (lv_room (Nat.le_of_ble_eq_true rfl)) dL_law_416 ⟨(by show _ ≤ 765407; omega), (by show _ ≤ 6799882; omega)⟩) hS (fun _ _ h => h) (fun _ h => h) (fun v2 T9 t9 H locs ht hvm hw2 hW hz1 hk1 hS => ?_)
    have hW := cf_W.er ht hW
    have hsim := cf_sim_teach hb9 hR hw hw2
    refine lv_istore (lv' := [(6, .int v2), (5, .int k1), (4, .int (nI (5 * i))), (3, .ref (ad2 18 0)), (2, .ref (ad2 6 0)), (1, .ref (ad2 5 0)), (0, .ref b)]) hx hb dL_law_419 hl (by decide) rfl (fun ls hl => ?_)
    refine lv_aload_n hx hb dL_law_421 rfl (lv_at hl 4 rfl) ?_
    refine va_calli (va_runV (As := []) (rest := []) ⟨hx, hb, hml, hown, hts⟩ (c_X6_thrown l D cT s.heap.size ad2 nc2 ng2 T9 P2 O2) (cwV 0 hts gL_law_X6_thrown rfl rfl rfl (by decide +kernel) ⟨Nat.le_of_ble_eq_true rfl, Nat.le_of_ble_eq_true rfl⟩) (cf_preV (T := TX6) (N := 24) hT hS hW cf_e6 rfl) rfl rfl hl.1 rfl (lv_room (Nat.le_of_ble_eq_true rfl)) dL_law_422 ⟨(by show _ ≤ 765407; omega), (by show _ ≤ 6799882; omega)⟩) hS (fun _ _ h => h) (fun _ h => h) (fun r3 u3 t9 H locs ht hvm hw3 hW hz1 hk1 hS => ?_)
    have hW := cf_W.er ht hW
    have hW : cf_W D s.heap.size (cf_E cT nc2 ng2 T9 P2 O2 ad2) ad2 H := hW
    have e3 : r3 = k1 := hw3.trans hsim.1
    refine lv_iload hx hb dL_law_425 (lv_at hl 1 rfl) ?_
    refine lv_icmp_eq (tgt := 432) hx hb dL_law_427 (by decide) (fun c427_9 => ?_) (fun c427_9 => (by first | exact absurd e3 c427_9 | exact absurd c427_9 e3))
    refine lv_iload hx hb dL_law_432 (lv_at hl 1 rfl) ?_
    refine lv_if_ne (tgt := 456) hx hb dL_law_434 (by decide) (fun c434_10 => ?_) (fun c434_10 => ?_)
    · refine lv_goto (tgt := 1580) hx hb dL_law_456 (by decide) ?_
      refine lv_iinc (v := (nI (5 * (i + 1)))) (lv' := [(4, .int (nI (5 * (i + 1)))), (6, .int v2), (5, .int k1), (3, .ref (ad2 18 0)), (2, .ref (ad2 6 0)), (1, .ref (ad2 5 0)), (0, .ref b)]) hx hb dL_law_1580 hl (k := 2) rfl (cf_5s i) (by decide) rfl (fun ls hl => ?_)
      refine lv_goto (tgt := 23) hx hb dL_law_1583 (by decide) ?_
      refine W.widen (k := 60 + (i + 1) * 4) (n := 800 + (i + 1) * 24) (by omega) (by omega) ?_
      exact ih _ _ _ (nc2, ng2, T9, P2, O2, ad2) ⟨hW, hS, by rw [← hag3 5 (by simp), ← hag3 6 (by simp), ← hag3 18 (by simp)]; exact lv_sub hl [0, 3, 4, 5, 6] rfl, hsim.2.2, hag3⟩
    · have hval := hsim.2.1 c434_10
      refine lv_aload_n hx hb dL_law_437 rfl (lv_at hl 3 rfl) ?_
      refine lv_iconst (v := 0) hx hb dL_law_438 (by decide) ?_
      refine cf_lald (k := 18) (i := 0) (ad := ad2) hx hb hT.1 hW 2 cf_e18 rfl (show vp_in 0 1 from vp_in_nI (show (0 : Nat) < 1 by decide) (by decide)) dL_law_439 ?_
      refine lv_iload hx hb dL_law_440 (lv_at hl 0 rfl) ?_
      refine lv_if_eq (tgt := 449) hx hb dL_law_442 (by decide) (fun c442_11 => ?_) (fun c442_11 => ?_)
      · refine lv_lconst (v := 0) hx hb dL_law_449 (by decide) ?_
        refine W.lcmp hx hb dL_law_450 ?_
        have ec : lg_cmp (O2 0) 0 = 0 := by rw [show O2 0 = 0 from hval.trans (if_pos c442_11)]; simp [lg_cmp]
        refine lv_if_eq (tgt := 456) hx hb dL_law_451 (by decide) (fun c451_12 => ?_) (fun c451_12 => (by first | exact absurd ec c451_12 | exact absurd c451_12 ec))
        refine lv_goto (tgt := 1580) hx hb dL_law_456 (by decide) ?_
        refine lv_iinc (v := (nI (5 * (i + 1)))) (lv' := [(4, .int (nI (5 * (i + 1)))), (6, .int v2), (5, .int k1), (3, .ref (ad2 18 0)), (2, .ref (ad2 6 0)), (1, .ref (ad2 5 0)), (0, .ref b)]) hx hb dL_law_1580 hl (k := 2) rfl (cf_5s i) (by decide) rfl (fun ls hl => ?_)
        refine lv_goto (tgt := 23) hx hb dL_law_1583 (by decide) ?_
        refine W.widen (k := 60 + (i + 1) * 4) (n := 800 + (i + 1) * 24) (by omega) (by omega) ?_
        exact ih _ _ _ (nc2, ng2, T9, P2, O2, ad2) ⟨hW, hS, by rw [← hag3 5 (by simp), ← hag3 6 (by simp), ← hag3 18 (by simp)]; exact lv_sub hl [0, 3, 4, 5, 6] rfl, hsim.2.2, hag3⟩
      · refine lv_lconst (v := 1) hx hb dL_law_445 (by decide) ?_
        refine lv_goto (tgt := 450) hx hb dL_law_446 (by decide) ?_
        refine W.lcmp hx hb dL_law_450 ?_
        have ec : lg_cmp (O2 0) 1 = 0 := by rw [show O2 0 = 1 from hval.trans (if_neg c442_11)]; simp [lg_cmp]
        refine lv_if_eq (tgt := 456) hx hb dL_law_451 (by decide) (fun c451_13 => ?_) (fun c451_13 => (by first | exact absurd ec c451_13 | exact absurd c451_13 ec))
        refine lv_goto (tgt := 1580) hx hb dL_law_456 (by decide) ?_
        refine lv_iinc (v := (nI (5 * (i + 1)))) (lv' := [(4, .int (nI (5 * (i + 1)))), (6, .int v2), (5, .int k1), (3, .ref (ad2 18 0)), (2, .ref (ad2 6 0)), (1, .ref (ad2 5 0)), (0, .ref b)]) hx hb dL_law_1580 hl (k := 2) rfl (cf_5s i) (by decide) rfl (fun ls hl => ?_)
        refine lv_goto (tgt := 23) hx hb dL_law_1583 (by decide) ?_
        refine W.widen (k := 60 + (i + 1) * 4) (n := 800 + (i + 1) * 24) (by omega) (by omega) ?_
        exact ih _ _ _ (nc2, ng2, T9, P2, O2, ad2) ⟨hW, hS, by rw [← hag3 5 (by simp), ← hag3 6 (by simp), ← hag3 18 (by simp)]; exact lv_sub hl [0, 3, 4, 5, 6] rfl, hsim.2.2, hag3⟩

set_option maxHeartbeats 4000000 in
set_option maxRecDepth 100000 in
theorem cf_case_seat (l : Launch) (hl0 : l.stackTraces = false) {p : Program} {e : Env} {s : State} {m : MethodId} {below : List Frame} {meth : Method} {c : Code} {b L : Nat} {xs : Nat → Int32} (hL : L ≤ 2560) (C0 : lw_At p s m meth c b L xs) {D : va_G} {cT : Nat → ClassId} (hT : cf_Tb D cT s.heap.size s s.heap) {ad0 : cf_Ad} {i : Nat} (hi : i < L / 5) {H : Heap} {locs : List Loc} {ls : Array Slot} {u : cf_St} (hI : cf_LI D cT s b ad0 i H locs ls u) (ih : ∀ (H2 : Heap) (locs2 : List Loc) (ls2 : Array Slot) (u2 : cf_St), cf_LI D cT s b ad0 (i + 1) H2 locs2 ls2 u2 → W p l e room_1 s m #[Value.ref b] below meth c H2 locs2 (60 + (i + 1) * 4) (800 + (i + 1) * 24) (lw_Z below #[Value.ref b] s) (F0 m 23 ls2 [])) : W p l e room_1 s m #[Value.ref b] below meth c H locs (60 + i * 4) (800 + i * 24) (lw_Z below #[Value.ref b] s) (F0 m 663 ls []) := by
  obtain ⟨hx, hb, hr, hml, hown, hts0, hX, hbl, hlocks, hgv⟩ := id C0
  have hts : ∀ w ∈ wsL_law, w.before #[Value.ref b] s = true := fun w h => hts0 w (wsL_law_in w h)
  have hbA : ¬ s.heap.size ≤ b := Nat.not_le.mpr hbl
  obtain ⟨nc, ng, S, P, O, ad⟩ := u
  obtain ⟨hW, hS, hl, hR, hag⟩ := hI
  have hW : cf_W D s.heap.size (cf_E cT nc ng S P O ad) ad H := hW
  have hR : cf_R i nc ng S P := hR
  have hag : ∀ k, k = 5 ∨ k = 6 ∨ k = 17 ∨ k = 18 → ad k 0 = ad0 k 0 := hag
  have hl : lv_has ls 7 [(4, .int (nI (5 * i))), (3, .ref (ad 18 0)), (2, .ref (ad 6 0)), (1, .ref (ad 5 0)), (0, .ref b)] := by rw [hag 5 (by simp), hag 6 (by simp), hag 18 (by simp)]; exact hl
  refine lv_aload_n hx hb dL_law_663 rfl (lv_at hl 3 rfl) ?_
  refine lv_aload_n hx hb dL_law_664 rfl (lv_at hl 4 rfl) ?_
  refine lv_iload hx hb dL_law_665 (lv_at hl 0 rfl) ?_
  refine lv_iconst (v := 1) hx hb dL_law_667 (by decide) ?_
  refine lv_iadd hx hb dL_law_668 ?_
  refine cf_sld hx hb hX hbl hbA hS (5 * i + 1) (cf_5k 1) (by omega) (by omega) dL_law_669 ?_
  refine lv_aload_n hx hb dL_law_670 rfl (lv_at hl 4 rfl) ?_
  refine lv_iload hx hb dL_law_671 (lv_at hl 0 rfl) ?_
  refine lv_iconst (v := 2) hx hb dL_law_673 (by decide) ?_
  refine lv_iadd hx hb dL_law_674 ?_
  refine cf_sld hx hb hX hbl hbA hS (5 * i + 2) (cf_5k 2) (by omega) (by omega) dL_law_675 ?_
  refine lv_aload_n hx hb dL_law_676 rfl (lv_at hl 4 rfl) ?_
  refine lv_iload hx hb dL_law_677 (lv_at hl 0 rfl) ?_
  refine lv_iconst (v := 3) hx hb dL_law_679 (by decide) ?_
  refine lv_iadd hx hb dL_law_680 ?_
  refine cf_sld hx hb hX hbl hbA hS (5 * i + 3) (cf_5k 3) (by omega) (by omega) dL_law_681 ?_
  refine lv_if_eq (tgt := 689) hx hb dL_law_682 (by decide) (fun c682_1 => ?_) (fun c682_1 => ?_)
  · refine lv_iconst (v := 0) hx hb dL_law_689 (by decide) ?_
    refine lv_aload_n hx hb dL_law_690 rfl (lv_at hl 1 rfl) ?_
    refine vx_calli (vx_runSX (As := [.ref (ad 5 0), .int (xs (5 * i + 1)), .int (xs (5 * i + 2)), .int 0, .ref (ad 18 0)]) (rest := []) ⟨hx, hb, hml, hown, hts⟩ (c_L_seat l D cT s.heap.size ad nc ng S P O hl0 (xs (5 * i + 1)) (xs (5 * i + 2)) 0 hR.1.2.2.2.1 hR.1.2.1 hR.1.1 hR.O hR.G hR.Q2) (vx_cwSW 5 hts gL_law_L_seat rfl rfl rfl (by decide +kernel) ⟨Nat.le_of_ble_eq_true rfl, Nat.le_of_ble_eq_true rfl⟩) (cf_preS hT hS hW) rfl rfl hl.1 rfl (lv_room (Nat.le_of_ble_eq_true rfl)) dL_law_691 ⟨(by show _ ≤ 765407; omega), (by show _ ≤ 6799882; omega)⟩) hS (fun _ _ h => h) (fun _ h => h) (fun _ _ h => h) (fun E9 ce q9 u9 t9 H locs ht hvm hu hB hz1 hk1 hS hce hcv hcl => absurd hB.1 id) (fun k1 u1 t9 H locs ht hvm hw hW hz1 hk1 hS => ?_)
    have hW9 := cf_W.er ht hW
    have hpre := cf_pre_seat hR hw
    refine lv_istore (lv' := [(5, .int k1), (4, .int (nI (5 * i))), (3, .ref (ad 18 0)), (2, .ref (ad 6 0)), (1, .ref (ad 5 0)), (0, .ref b)]) hx hb dL_law_694 hl (by decide) rfl (fun ls hl => ?_)
    obtain ⟨hu1, -, hag2, hH⟩ := hpre
    obtain ⟨nc2, ng2, S2, P2, O2, ad2⟩ := u1
    have hu1 : nc2 = nc := hu1
    subst hu1
    have hW : cf_W D s.heap.size (cf_E cT nc2 ng2 S2 P2 O2 ad2) ad2 H := hW9
    have hag2 : ∀ k, k = 5 ∨ k = 6 ∨ k = 17 ∨ k = 18 → ad2 k 0 = ad k 0 := hag2
    have hH : cf_H nc2 ng S2 P2 P := hH
    have hl : lv_has ls 7 [(5, .int k1), (4, .int (nI (5 * i))), (3, .ref (ad2 18 0)), (2, .ref (ad2 6 0)), (1, .ref (ad2 5 0)), (0, .ref b)] := by rw [hag2 5 (by simp), hag2 6 (by simp), hag2 18 (by simp)]; exact hl
    have hag3 : ∀ k, k = 5 ∨ k = 6 ∨ k = 17 ∨ k = 18 → ad2 k 0 = ad0 k 0 := fun k hk => (hag2 k hk).trans (hag k hk)
    refine lv_aload_n hx hb dL_law_696 rfl (lv_at hl 3 rfl) ?_
    refine lv_aload_n hx hb dL_law_697 rfl (lv_at hl 5 rfl) ?_
    refine lv_iload hx hb dL_law_698 (lv_at hl 1 rfl) ?_
    refine lv_iconst (v := 1) hx hb dL_law_700 (by decide) ?_
    refine lv_iadd hx hb dL_law_701 ?_
    refine cf_sld hx hb hX hbl hbA hS (5 * i + 1) (cf_5k 1) (by omega) (by omega) dL_law_702 ?_
    refine lv_aload_n hx hb dL_law_703 rfl (lv_at hl 5 rfl) ?_
    refine lv_iload hx hb dL_law_704 (lv_at hl 1 rfl) ?_
    refine lv_iconst (v := 2) hx hb dL_law_706 (by decide) ?_
    refine lv_iadd hx hb dL_law_707 ?_
    refine cf_sld hx hb hX hbl hbA hS (5 * i + 2) (cf_5k 2) (by omega) (by omega) dL_law_708 ?_
    refine lv_aload_n hx hb dL_law_709 rfl (lv_at hl 5 rfl) ?_
    refine lv_iload hx hb dL_law_710 (lv_at hl 1 rfl) ?_
    refine lv_iconst (v := 3) hx hb dL_law_712 (by decide) ?_
    refine lv_iadd hx hb dL_law_713 ?_
    refine cf_sld hx hb hX hbl hbA hS (5 * i + 3) (cf_5k 3) (by omega) (by omega) dL_law_714 ?_
    refine lv_if_eq (tgt := 722) hx hb dL_law_715 (by decide) (fun c715_2 => ?_) (fun c715_2 => (by first | exact absurd c682_1 c715_2 | exact absurd c715_2 c682_1))
    refine lv_iconst (v := 0) hx hb dL_law_722 (by decide) ?_
    refine va_calli (va_runV (As := [.int (xs (5 * i + 1)), .int (xs (5 * i + 2)), .int 0]) (rest := []) ⟨hx, hb, hml, hown, hts⟩ (c_X6_seat l D cT s.heap.size ad2 nc2 ng2 S2 P2 O2 (xs (5 * i + 1)) (xs (5 * i + 2)) 0 ng hH.2.2.1 hH.2.2.2.1 hH.1 hH.2.1 hH.2.2.2.2.1) (cwV 3 hts gL_law_X6_seat rfl rfl rfl (by decide +kernel) ⟨Nat.le_of_ble_eq_true rfl, Nat.le_of_ble_eq_true rfl⟩) (cf_preV (T := TX6) (N := 24) hT hS hW cf_e6 rfl) rfl rfl hl.1 rfl (lv_room (Nat.le_of_ble_eq_true rfl)) dL_law_723 ⟨(by show _ ≤ 765407; omega), (by show _ ≤ 6799882; omega)⟩) hS (fun _ _ h => h) (fun _ h => h) (fun v2 T9 t9 H locs ht hvm hw2 hW hz1 hk1 hS => ?_)
    have hW := cf_W.er ht hW
    have hsim := cf_sim_seat hR hw hw2
    refine lv_istore (lv' := [(6, .int v2), (5, .int k1), (4, .int (nI (5 * i))), (3, .ref (ad2 18 0)), (2, .ref (ad2 6 0)), (1, .ref (ad2 5 0)), (0, .ref b)]) hx hb dL_law_726 hl (by decide) rfl (fun ls hl => ?_)
    refine lv_aload_n hx hb dL_law_728 rfl (lv_at hl 4 rfl) ?_
    refine va_calli (va_runV (As := []) (rest := []) ⟨hx, hb, hml, hown, hts⟩ (c_X6_thrown l D cT s.heap.size ad2 nc2 ng2 T9 P2 O2) (cwV 0 hts gL_law_X6_thrown rfl rfl rfl (by decide +kernel) ⟨Nat.le_of_ble_eq_true rfl, Nat.le_of_ble_eq_true rfl⟩) (cf_preV (T := TX6) (N := 24) hT hS hW cf_e6 rfl) rfl rfl hl.1 rfl (lv_room (Nat.le_of_ble_eq_true rfl)) dL_law_729 ⟨(by show _ ≤ 765407; omega), (by show _ ≤ 6799882; omega)⟩) hS (fun _ _ h => h) (fun _ h => h) (fun r3 u3 t9 H locs ht hvm hw3 hW hz1 hk1 hS => ?_)
    have hW := cf_W.er ht hW
    have hW : cf_W D s.heap.size (cf_E cT nc2 ng2 T9 P2 O2 ad2) ad2 H := hW
    have e3 : r3 = k1 := hw3.trans hsim.1
    refine lv_iload hx hb dL_law_732 (lv_at hl 1 rfl) ?_
    refine lv_icmp_eq (tgt := 739) hx hb dL_law_734 (by decide) (fun c734_3 => ?_) (fun c734_3 => (by first | exact absurd e3 c734_3 | exact absurd c734_3 e3))
    refine lv_iload hx hb dL_law_739 (lv_at hl 1 rfl) ?_
    refine lv_if_ne (tgt := 756) hx hb dL_law_741 (by decide) (fun c741_4 => ?_) (fun c741_4 => ?_)
    · refine lv_goto (tgt := 1580) hx hb dL_law_756 (by decide) ?_
      refine lv_iinc (v := (nI (5 * (i + 1)))) (lv' := [(4, .int (nI (5 * (i + 1)))), (6, .int v2), (5, .int k1), (3, .ref (ad2 18 0)), (2, .ref (ad2 6 0)), (1, .ref (ad2 5 0)), (0, .ref b)]) hx hb dL_law_1580 hl (k := 2) rfl (cf_5s i) (by decide) rfl (fun ls hl => ?_)
      refine lv_goto (tgt := 23) hx hb dL_law_1583 (by decide) ?_
      refine W.widen (k := 60 + (i + 1) * 4) (n := 800 + (i + 1) * 24) (by omega) (by omega) ?_
      exact ih _ _ _ (nc2, ng2, T9, P2, O2, ad2) ⟨hW, hS, by rw [← hag3 5 (by simp), ← hag3 6 (by simp), ← hag3 18 (by simp)]; exact lv_sub hl [0, 3, 4, 5, 6] rfl, hsim.2.2, hag3⟩
    · have hval := hsim.2.1 c741_4
      refine lv_aload_n hx hb dL_law_744 rfl (lv_at hl 3 rfl) ?_
      refine lv_iconst (v := 0) hx hb dL_law_745 (by decide) ?_
      refine cf_lald (k := 18) (i := 0) (ad := ad2) hx hb hT.1 hW 2 cf_e18 rfl (show vp_in 0 1 from vp_in_nI (show (0 : Nat) < 1 by decide) (by decide)) dL_law_746 ?_
      refine lv_iload hx hb dL_law_747 (lv_at hl 0 rfl) ?_
      refine lv_i2l (v := v2.toInt64) hx hb dL_law_749 rfl ?_
      refine W.lcmp hx hb dL_law_750 ?_
      have ec : lg_cmp (O2 0) v2.toInt64 = 0 := by rw [show O2 0 = v2.toInt64 from hval]; simp [lg_cmp]
      refine lv_if_eq (tgt := 756) hx hb dL_law_751 (by decide) (fun c751_5 => ?_) (fun c751_5 => (by first | exact absurd ec c751_5 | exact absurd c751_5 ec))
      refine lv_goto (tgt := 1580) hx hb dL_law_756 (by decide) ?_
      refine lv_iinc (v := (nI (5 * (i + 1)))) (lv' := [(4, .int (nI (5 * (i + 1)))), (6, .int v2), (5, .int k1), (3, .ref (ad2 18 0)), (2, .ref (ad2 6 0)), (1, .ref (ad2 5 0)), (0, .ref b)]) hx hb dL_law_1580 hl (k := 2) rfl (cf_5s i) (by decide) rfl (fun ls hl => ?_)
      refine lv_goto (tgt := 23) hx hb dL_law_1583 (by decide) ?_
      refine W.widen (k := 60 + (i + 1) * 4) (n := 800 + (i + 1) * 24) (by omega) (by omega) ?_
      exact ih _ _ _ (nc2, ng2, T9, P2, O2, ad2) ⟨hW, hS, by rw [← hag3 5 (by simp), ← hag3 6 (by simp), ← hag3 18 (by simp)]; exact lv_sub hl [0, 3, 4, 5, 6] rfl, hsim.2.2, hag3⟩
  · refine lv_iconst (v := 1) hx hb dL_law_685 (by decide) ?_
    refine lv_goto (tgt := 690) hx hb dL_law_686 (by decide) ?_
    refine lv_aload_n hx hb dL_law_690 rfl (lv_at hl 1 rfl) ?_
    refine vx_calli (vx_runSX (As := [.ref (ad 5 0), .int (xs (5 * i + 1)), .int (xs (5 * i + 2)), .int 1, .ref (ad 18 0)]) (rest := []) ⟨hx, hb, hml, hown, hts⟩ (c_L_seat l D cT s.heap.size ad nc ng S P O hl0 (xs (5 * i + 1)) (xs (5 * i + 2)) 1 hR.1.2.2.2.1 hR.1.2.1 hR.1.1 hR.O hR.G hR.Q2) (vx_cwSW 5 hts gL_law_L_seat rfl rfl rfl (by decide +kernel) ⟨Nat.le_of_ble_eq_true rfl, Nat.le_of_ble_eq_true rfl⟩) (cf_preS hT hS hW) rfl rfl hl.1 rfl (lv_room (Nat.le_of_ble_eq_true rfl)) dL_law_691 ⟨(by show _ ≤ 765407; omega), (by show _ ≤ 6799882; omega)⟩) hS (fun _ _ h => h) (fun _ h => h) (fun _ _ h => h) (fun E9 ce q9 u9 t9 H locs ht hvm hu hB hz1 hk1 hS hce hcv hcl => absurd hB.1 id) (fun k1 u1 t9 H locs ht hvm hw hW hz1 hk1 hS => ?_)
    have hW9 := cf_W.er ht hW
    have hpre := cf_pre_seat hR hw
    refine lv_istore (lv' := [(5, .int k1), (4, .int (nI (5 * i))), (3, .ref (ad 18 0)), (2, .ref (ad 6 0)), (1, .ref (ad 5 0)), (0, .ref b)]) hx hb dL_law_694 hl (by decide) rfl (fun ls hl => ?_)
    obtain ⟨hu1, -, hag2, hH⟩ := hpre
    obtain ⟨nc2, ng2, S2, P2, O2, ad2⟩ := u1
    have hu1 : nc2 = nc := hu1
    subst hu1
    have hW : cf_W D s.heap.size (cf_E cT nc2 ng2 S2 P2 O2 ad2) ad2 H := hW9
    have hag2 : ∀ k, k = 5 ∨ k = 6 ∨ k = 17 ∨ k = 18 → ad2 k 0 = ad k 0 := hag2
    have hH : cf_H nc2 ng S2 P2 P := hH
    have hl : lv_has ls 7 [(5, .int k1), (4, .int (nI (5 * i))), (3, .ref (ad2 18 0)), (2, .ref (ad2 6 0)), (1, .ref (ad2 5 0)), (0, .ref b)] := by rw [hag2 5 (by simp), hag2 6 (by simp), hag2 18 (by simp)]; exact hl
    have hag3 : ∀ k, k = 5 ∨ k = 6 ∨ k = 17 ∨ k = 18 → ad2 k 0 = ad0 k 0 := fun k hk => (hag2 k hk).trans (hag k hk)
    refine lv_aload_n hx hb dL_law_696 rfl (lv_at hl 3 rfl) ?_
    refine lv_aload_n hx hb dL_law_697 rfl (lv_at hl 5 rfl) ?_
    refine lv_iload hx hb dL_law_698 (lv_at hl 1 rfl) ?_
    refine lv_iconst (v := 1) hx hb dL_law_700 (by decide) ?_
    refine lv_iadd hx hb dL_law_701 ?_
    refine cf_sld hx hb hX hbl hbA hS (5 * i + 1) (cf_5k 1) (by omega) (by omega) dL_law_702 ?_
    refine lv_aload_n hx hb dL_law_703 rfl (lv_at hl 5 rfl) ?_
    refine lv_iload hx hb dL_law_704 (lv_at hl 1 rfl) ?_
    refine lv_iconst (v := 2) hx hb dL_law_706 (by decide) ?_
    refine lv_iadd hx hb dL_law_707 ?_
    refine cf_sld hx hb hX hbl hbA hS (5 * i + 2) (cf_5k 2) (by omega) (by omega) dL_law_708 ?_
    refine lv_aload_n hx hb dL_law_709 rfl (lv_at hl 5 rfl) ?_
    refine lv_iload hx hb dL_law_710 (lv_at hl 1 rfl) ?_
    refine lv_iconst (v := 3) hx hb dL_law_712 (by decide) ?_
    refine lv_iadd hx hb dL_law_713 ?_
    refine cf_sld hx hb hX hbl hbA hS (5 * i + 3) (cf_5k 3) (by omega) (by omega) dL_law_714 ?_
    refine lv_if_eq (tgt := 722) hx hb dL_law_715 (by decide) (fun c715_6 => (by first | exact absurd c715_6 c682_1 | exact absurd c682_1 c715_6)) (fun c715_6 => ?_)
    refine lv_iconst (v := 1) hx hb dL_law_718 (by decide) ?_
    refine lv_goto (tgt := 723) hx hb dL_law_719 (by decide) ?_
    refine va_calli (va_runV (As := [.int (xs (5 * i + 1)), .int (xs (5 * i + 2)), .int 1]) (rest := []) ⟨hx, hb, hml, hown, hts⟩ (c_X6_seat l D cT s.heap.size ad2 nc2 ng2 S2 P2 O2 (xs (5 * i + 1)) (xs (5 * i + 2)) 1 ng hH.2.2.1 hH.2.2.2.1 hH.1 hH.2.1 hH.2.2.2.2.1) (cwV 3 hts gL_law_X6_seat rfl rfl rfl (by decide +kernel) ⟨Nat.le_of_ble_eq_true rfl, Nat.le_of_ble_eq_true rfl⟩) (cf_preV (T := TX6) (N := 24) hT hS hW cf_e6 rfl) rfl rfl hl.1 rfl (lv_room (Nat.le_of_ble_eq_true rfl)) dL_law_723 ⟨(by show _ ≤ 765407; omega), (by show _ ≤ 6799882; omega)⟩) hS (fun _ _ h => h) (fun _ h => h) (fun v2 T9 t9 H locs ht hvm hw2 hW hz1 hk1 hS => ?_)
    have hW := cf_W.er ht hW
    have hsim := cf_sim_seat hR hw hw2
    refine lv_istore (lv' := [(6, .int v2), (5, .int k1), (4, .int (nI (5 * i))), (3, .ref (ad2 18 0)), (2, .ref (ad2 6 0)), (1, .ref (ad2 5 0)), (0, .ref b)]) hx hb dL_law_726 hl (by decide) rfl (fun ls hl => ?_)
    refine lv_aload_n hx hb dL_law_728 rfl (lv_at hl 4 rfl) ?_
    refine va_calli (va_runV (As := []) (rest := []) ⟨hx, hb, hml, hown, hts⟩ (c_X6_thrown l D cT s.heap.size ad2 nc2 ng2 T9 P2 O2) (cwV 0 hts gL_law_X6_thrown rfl rfl rfl (by decide +kernel) ⟨Nat.le_of_ble_eq_true rfl, Nat.le_of_ble_eq_true rfl⟩) (cf_preV (T := TX6) (N := 24) hT hS hW cf_e6 rfl) rfl rfl hl.1 rfl (lv_room (Nat.le_of_ble_eq_true rfl)) dL_law_729 ⟨(by show _ ≤ 765407; omega), (by show _ ≤ 6799882; omega)⟩) hS (fun _ _ h => h) (fun _ h => h) (fun r3 u3 t9 H locs ht hvm hw3 hW hz1 hk1 hS => ?_)
    have hW := cf_W.er ht hW
    have hW : cf_W D s.heap.size (cf_E cT nc2 ng2 T9 P2 O2 ad2) ad2 H := hW
    have e3 : r3 = k1 := hw3.trans hsim.1
    refine lv_iload hx hb dL_law_732 (lv_at hl 1 rfl) ?_
    refine lv_icmp_eq (tgt := 739) hx hb dL_law_734 (by decide) (fun c734_7 => ?_) (fun c734_7 => (by first | exact absurd e3 c734_7 | exact absurd c734_7 e3))
    refine lv_iload hx hb dL_law_739 (lv_at hl 1 rfl) ?_
    refine lv_if_ne (tgt := 756) hx hb dL_law_741 (by decide) (fun c741_8 => ?_) (fun c741_8 => ?_)
    · refine lv_goto (tgt := 1580) hx hb dL_law_756 (by decide) ?_
      refine lv_iinc (v := (nI (5 * (i + 1)))) (lv' := [(4, .int (nI (5 * (i + 1)))), (6, .int v2), (5, .int k1), (3, .ref (ad2 18 0)), (2, .ref (ad2 6 0)), (1, .ref (ad2 5 0)), (0, .ref b)]) hx hb dL_law_1580 hl (k := 2) rfl (cf_5s i) (by decide) rfl (fun ls hl => ?_)
      refine lv_goto (tgt := 23) hx hb dL_law_1583 (by decide) ?_
      refine W.widen (k := 60 + (i + 1) * 4) (n := 800 + (i + 1) * 24) (by omega) (by omega) ?_
      exact ih _ _ _ (nc2, ng2, T9, P2, O2, ad2) ⟨hW, hS, by rw [← hag3 5 (by simp), ← hag3 6 (by simp), ← hag3 18 (by simp)]; exact lv_sub hl [0, 3, 4, 5, 6] rfl, hsim.2.2, hag3⟩
    · have hval := hsim.2.1 c741_8
      refine lv_aload_n hx hb dL_law_744 rfl (lv_at hl 3 rfl) ?_
      refine lv_iconst (v := 0) hx hb dL_law_745 (by decide) ?_
      refine cf_lald (k := 18) (i := 0) (ad := ad2) hx hb hT.1 hW 2 cf_e18 rfl (show vp_in 0 1 from vp_in_nI (show (0 : Nat) < 1 by decide) (by decide)) dL_law_746 ?_
      refine lv_iload hx hb dL_law_747 (lv_at hl 0 rfl) ?_
      refine lv_i2l (v := v2.toInt64) hx hb dL_law_749 rfl ?_
      refine W.lcmp hx hb dL_law_750 ?_
      have ec : lg_cmp (O2 0) v2.toInt64 = 0 := by rw [show O2 0 = v2.toInt64 from hval]; simp [lg_cmp]
      refine lv_if_eq (tgt := 756) hx hb dL_law_751 (by decide) (fun c751_9 => ?_) (fun c751_9 => (by first | exact absurd ec c751_9 | exact absurd c751_9 ec))
      refine lv_goto (tgt := 1580) hx hb dL_law_756 (by decide) ?_
      refine lv_iinc (v := (nI (5 * (i + 1)))) (lv' := [(4, .int (nI (5 * (i + 1)))), (6, .int v2), (5, .int k1), (3, .ref (ad2 18 0)), (2, .ref (ad2 6 0)), (1, .ref (ad2 5 0)), (0, .ref b)]) hx hb dL_law_1580 hl (k := 2) rfl (cf_5s i) (by decide) rfl (fun ls hl => ?_)
      refine lv_goto (tgt := 23) hx hb dL_law_1583 (by decide) ?_
      refine W.widen (k := 60 + (i + 1) * 4) (n := 800 + (i + 1) * 24) (by omega) (by omega) ?_
      exact ih _ _ _ (nc2, ng2, T9, P2, O2, ad2) ⟨hW, hS, by rw [← hag3 5 (by simp), ← hag3 6 (by simp), ← hag3 18 (by simp)]; exact lv_sub hl [0, 3, 4, 5, 6] rfl, hsim.2.2, hag3⟩

set_option maxHeartbeats 4000000 in
set_option maxRecDepth 100000 in
theorem cf_case_canBePlayed (l : Launch) (hl0 : l.stackTraces = false) {p : Program} {e : Env} {s : State} {m : MethodId} {below : List Frame} {meth : Method} {c : Code} {b L : Nat} {xs : Nat → Int32} (hL : L ≤ 2560) (C0 : lw_At p s m meth c b L xs) {D : va_G} {cT : Nat → ClassId} (hT : cf_Tb D cT s.heap.size s s.heap) {ad0 : cf_Ad} {i : Nat} (hi : i < L / 5) {H : Heap} {locs : List Loc} {ls : Array Slot} {u : cf_St} (hI : cf_LI D cT s b ad0 i H locs ls u) (ih : ∀ (H2 : Heap) (locs2 : List Loc) (ls2 : Array Slot) (u2 : cf_St), cf_LI D cT s b ad0 (i + 1) H2 locs2 ls2 u2 → W p l e room_1 s m #[Value.ref b] below meth c H2 locs2 (60 + (i + 1) * 4) (800 + (i + 1) * 24) (lw_Z below #[Value.ref b] s) (F0 m 23 ls2 [])) : W p l e room_1 s m #[Value.ref b] below meth c H locs (60 + i * 4) (800 + i * 24) (lw_Z below #[Value.ref b] s) (F0 m 1181 ls []) := by
  obtain ⟨hx, hb, hr, hml, hown, hts0, hX, hbl, hlocks, hgv⟩ := id C0
  have hts : ∀ w ∈ wsL_law, w.before #[Value.ref b] s = true := fun w h => hts0 w (wsL_law_in w h)
  have hbA : ¬ s.heap.size ≤ b := Nat.not_le.mpr hbl
  obtain ⟨nc, ng, S, P, O, ad⟩ := u
  obtain ⟨hW, hS, hl, hR, hag⟩ := hI
  have hW : cf_W D s.heap.size (cf_E cT nc ng S P O ad) ad H := hW
  have hR : cf_R i nc ng S P := hR
  have hag : ∀ k, k = 5 ∨ k = 6 ∨ k = 17 ∨ k = 18 → ad k 0 = ad0 k 0 := hag
  have hl : lv_has ls 7 [(4, .int (nI (5 * i))), (3, .ref (ad 18 0)), (2, .ref (ad 6 0)), (1, .ref (ad 5 0)), (0, .ref b)] := by rw [hag 5 (by simp), hag 6 (by simp), hag 18 (by simp)]; exact hl
  refine lv_aload_n hx hb dL_law_1181 rfl (lv_at hl 3 rfl) ?_
  refine lv_aload_n hx hb dL_law_1182 rfl (lv_at hl 4 rfl) ?_
  refine lv_iload hx hb dL_law_1183 (lv_at hl 0 rfl) ?_
  refine lv_iconst (v := 1) hx hb dL_law_1185 (by decide) ?_
  refine lv_iadd hx hb dL_law_1186 ?_
  refine cf_sld hx hb hX hbl hbA hS (5 * i + 1) (cf_5k 1) (by omega) (by omega) dL_law_1187 ?_
  refine lv_aload_n hx hb dL_law_1188 rfl (lv_at hl 1 rfl) ?_
  refine vx_calli (vx_runSX (As := [.ref (ad 5 0), .int (xs (5 * i + 1)), .ref (ad 18 0)]) (rest := []) ⟨hx, hb, hml, hown, hts⟩ (c_L_canBePlayed l D cT s.heap.size ad nc ng S P O hl0 (xs (5 * i + 1)) hR.1.1 (fun j _ => hR.O j) hR.G) (vx_cwSW 3 hts gL_law_L_canBePlayed rfl rfl rfl (by decide +kernel) ⟨Nat.le_of_ble_eq_true rfl, Nat.le_of_ble_eq_true rfl⟩) (cf_preS hT hS hW) rfl rfl hl.1 rfl (lv_room (Nat.le_of_ble_eq_true rfl)) dL_law_1189 ⟨(by show _ ≤ 765407; omega), (by show _ ≤ 6799882; omega)⟩) hS (fun _ _ h => h) (fun _ h => h) (fun _ _ h => h) (fun E9 ce q9 u9 t9 H locs ht hvm hu hB hz1 hk1 hS hce hcv hcl => absurd hB.1 id) (fun k1 u1 t9 H locs ht hvm hw hW hz1 hk1 hS => ?_)
  have hW9 := cf_W.er ht hW
  have hpre := cf_pre_canBePlayed hR hw
  refine lv_istore (lv' := [(5, .int k1), (4, .int (nI (5 * i))), (3, .ref (ad 18 0)), (2, .ref (ad 6 0)), (1, .ref (ad 5 0)), (0, .ref b)]) hx hb dL_law_1192 hl (by decide) rfl (fun ls hl => ?_)
  obtain ⟨hu1, hu2, hag2, hH⟩ := hpre
  obtain ⟨nc2, ng2, S2, P2, O2, ad2⟩ := u1
  have hu1 : nc2 = nc := hu1
  subst hu1
  have hu2 : ng2 = ng := hu2
  subst hu2
  have hW : cf_W D s.heap.size (cf_E cT nc2 ng2 S2 P2 O2 ad2) ad2 H := hW9
  have hag2 : ∀ k, k = 5 ∨ k = 6 ∨ k = 17 ∨ k = 18 → ad2 k 0 = ad k 0 := hag2
  have hH : cf_H nc2 ng2 S2 P2 P := hH
  have hl : lv_has ls 7 [(5, .int k1), (4, .int (nI (5 * i))), (3, .ref (ad2 18 0)), (2, .ref (ad2 6 0)), (1, .ref (ad2 5 0)), (0, .ref b)] := by rw [hag2 5 (by simp), hag2 6 (by simp), hag2 18 (by simp)]; exact hl
  have hag3 : ∀ k, k = 5 ∨ k = 6 ∨ k = 17 ∨ k = 18 → ad2 k 0 = ad0 k 0 := fun k hk => (hag2 k hk).trans (hag k hk)
  refine lv_aload_n hx hb dL_law_1194 rfl (lv_at hl 3 rfl) ?_
  refine lv_aload_n hx hb dL_law_1195 rfl (lv_at hl 5 rfl) ?_
  refine lv_iload hx hb dL_law_1196 (lv_at hl 1 rfl) ?_
  refine lv_iconst (v := 1) hx hb dL_law_1198 (by decide) ?_
  refine lv_iadd hx hb dL_law_1199 ?_
  refine cf_sld hx hb hX hbl hbA hS (5 * i + 1) (cf_5k 1) (by omega) (by omega) dL_law_1200 ?_
  refine va_calli (va_runV (As := [.int (xs (5 * i + 1))]) (rest := []) ⟨hx, hb, hml, hown, hts⟩ (c_X6_canBePlayed l D cT s.heap.size ad2 nc2 ng2 S2 P2 O2 (xs (5 * i + 1)) hH.1 hH.2.1 hH.2.2.2.2.1) (cwV 1 hts gL_law_X6_canBePlayed rfl rfl rfl (by decide +kernel) ⟨Nat.le_of_ble_eq_true rfl, Nat.le_of_ble_eq_true rfl⟩) (cf_preV (T := TX6) (N := 24) hT hS hW cf_e6 rfl) rfl rfl hl.1 rfl (lv_room (Nat.le_of_ble_eq_true rfl)) dL_law_1201 ⟨(by show _ ≤ 765407; omega), (by show _ ≤ 6799882; omega)⟩) hS (fun _ _ h => h) (fun _ h => h) (fun v2 T9 t9 H locs ht hvm hw2 hW hz1 hk1 hS => ?_)
  have hW := cf_W.er ht hW
  have hsim := cf_sim_canBePlayed hR hw hw2
  refine lv_istore (lv' := [(6, .int v2), (5, .int k1), (4, .int (nI (5 * i))), (3, .ref (ad2 18 0)), (2, .ref (ad2 6 0)), (1, .ref (ad2 5 0)), (0, .ref b)]) hx hb dL_law_1204 hl (by decide) rfl (fun ls hl => ?_)
  refine lv_aload_n hx hb dL_law_1206 rfl (lv_at hl 4 rfl) ?_
  refine va_calli (va_runV (As := []) (rest := []) ⟨hx, hb, hml, hown, hts⟩ (c_X6_thrown l D cT s.heap.size ad2 nc2 ng2 T9 P2 O2) (cwV 0 hts gL_law_X6_thrown rfl rfl rfl (by decide +kernel) ⟨Nat.le_of_ble_eq_true rfl, Nat.le_of_ble_eq_true rfl⟩) (cf_preV (T := TX6) (N := 24) hT hS hW cf_e6 rfl) rfl rfl hl.1 rfl (lv_room (Nat.le_of_ble_eq_true rfl)) dL_law_1207 ⟨(by show _ ≤ 765407; omega), (by show _ ≤ 6799882; omega)⟩) hS (fun _ _ h => h) (fun _ h => h) (fun r3 u3 t9 H locs ht hvm hw3 hW hz1 hk1 hS => ?_)
  have hW := cf_W.er ht hW
  have hW : cf_W D s.heap.size (cf_E cT nc2 ng2 T9 P2 O2 ad2) ad2 H := hW
  have e3 : r3 = k1 := hw3.trans hsim.1
  refine lv_iload hx hb dL_law_1210 (lv_at hl 1 rfl) ?_
  refine lv_icmp_eq (tgt := 1217) hx hb dL_law_1212 (by decide) (fun c1212_1 => ?_) (fun c1212_1 => (by first | exact absurd e3 c1212_1 | exact absurd c1212_1 e3))
  refine lv_iload hx hb dL_law_1217 (lv_at hl 1 rfl) ?_
  refine lv_if_ne (tgt := 1241) hx hb dL_law_1219 (by decide) (fun c1219_2 => ?_) (fun c1219_2 => ?_)
  · refine lv_goto (tgt := 1580) hx hb dL_law_1241 (by decide) ?_
    refine lv_iinc (v := (nI (5 * (i + 1)))) (lv' := [(4, .int (nI (5 * (i + 1)))), (6, .int v2), (5, .int k1), (3, .ref (ad2 18 0)), (2, .ref (ad2 6 0)), (1, .ref (ad2 5 0)), (0, .ref b)]) hx hb dL_law_1580 hl (k := 2) rfl (cf_5s i) (by decide) rfl (fun ls hl => ?_)
    refine lv_goto (tgt := 23) hx hb dL_law_1583 (by decide) ?_
    refine W.widen (k := 60 + (i + 1) * 4) (n := 800 + (i + 1) * 24) (by omega) (by omega) ?_
    exact ih _ _ _ (nc2, ng2, T9, P2, O2, ad2) ⟨hW, hS, by rw [← hag3 5 (by simp), ← hag3 6 (by simp), ← hag3 18 (by simp)]; exact lv_sub hl [0, 3, 4, 5, 6] rfl, hsim.2.2, hag3⟩
  · have hval := hsim.2.1 c1219_2
    refine lv_aload_n hx hb dL_law_1222 rfl (lv_at hl 3 rfl) ?_
    refine lv_iconst (v := 0) hx hb dL_law_1223 (by decide) ?_
    refine cf_lald (k := 18) (i := 0) (ad := ad2) hx hb hT.1 hW 2 cf_e18 rfl (show vp_in 0 1 from vp_in_nI (show (0 : Nat) < 1 by decide) (by decide)) dL_law_1224 ?_
    refine lv_iload hx hb dL_law_1225 (lv_at hl 0 rfl) ?_
    refine lv_if_eq (tgt := 1234) hx hb dL_law_1227 (by decide) (fun c1227_3 => ?_) (fun c1227_3 => ?_)
    · refine lv_lconst (v := 0) hx hb dL_law_1234 (by decide) ?_
      refine W.lcmp hx hb dL_law_1235 ?_
      have ec : lg_cmp (O2 0) 0 = 0 := by rw [show O2 0 = 0 from hval.trans (if_pos c1227_3)]; simp [lg_cmp]
      refine lv_if_eq (tgt := 1241) hx hb dL_law_1236 (by decide) (fun c1236_4 => ?_) (fun c1236_4 => (by first | exact absurd ec c1236_4 | exact absurd c1236_4 ec))
      refine lv_goto (tgt := 1580) hx hb dL_law_1241 (by decide) ?_
      refine lv_iinc (v := (nI (5 * (i + 1)))) (lv' := [(4, .int (nI (5 * (i + 1)))), (6, .int v2), (5, .int k1), (3, .ref (ad2 18 0)), (2, .ref (ad2 6 0)), (1, .ref (ad2 5 0)), (0, .ref b)]) hx hb dL_law_1580 hl (k := 2) rfl (cf_5s i) (by decide) rfl (fun ls hl => ?_)
      refine lv_goto (tgt := 23) hx hb dL_law_1583 (by decide) ?_
      refine W.widen (k := 60 + (i + 1) * 4) (n := 800 + (i + 1) * 24) (by omega) (by omega) ?_
      exact ih _ _ _ (nc2, ng2, T9, P2, O2, ad2) ⟨hW, hS, by rw [← hag3 5 (by simp), ← hag3 6 (by simp), ← hag3 18 (by simp)]; exact lv_sub hl [0, 3, 4, 5, 6] rfl, hsim.2.2, hag3⟩
    · refine lv_lconst (v := 1) hx hb dL_law_1230 (by decide) ?_
      refine lv_goto (tgt := 1235) hx hb dL_law_1231 (by decide) ?_
      refine W.lcmp hx hb dL_law_1235 ?_
      have ec : lg_cmp (O2 0) 1 = 0 := by rw [show O2 0 = 1 from hval.trans (if_neg c1227_3)]; simp [lg_cmp]
      refine lv_if_eq (tgt := 1241) hx hb dL_law_1236 (by decide) (fun c1236_5 => ?_) (fun c1236_5 => (by first | exact absurd ec c1236_5 | exact absurd c1236_5 ec))
      refine lv_goto (tgt := 1580) hx hb dL_law_1241 (by decide) ?_
      refine lv_iinc (v := (nI (5 * (i + 1)))) (lv' := [(4, .int (nI (5 * (i + 1)))), (6, .int v2), (5, .int k1), (3, .ref (ad2 18 0)), (2, .ref (ad2 6 0)), (1, .ref (ad2 5 0)), (0, .ref b)]) hx hb dL_law_1580 hl (k := 2) rfl (cf_5s i) (by decide) rfl (fun ls hl => ?_)
      refine lv_goto (tgt := 23) hx hb dL_law_1583 (by decide) ?_
      refine W.widen (k := 60 + (i + 1) * 4) (n := 800 + (i + 1) * 24) (by omega) (by omega) ?_
      exact ih _ _ _ (nc2, ng2, T9, P2, O2, ad2) ⟨hW, hS, by rw [← hag3 5 (by simp), ← hag3 6 (by simp), ← hag3 18 (by simp)]; exact lv_sub hl [0, 3, 4, 5, 6] rfl, hsim.2.2, hag3⟩
