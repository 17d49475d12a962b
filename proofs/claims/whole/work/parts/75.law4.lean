set_option maxHeartbeats 4000000 in
set_option maxRecDepth 100000 in
theorem cf_law (l : Launch) (hl0 : l.stackTraces = false) {p : Program} {e : Env} {s : State} {m : MethodId} {below : List Frame} {meth : Method} {c : Code} {b L : Nat} {xs : Nat → Int32} (hL : L ≤ 2560) (C0 : lw_At p s m meth c b L xs) {D : va_G} {cT : Nat → ClassId} (hT : cf_Tb D cT s.heap.size s s.heap) {ad0 : cf_Ad} {H : Heap} {locs : List Loc} {ls : Array Slot} {u : cf_St} (hI : cf_LI D cT s b ad0 0 H locs ls u) : W p l e room_1 s m #[Value.ref b] below meth c H locs 60 800 (lw_Z below #[Value.ref b] s) (F0 m 23 ls []) := by
  refine cf_loopC (β := cf_St) (fun i H locs ls u => cf_LI D cT s b ad0 i H locs ls u) (L / 5) 4 24 (fun H locs ls u hI => ?_) (fun i H locs ls u hi hI ih => ?_) u hI
  · obtain ⟨hx, hb, hr, hml, hown, hts0, hX, hbl, hlocks, hgv⟩ := id C0
    have hts : ∀ w ∈ wsL_law, w.before #[Value.ref b] s = true := fun w h => hts0 w (wsL_law_in w h)
    have hbA : ¬ s.heap.size ≤ b := Nat.not_le.mpr hbl
    obtain ⟨nc, ng, S, P, O, ad⟩ := u
    obtain ⟨hW, hS, hl, hR, hag⟩ := hI
    have hW : cf_W D s.heap.size (cf_E cT nc ng S P O ad) ad H := hW
    have hR : cf_R (L / 5) nc ng S P := hR
    have hag : ∀ k, k = 5 ∨ k = 6 ∨ k = 17 ∨ k = 18 → ad k 0 = ad0 k 0 := hag
    have hl : lv_has ls 7 [(4, .int (nI (5 * (L / 5)))), (3, .ref (ad 18 0)), (2, .ref (ad 6 0)), (1, .ref (ad 5 0)), (0, .ref b)] := by rw [hag 5 (by simp), hag 6 (by simp), hag 18 (by simp)]; exact hl
    refine lv_iload hx hb dL_law_23 (lv_at hl 0 rfl) ?_
    refine lv_aload_n hx hb dL_law_25 rfl (lv_at hl 4 rfl) ?_
    refine va_slen hx hb hX hbl hbA hS dL_law_26 ?_
    refine lv_iconst (v := 5) hx hb dL_law_27 (by decide) ?_
    refine lv_isub hx hb dL_law_28 ?_
    refine lv_icmp_gt (tgt := 1586) hx hb dL_law_29 (by decide) (fun c29_1 => ?_) (fun c29_1 => (by first | exact absurd (cf_lawEnd hL) c29_1 | exact absurd c29_1 (cf_lawEnd hL)))
    refine lv_iconst (v := 1) hx hb dL_law_1586 (by decide) ?_
    refine va_forget hS.2.2 ?_
    refine W.widen (k := 765407) (n := 6799882) (by omega) (by omega) ?_
    exact lw_ret hx hb hr hlocks dL_law_1587
  · have hI9 := hI
    obtain ⟨hx, hb, hr, hml, hown, hts0, hX, hbl, hlocks, hgv⟩ := id C0
    have hts : ∀ w ∈ wsL_law, w.before #[Value.ref b] s = true := fun w h => hts0 w (wsL_law_in w h)
    have hbA : ¬ s.heap.size ≤ b := Nat.not_le.mpr hbl
    obtain ⟨nc, ng, S, P, O, ad⟩ := u
    obtain ⟨hW, hS, hl, hR, hag⟩ := hI
    have hW : cf_W D s.heap.size (cf_E cT nc ng S P O ad) ad H := hW
    have hR : cf_R i nc ng S P := hR
    have hag : ∀ k, k = 5 ∨ k = 6 ∨ k = 17 ∨ k = 18 → ad k 0 = ad0 k 0 := hag
    have hl : lv_has ls 7 [(4, .int (nI (5 * i))), (3, .ref (ad 18 0)), (2, .ref (ad 6 0)), (1, .ref (ad 5 0)), (0, .ref b)] := by rw [hag 5 (by simp), hag 6 (by simp), hag 18 (by simp)]; exact hl
    refine lv_iload hx hb dL_law_23 (lv_at hl 0 rfl) ?_
    refine lv_aload_n hx hb dL_law_25 rfl (lv_at hl 4 rfl) ?_
    refine va_slen hx hb hX hbl hbA hS dL_law_26 ?_
    refine lv_iconst (v := 5) hx hb dL_law_27 (by decide) ?_
    refine lv_isub hx hb dL_law_28 ?_
    refine lv_icmp_gt (tgt := 1586) hx hb dL_law_29 (by decide) (fun c29_1 => (by first | exact absurd c29_1 (cf_lawGo hL hi) | exact absurd (cf_lawGo hL hi) c29_1)) (fun c29_1 => ?_)
    refine lv_aload_n hx hb dL_law_32 rfl (lv_at hl 4 rfl) ?_
    refine lv_iload hx hb dL_law_33 (lv_at hl 0 rfl) ?_
    refine cf_sld hx hb hX hbl hbA hS (5 * i + 0) rfl (by omega) (by omega) dL_law_35 ?_
    refine lv_bipush (v := 31) hx hb dL_law_36 (by decide) ?_
    refine lv_iand hx hb dL_law_38 ?_
    obtain ⟨k, hk, ek⟩ := cf_and31 (xs (5 * i + 0))
    rw [ek]
    by_cases h23 : k < 23
    · rcases (show k = 0 ∨ k = 1 ∨ k = 2 ∨ k = 3 ∨ k = 4 ∨ k = 5 ∨ k = 6 ∨ k = 7 ∨ k = 8 ∨ k = 9 ∨ k = 10 ∨ k = 11 ∨ k = 12 ∨ k = 13 ∨ k = 14 ∨ k = 15 ∨ k = 16 ∨ k = 17 ∨ k = 18 ∨ k = 19 ∨ k = 20 ∨ k = 21 ∨ k = 22 by omega) with rfl | rfl | rfl | rfl | rfl | rfl | rfl | rfl | rfl | rfl | rfl | rfl | rfl | rfl | rfl | rfl | rfl | rfl | rfl | rfl | rfl | rfl | rfl
      · refine lv_tableIn (off := 105) (tgt := 144) hx hb dL_law_39 (by decide) (by decide) (by decide) (by decide) ?_
        exact cf_case_setGame l hl0 hL C0 hT hi hI9 (fun H2 locs2 ls2 u2 h => ih H2 locs2 ls2 u2 h)
      · refine lv_tableIn (off := 177) (tgt := 216) hx hb dL_law_39 (by decide) (by decide) (by decide) (by decide) ?_
        exact cf_case_setParts l hl0 hL C0 hT hi hI9 (fun H2 locs2 ls2 u2 h => ih H2 locs2 ls2 u2 h)
      · refine lv_tableIn (off := 249) (tgt := 288) hx hb dL_law_39 (by decide) (by decide) (by decide) (by decide) ?_
        exact cf_case_setSeats l hl0 hL C0 hT hi hI9 (fun H2 locs2 ls2 u2 h => ih H2 locs2 ls2 u2 h)
      · refine lv_tableIn (off := 317) (tgt := 356) hx hb dL_law_39 (by decide) (by decide) (by decide) (by decide) ?_
        exact cf_case_teach l hl0 hL C0 hT hi hI9 (fun H2 locs2 ls2 u2 h => ih H2 locs2 ls2 u2 h)
      · refine lv_tableIn (off := 420) (tgt := 459) hx hb dL_law_39 (by decide) (by decide) (by decide) (by decide) ?_
        exact cf_case_buy l hl0 hL C0 hT hi hI9 (fun H2 locs2 ls2 u2 h => ih H2 locs2 ls2 u2 h)
      · refine lv_tableIn (off := 476) (tgt := 515) hx hb dL_law_39 (by decide) (by decide) (by decide) (by decide) ?_
        exact cf_case_count l hl0 hL C0 hT hi hI9 (fun H2 locs2 ls2 u2 h => ih H2 locs2 ls2 u2 h)
      · refine lv_tableIn (off := 556) (tgt := 595) hx hb dL_law_39 (by decide) (by decide) (by decide) (by decide) ?_
        exact cf_case_fill l hl0 hL C0 hT hi hI9 (fun H2 locs2 ls2 u2 h => ih H2 locs2 ls2 u2 h)
      · refine lv_tableIn (off := 624) (tgt := 663) hx hb dL_law_39 (by decide) (by decide) (by decide) (by decide) ?_
        exact cf_case_seat l hl0 hL C0 hT hi hI9 (fun H2 locs2 ls2 u2 h => ih H2 locs2 ls2 u2 h)
      · refine lv_tableIn (off := 720) (tgt := 759) hx hb dL_law_39 (by decide) (by decide) (by decide) (by decide) ?_
        exact cf_case_grow l hl0 hL C0 hT hi hI9 (fun H2 locs2 ls2 u2 h => ih H2 locs2 ls2 u2 h)
      · refine lv_tableIn (off := 788) (tgt := 827) hx hb dL_law_39 (by decide) (by decide) (by decide) (by decide) ?_
        exact cf_case_go l hl0 hL C0 hT hi hI9 (fun H2 locs2 ls2 u2 h => ih H2 locs2 ls2 u2 h)
      · refine lv_tableIn (off := 844) (tgt := 883) hx hb dL_law_39 (by decide) (by decide) (by decide) (by decide) ?_
        exact cf_case_advance l hl0 hL C0 hT hi hI9 (fun H2 locs2 ls2 u2 h => ih H2 locs2 ls2 u2 h)
      · refine lv_tableIn (off := 900) (tgt := 939) hx hb dL_law_39 (by decide) (by decide) (by decide) (by decide) ?_
        exact cf_case_lend l hl0 hL C0 hT hi hI9 (fun H2 locs2 ls2 u2 h => ih H2 locs2 ls2 u2 h)
      · refine lv_tableIn (off := 968) (tgt := 1007) hx hb dL_law_39 (by decide) (by decide) (by decide) (by decide) ?_
        exact cf_case_giveBack l hl0 hL C0 hT hi hI9 (fun H2 locs2 ls2 u2 h => ih H2 locs2 ls2 u2 h)
      · refine lv_tableIn (off := 1048) (tgt := 1087) hx hb dL_law_39 (by decide) (by decide) (by decide) (by decide) ?_
        exact cf_case_minute l hl0 hL C0 hT hi hI9 (fun H2 locs2 ls2 u2 h => ih H2 locs2 ls2 u2 h)
      · refine lv_tableIn (off := 1061) (tgt := 1100) hx hb dL_law_39 (by decide) (by decide) (by decide) (by decide) ?_
        exact cf_case_copies l hl0 hL C0 hT hi hI9 (fun H2 locs2 ls2 u2 h => ih H2 locs2 ls2 u2 h)
      · refine lv_tableIn (off := 1074) (tgt := 1113) hx hb dL_law_39 (by decide) (by decide) (by decide) (by decide) ?_
        exact cf_case_parts l hl0 hL C0 hT hi hI9 (fun H2 locs2 ls2 u2 h => ih H2 locs2 ls2 u2 h)
      · refine lv_tableIn (off := 1142) (tgt := 1181) hx hb dL_law_39 (by decide) (by decide) (by decide) (by decide) ?_
        exact cf_case_canBePlayed l hl0 hL C0 hT hi hI9 (fun H2 locs2 ls2 u2 h => ih H2 locs2 ls2 u2 h)
      · refine lv_tableIn (off := 1205) (tgt := 1244) hx hb dL_law_39 (by decide) (by decide) (by decide) (by decide) ?_
        exact cf_case_whereIs l hl0 hL C0 hT hi hI9 (fun H2 locs2 ls2 u2 h => ih H2 locs2 ls2 u2 h)
      · refine lv_tableIn (off := 1261) (tgt := 1300) hx hb dL_law_39 (by decide) (by decide) (by decide) (by decide) ?_
        exact cf_case_at l hl0 hL C0 hT hi hI9 (fun H2 locs2 ls2 u2 h => ih H2 locs2 ls2 u2 h)
      · refine lv_tableIn (off := 1317) (tgt := 1356) hx hb dL_law_39 (by decide) (by decide) (by decide) (by decide) ?_
        exact cf_case_copyOf l hl0 hL C0 hT hi hI9 (fun H2 locs2 ls2 u2 h => ih H2 locs2 ls2 u2 h)
      · refine lv_tableIn (off := 1373) (tgt := 1412) hx hb dL_law_39 (by decide) (by decide) (by decide) (by decide) ?_
        exact cf_case_teaching l hl0 hL C0 hT hi hI9 (fun H2 locs2 ls2 u2 h => ih H2 locs2 ls2 u2 h)
      · refine lv_tableIn (off := 1429) (tgt := 1468) hx hb dL_law_39 (by decide) (by decide) (by decide) (by decide) ?_
        exact cf_case_plays l hl0 hL C0 hT hi hI9 (fun H2 locs2 ls2 u2 h => ih H2 locs2 ls2 u2 h)
      · refine lv_tableIn (off := 1485) (tgt := 1524) hx hb dL_law_39 (by decide) (by decide) (by decide) (by decide) ?_
        exact cf_case_propose l hl0 hL C0 hT hi hI9 (fun H2 locs2 ls2 u2 h => ih H2 locs2 ls2 u2 h)
    · refine lv_tableOut (tgt := 1580) hx hb dL_law_39 (Or.inr (by rw [nI_toInt (by omega)]; omega)) (by decide) ?_
      refine lv_iinc (v := (nI (5 * (i + 1)))) (lv' := [(4, .int (nI (5 * (i + 1)))), (3, .ref (ad 18 0)), (2, .ref (ad 6 0)), (1, .ref (ad 5 0)), (0, .ref b)]) hx hb dL_law_1580 hl (k := 0) rfl (cf_5s i) (by decide) rfl (fun ls hl => ?_)
      refine lv_goto (tgt := 23) hx hb dL_law_1583 (by decide) ?_
      refine W.widen (k := 60 + (i + 1) * 4) (n := 800 + (i + 1) * 24) (by omega) (by omega) ?_
      exact ih _ _ _ (nc, ng, S, P, O, ad) ⟨hW, hS, by rw [← hag 5 (by simp), ← hag 6 (by simp), ← hag 18 (by simp)]; exact lv_sub hl [0, 1, 2, 3, 4] rfl, ⟨hR.1, hR.2.1.up, hR.2.2⟩, hag⟩
