set_option maxHeartbeats 4000000 in
set_option maxRecDepth 100000 in
theorem cf_case_minute (l : Launch) (hl0 : l.stackTraces = false) {p : Program} {e : Env} {s : State} {m : MethodId} {below : List Frame} {meth : Method} {c : Code} {b L : Nat} {xs : Nat → Int32} (hL : L ≤ 2560) (C0 : lw_At p s m meth c b L xs) {D : va_G} {cT : Nat → ClassId} (hT : cf_Tb D cT s.heap.size s s.heap) {ad0 : cf_Ad} {i : Nat} (hi : i < L / 5) {H : Heap} {locs : List Loc} {ls : Array Slot} {u : cf_St} (hI : cf_LI D cT s b ad0 i H locs ls u) (ih : ∀ (H2 : Heap) (locs2 : List Loc) (ls2 : Array Slot) (u2 : cf_St), cf_LI D cT s b ad0 (i + 1) H2 locs2 ls2 u2 → W p l e room_1 s m #[Value.ref b] below meth c H2 locs2 (60 + (i + 1) * 4) (800 + (i + 1) * 24) (lw_Z below #[Value.ref b] s) (F0 m 23 ls2 [])) : W p l e room_1 s m #[Value.ref b] below meth c H locs (60 + i * 4) (800 + i * 24) (lw_Z below #[Value.ref b] s) (F0 m 1087 ls []) := by
  obtain ⟨hx, hb, hr, hml, hown, hts0, hX, hbl, hlocks, hgv⟩ := id C0
  have hts : ∀ w ∈ wsL_law, w.before #[Value.ref b] s = true := fun w h => hts0 w (wsL_law_in w h)
  have hbA : ¬ s.heap.size ≤ b := Nat.not_le.mpr hbl
  obtain ⟨nc, ng, S, P, O, ad⟩ := u
  obtain ⟨hW, hS, hl, hR, hag⟩ := hI
  have hW : cf_W D s.heap.size (cf_E cT nc ng S P O ad) ad H := hW
  have hR : cf_R i nc ng S P := hR
  have hag : ∀ k, k = 5 ∨ k = 6 ∨ k = 17 ∨ k = 18 → ad k 0 = ad0 k 0 := hag
  have hl : lv_has ls 7 [(4, .int (nI (5 * i))), (3, .ref (ad 18 0)), (2, .ref (ad 6 0)), (1, .ref (ad 5 0)), (0, .ref b)] := by rw [hag 5 (by simp), hag 6 (by simp), hag 18 (by simp)]; exact hl
  refine lv_aload_n hx hb dL_law_1087 rfl (lv_at hl 3 rfl) ?_
  refine va_calli (va_runV (As := []) (rest := []) ⟨hx, hb, hml, hown, hts⟩ (c_X5_minute l D cT s.heap.size ad nc ng S P O) (cwV 0 hts gL_law_X5_minute rfl rfl rfl (by decide +kernel) ⟨Nat.le_of_ble_eq_true rfl, Nat.le_of_ble_eq_true rfl⟩) (cf_preV (T := TX5) (N := 9) hT hS hW cf_e5 rfl) rfl rfl hl.1 rfl (lv_room (Nat.le_of_ble_eq_true rfl)) dL_law_1088 ⟨(by show _ ≤ 765407; omega), (by show _ ≤ 6799882; omega)⟩) hS (fun _ _ h => h) (fun _ h => h) (fun r3 u3 t9 H locs ht hvm hw3 hW hz1 hk1 hS => ?_)
  have hW := cf_W.er ht hW
  refine lv_aload_n hx hb dL_law_1091 rfl (lv_at hl 2 rfl) ?_
  refine va_calli (va_runV (As := []) (rest := [.int r3]) ⟨hx, hb, hml, hown, hts⟩ (c_X6_minute l D cT s.heap.size ad nc ng S P O) (cwV 0 hts gL_law_X6_minute rfl rfl rfl (by decide +kernel) ⟨Nat.le_of_ble_eq_true rfl, Nat.le_of_ble_eq_true rfl⟩) (cf_preV (T := TX6) (N := 24) hT hS hW cf_e6 rfl) rfl rfl hl.1 rfl (lv_room (Nat.le_of_ble_eq_true rfl)) dL_law_1092 ⟨(by show _ ≤ 765407; omega), (by show _ ≤ 6799882; omega)⟩) hS (fun _ _ h => h) (fun _ h => h) (fun r4 T9 t9 H locs ht hvm hw4 hW hz1 hk1 hS => ?_)
  have hW := cf_W.er ht hW
  obtain ⟨hv4, hT9⟩ := hw4
  subst hT9
  have e3 : r3 = r4 := by rw [hw3, hv4]; obtain ⟨t, -, e5, e6⟩ := hR.1.2.2.2.2.2.2.1; rw [e5, e6]
  refine lv_icmp_eq (tgt := 1580) hx hb dL_law_1095 (by decide) (fun c1095_1 => ?_) (fun c1095_1 => (by first | exact absurd e3 c1095_1 | exact absurd c1095_1 e3))
  refine lv_iinc (v := (nI (5 * (i + 1)))) (lv' := [(4, .int (nI (5 * (i + 1)))), (3, .ref (ad 18 0)), (2, .ref (ad 6 0)), (1, .ref (ad 5 0)), (0, .ref b)]) hx hb dL_law_1580 hl (k := 0) rfl (cf_5s i) (by decide) rfl (fun ls hl => ?_)
  refine lv_goto (tgt := 23) hx hb dL_law_1583 (by decide) ?_
  refine W.widen (k := 60 + (i + 1) * 4) (n := 800 + (i + 1) * 24) (by omega) (by omega) ?_
  exact ih _ _ _ (nc, ng, cf_s3 S 6 0 23 0, P, O, ad) ⟨hW, hS, by rw [← hag 5 (by simp), ← hag 6 (by simp), ← hag 18 (by simp)]; exact lv_sub hl [0, 1, 2, 3, 4] rfl, hR.th, hag⟩
set_option maxHeartbeats 4000000 in
set_option maxRecDepth 100000 in
theorem cf_case_copies (l : Launch) (hl0 : l.stackTraces = false) {p : Program} {e : Env} {s : State} {m : MethodId} {below : List Frame} {meth : Method} {c : Code} {b L : Nat} {xs : Nat → Int32} (hL : L ≤ 2560) (C0 : lw_At p s m meth c b L xs) {D : va_G} {cT : Nat → ClassId} (hT : cf_Tb D cT s.heap.size s s.heap) {ad0 : cf_Ad} {i : Nat} (hi : i < L / 5) {H : Heap} {locs : List Loc} {ls : Array Slot} {u : cf_St} (hI : cf_LI D cT s b ad0 i H locs ls u) (ih : ∀ (H2 : Heap) (locs2 : List Loc) (ls2 : Array Slot) (u2 : cf_St), cf_LI D cT s b ad0 (i + 1) H2 locs2 ls2 u2 → W p l e room_1 s m #[Value.ref b] below meth c H2 locs2 (60 + (i + 1) * 4) (800 + (i + 1) * 24) (lw_Z below #[Value.ref b] s) (F0 m 23 ls2 [])) : W p l e room_1 s m #[Value.ref b] below meth c H locs (60 + i * 4) (800 + i * 24) (lw_Z below #[Value.ref b] s) (F0 m 1100 ls []) := by
  obtain ⟨hx, hb, hr, hml, hown, hts0, hX, hbl, hlocks, hgv⟩ := id C0
  have hts : ∀ w ∈ wsL_law, w.before #[Value.ref b] s = true := fun w h => hts0 w (wsL_law_in w h)
  have hbA : ¬ s.heap.size ≤ b := Nat.not_le.mpr hbl
  obtain ⟨nc, ng, S, P, O, ad⟩ := u
  obtain ⟨hW, hS, hl, hR, hag⟩ := hI
  have hW : cf_W D s.heap.size (cf_E cT nc ng S P O ad) ad H := hW
  have hR : cf_R i nc ng S P := hR
  have hag : ∀ k, k = 5 ∨ k = 6 ∨ k = 17 ∨ k = 18 → ad k 0 = ad0 k 0 := hag
  have hl : lv_has ls 7 [(4, .int (nI (5 * i))), (3, .ref (ad 18 0)), (2, .ref (ad 6 0)), (1, .ref (ad 5 0)), (0, .ref b)] := by rw [hag 5 (by simp), hag 6 (by simp), hag 18 (by simp)]; exact hl
  refine lv_aload_n hx hb dL_law_1100 rfl (lv_at hl 3 rfl) ?_
  refine va_calli (va_runV (As := []) (rest := []) ⟨hx, hb, hml, hown, hts⟩ (c_X5_copies l D cT s.heap.size ad nc ng S P O) (cwV 0 hts gL_law_X5_copies rfl rfl rfl (by decide +kernel) ⟨Nat.le_of_ble_eq_true rfl, Nat.le_of_ble_eq_true rfl⟩) (cf_preV (T := TX5) (N := 9) hT hS hW cf_e5 rfl) rfl rfl hl.1 rfl (lv_room (Nat.le_of_ble_eq_true rfl)) dL_law_1101 ⟨(by show _ ≤ 765407; omega), (by show _ ≤ 6799882; omega)⟩) hS (fun _ _ h => h) (fun _ h => h) (fun r3 u3 t9 H locs ht hvm hw3 hW hz1 hk1 hS => ?_)
  have hW := cf_W.er ht hW
  refine lv_aload_n hx hb dL_law_1104 rfl (lv_at hl 2 rfl) ?_
  refine va_calli (va_runV (As := []) (rest := [.int r3]) ⟨hx, hb, hml, hown, hts⟩ (c_X6_copies l D cT s.heap.size ad nc ng S P O) (cwV 0 hts gL_law_X6_copies rfl rfl rfl (by decide +kernel) ⟨Nat.le_of_ble_eq_true rfl, Nat.le_of_ble_eq_true rfl⟩) (cf_preV (T := TX6) (N := 24) hT hS hW cf_e6 rfl) rfl rfl hl.1 rfl (lv_room (Nat.le_of_ble_eq_true rfl)) dL_law_1105 ⟨(by show _ ≤ 765407; omega), (by show _ ≤ 6799882; omega)⟩) hS (fun _ _ h => h) (fun _ h => h) (fun r4 T9 t9 H locs ht hvm hw4 hW hz1 hk1 hS => ?_)
  have hW := cf_W.er ht hW
  obtain ⟨hv4, hT9⟩ := hw4
  subst hT9
  have e3 : r3 = r4 := by rw [hw3, hv4]; rw [hR.1.2.2.1, hR.1.2.2.2.2.1]
  refine lv_icmp_eq (tgt := 1580) hx hb dL_law_1108 (by decide) (fun c1108_1 => ?_) (fun c1108_1 => (by first | exact absurd e3 c1108_1 | exact absurd c1108_1 e3))
  refine lv_iinc (v := (nI (5 * (i + 1)))) (lv' := [(4, .int (nI (5 * (i + 1)))), (3, .ref (ad 18 0)), (2, .ref (ad 6 0)), (1, .ref (ad 5 0)), (0, .ref b)]) hx hb dL_law_1580 hl (k := 0) rfl (cf_5s i) (by decide) rfl (fun ls hl => ?_)
  refine lv_goto (tgt := 23) hx hb dL_law_1583 (by decide) ?_
  refine W.widen (k := 60 + (i + 1) * 4) (n := 800 + (i + 1) * 24) (by omega) (by omega) ?_
  exact ih _ _ _ (nc, ng, cf_s3 S 6 0 23 0, P, O, ad) ⟨hW, hS, by rw [← hag 5 (by simp), ← hag 6 (by simp), ← hag 18 (by simp)]; exact lv_sub hl [0, 1, 2, 3, 4] rfl, hR.th, hag⟩
