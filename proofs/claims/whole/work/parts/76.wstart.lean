set_option maxHeartbeats 4000000 in
set_option maxRecDepth 100000 in
theorem whole_start {p : Program} {e : Env} {s : State} {m : MethodId} {below : List Frame} {meth : Method} {c : Code} (l : Launch) (hflags : l.flags = flags0) {b L : Nat} {xs : Nat → Int32} (hL : L ≤ 2560) (C0 : lw_At p s m meth c b L xs) : W p l e room_1 s m #[Value.ref b] below meth c s.heap [] 0 0 (lw_Z below #[Value.ref b] s) (entryFrame m ([Value.ref b] : List Value).toArray 7) := by
  obtain ⟨hx, hb, hr, hml, hown, hts0, hX, hbl, hlocks, hgv⟩ := id C0
  have hts : ∀ w ∈ wsL_law, w.before #[Value.ref b] s = true := fun w h => hts0 w (wsL_law_in w h)
  have hl0 : l.stackTraces = false := by unfold Launch.stackTraces; rw [hflags]; decide
  obtain ⟨D, cT, hT⟩ := cf_start C0
  have hS : va_S (fun q => s.heap.size ≤ q) s.heap s.heap [] := va_S.rf
  have hW : cf_W D s.heap.size (fun _ _ => none) (fun _ _ => 0) s.heap := cf_none (Nat.le_refl _)
  have hl := lv_entry ([.ref b]) (n := 7) (Nat.le_of_ble_eq_true rfl)
  rw [lg_entry_eq]
  generalize (lg_sl ([.ref b]) ++ List.replicate (7 - (lg_sl ([.ref b])).length) Slot.unset).toArray = ls at hl ⊢
  have hl : lv_has ls 7 [(0, .ref b)] := hl
  refine cf_new (ci := 5) (fs := [.null, .null, .null, .null, .null, .null, .int 0, .int 0, .int 0]) (C := RX5) (T := TX5) (N := 9) (ad := fun _ _ => 0) hx hb hts inlX5 tyX5 tyX5_ok hown (hts (.classLink RL 8 RX5) (List.mem_of_getElem? (i := 0) rfl)) (hts (.instantiable RX5 9) (List.mem_of_getElem? (i := 1) rfl)) (hts (.initialized RX5) (List.mem_of_getElem? (i := 2) rfl)) hT.1 hW hS 5 0 rfl rfl (fun j hj => by rcases (show j = 0 ∨ j = 1 ∨ j = 2 ∨ j = 3 ∨ j = 4 ∨ j = 5 ∨ j = 6 ∨ j = 7 ∨ j = 8 by omega) with rfl | rfl | rfl | rfl | rfl | rfl | rfl | rfl | rfl <;> rfl) (Nat.le_of_ble_eq_true rfl) (Nat.le_of_ble_eq_true rfl) dL_law_0 (fun q5 H hW hS => ?_)
  have hW : cf_W D s.heap.size cf_N5 (cf_g2 (fun _ _ => 0) 5 0 q5) H := hW
  generalize (cf_g2 (fun _ _ => 0) 5 0 q5) = b0 at hW ⊢
  refine lv_dup hx hb dL_law_3 rfl ?_
  refine va_callv (va_runI (As := []) (rest := [.ref (b0 5 0)]) ⟨hx, hb, hml, hown, hts⟩ (c_X5_init l D cT s.heap.size b0) (cwI 0 hts gL_law_X5_init rfl rfl rfl (hts (.initialized RX5) (List.mem_of_getElem? (i := 2) rfl)) (hts (.methodLink RL 85 yX5_init) (List.mem_of_getElem? (i := 7) rfl)) (hts (.instanceMethod yX5_init) (List.mem_of_getElem? (i := 8) rfl)) rfl (by decide +kernel) ⟨Nat.le_of_ble_eq_true rfl, Nat.le_of_ble_eq_true rfl⟩) (cf_preS hT hS hW) rfl rfl hl.1 rfl (lv_room (Nat.le_of_ble_eq_true rfl)) dL_law_4 ⟨(Nat.le_of_ble_eq_true rfl), (Nat.le_of_ble_eq_true rfl)⟩) hS (fun _ _ h => h) (fun _ h => h) (fun b5 t9 H2 locs ht hvm hw hW hz1 hk1 hS => ?_)
  have hw : b5 5 0 = b0 5 0 := hw
  rw [← hw]
  have hW5 : cf_W D s.heap.size (cf_w5 cT 5 6 3 b5) b5 H2 := cf_W.er ht hW
  refine lv_astore_n (lv' := [(1, .ref (b5 5 0)), (0, .ref b)]) hx hb dL_law_7 rfl hl (by decide) rfl (fun ls hl => ?_)
  have hz : s.heap.size ≤ H2.size := hS.1
  have hlt5 : ∀ k i e, cf_w5 cT 5 6 3 b5 k i = some e → b5 k i < H2.size := fun k i e h => hW5.lt h
  refine cf_new6 hx hb hts inlX6 hown (hts (.classLink RL 86 RX6) (List.mem_of_getElem? (i := 3) rfl)) (hts (.instantiable RX6 24) (List.mem_of_getElem? (i := 4) rfl)) (hts (.initialized RX6) (List.mem_of_getElem? (i := 5) rfl)) hT.1 hz hS (Nat.le_of_ble_eq_true rfl) (Nat.le_of_ble_eq_true rfl) dL_law_8 (fun H1 s1 o1 hW6 hS => ?_)
  refine lv_dup hx hb dL_law_11 rfl ?_
  have ha0 : (cf_g2 (fun _ _ => 0) 6 0 H2.size) 6 0 = H2.size := cf_g2s
  have hpre : PreS s H1 (va_Pc [.ref H2.size] (cf_P D cT H2.size cf_N6 (cf_g2 (fun _ _ => 0) 6 0 H2.size))) [.ref H2.size] := ⟨cf_P.blind, fun U hU hw9 => ⟨rfl, by rw [hU]; exact hW6, by rw [hU]; exact cf_Tb.warm hw9 ((hT.kept hS.2.1).narrow hz)⟩⟩
  refine va_callv (va_runI (As := []) (rest := [.ref H2.size]) ⟨hx, hb, hml, hown, hts⟩ (c_X6_init l D cT H2.size H2.size (cf_g2 (fun _ _ => 0) 6 0 H2.size) ha0) (cwI 0 hts gL_law_X6_init rfl rfl rfl (hts (.initialized RX6) (List.mem_of_getElem? (i := 5) rfl)) (hts (.methodLink RL 88 yX6_init) (List.mem_of_getElem? (i := 56) rfl)) (hts (.instanceMethod yX6_init) (List.mem_of_getElem? (i := 57) rfl)) rfl (by decide +kernel) ⟨Nat.le_of_ble_eq_true rfl, Nat.le_of_ble_eq_true rfl⟩) hpre rfl rfl hl.1 rfl (lv_room (Nat.le_of_ble_eq_true rfl)) dL_law_12 ⟨(Nat.le_of_ble_eq_true rfl), (Nat.le_of_ble_eq_true rfl)⟩) hS (fun _ _ h => Nat.le_trans hz h) (fun _ h => Nat.le_trans hz h) (fun b6 t9 H3 locs ht hvm hw6 hW hz1 hk1 hS => ?_)
  have hw6 : b6 6 0 = H2.size := hw6
  rw [← hw6]
  have hW6 : cf_W D H2.size (cf_K cf_m6 (cf_E cT 0 0 (cf_L3 6) cf_P0 cf_O0 b6)) b6 H3 := cf_W.er ht hW
  have hW5 := hW5.kept (H1 := H3) (by omega) (fun q hq => (hk1 q (by omega) (Nat.not_le.mpr hq)).trans (o1 q hq))
  have hW := cf_join hW5 hW6 hz hlt5
  have hW := cf_W.arr hW (k := 11) (i := 0) (f2 := fun j => some (b5 1 j)) rfl (fun j hj => if_pos hj)
  have hW := cf_W.arr hW (k := 12) (i := 0) (f2 := fun j => some (b5 3 j)) rfl (fun j hj => if_pos hj)
  have hW := cf_W.arr hW (k := 13) (i := 0) (f2 := fun j => some (b5 4 j)) rfl (fun j hj => if_pos hj)
  refine lv_astore_n (lv' := [(2, .ref (b6 6 0)), (1, .ref (b5 5 0)), (0, .ref b)]) hx hb dL_law_15 rfl hl (by decide) rfl (fun ls hl => ?_)
  refine lv_iconst (v := 1) hx hb dL_law_16 (by decide) ?_
  refine cf_newa (atype := .long) (ty := .long) (ad := cf_adJ b5 b6) (N' := 1) (a0 := (1, .inr (.inl (fun _ => 0)))) hx hb (hts (.arrayClass .long) (List.mem_of_getElem? (i := 6) rfl)) hT.1 hW hS 18 0 rfl 2 rfl rfl (fun _ => rfl) (by decide) rfl (Nat.le_of_ble_eq_true rfl) (Nat.le_of_ble_eq_true rfl) (Nat.le_of_ble_eq_true rfl) dL_law_17 (fun q H hW hS => ?_)
  have hW := cf_W.eqv hW (cf_E0 (q := q))
  refine lv_astore_n (lv' := [(3, .ref ((cf_g2 (cf_adJ b5 b6) 18 0 q) 18 0)), (2, .ref (b6 6 0)), (1, .ref (b5 5 0)), (0, .ref b)]) hx hb dL_law_19 rfl hl (by decide) rfl (fun ls hl => ?_)
  refine lv_iconst (v := 0) hx hb dL_law_20 (by decide) ?_
  refine lv_istore (lv' := [(4, .int 0), (3, .ref ((cf_g2 (cf_adJ b5 b6) 18 0 q) 18 0)), (2, .ref (b6 6 0)), (1, .ref (b5 5 0)), (0, .ref b)]) hx hb dL_law_21 hl (by decide) rfl (fun ls hl => ?_)
  refine W.widen (k := 60) (n := 800) (Nat.le_of_ble_eq_true rfl) (Nat.le_of_ble_eq_true rfl) ?_
  exact cf_law l hl0 hL C0 hT (ad0 := cf_g2 (cf_adJ b5 b6) 18 0 q) (u := (0, 0, cf_S0, cf_P0, cf_O0, cf_g2 (cf_adJ b5 b6) 18 0 q)) ⟨hW, hS, lv_sub hl [0, 1, 2, 3, 4] rfl, cf_R0, fun _ _ => rfl⟩
