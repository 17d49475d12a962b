set_option maxHeartbeats 4000000 in
set_option maxRecDepth 100000 in
/-- X0_init -/
theorem c_X0_init (l : Launch) (D : va_G) (cT : Nat → ClassId) (z : Nat) (ad : cf_Ad) (E : cf_T) {i gm : Nat} (x : Int32) (v0 v1 v2 v3 v5 : Value) (f : Nat → Int32) (h00 : E 0 i = some (.inr (0, [.int 0, .null, .null, .int 0]))) (h01 : E 1 gm = some (.inr (1, [v0, v1, v2, v3, .ref (ad 8 gm), v5]))) (h08 : E 8 gm = some (.inl (cT 0, 4, .inl f))) (h07 : E 7 i = none) : Met l yX0_init wsX0_init ({ frames := 1, cells := 1, slots := 4, locals := 16 }) (va_Pc [.ref (ad 0 i), .int x, .ref (ad 1 gm)] (cf_P D cT z E ad)) (cf_Qv D z (fun (_ : Nat) => True) (fun u => (cf_g2 (cf_g2 E 7 i (some (.inl (cT 0, 4, .inl f)))) 0 i (some (.inr (0, [.int x, .ref (ad 1 gm), .ref ((cf_g2 ad 7 i u) 7 i), .int 0]))))) (fun u => (cf_g2 ad 7 i u))) 1 4 (fun q => z ≤ q) := by
  refine Met.ofW (cc := cX0_init) (maxL := 3) (ret := none) (by decide) rfl ?_
  intro p e s m args below meth c s₁ B hml hv
  obtain ⟨rfl, hW, hT⟩ := hv
  have hx := B.exec
  have hb := B.bytes
  have hr := B.returns
  have hts := atoms_spec (ws := wsX0_init) B.pre
  have hown : s.vm.findClass RX0 = some m.cls := findClass_of_methodNamed B.named
  have hlocks := B.notSynchronized
  have hS : va_S (fun q => z ≤ q) s.heap s.heap [] := va_S.rf
  have hl := lv_entry ([.ref (ad 0 i), .int x, .ref (ad 1 gm)]) (n := 3) (Nat.le_of_ble_eq_true rfl)
  rw [lg_entry_eq]
  generalize (lg_sl ([.ref (ad 0 i), .int x, .ref (ad 1 gm)]) ++ List.replicate (3 - (lg_sl ([.ref (ad 0 i), .int x, .ref (ad 1 gm)])).length) Slot.unset).toArray = ls at hl ⊢
  have hl : lv_has ls 3 [(0, .ref (ad 0 i)), (1, .int x), (2, .ref (ad 1 gm))] := hl
  skip
  have hin0 : meth.name = "<init>" := (name_of_methodNamed B.named B.method).1
  refine lv_aload_n hx hb dX0_init_0 rfl (lv_at hl 0 rfl) ?_
  refine W.objInit hx hb hown (hts (.methodLink RX0 3 objectInit) (List.mem_of_getElem? (i := 1) rfl)) (hts (.instanceMethod objectInit) (List.mem_of_getElem? (i := 2) rfl)) (hts (.code objectInit ⟨#[0xb1]⟩ 1 none) (List.mem_of_getElem? (i := 3) rfl)) rfl (by rw [hml]; exact hl.1) rfl dX0_init_1 (Nat.le_of_ble_eq_true rfl) (Nat.le_of_ble_eq_true rfl) ?_
  refine W.eq (g2 := F0 m 4 ls []) rfl ?_
  refine lv_aload_n hx hb dX0_init_4 rfl (lv_at hl 0 rfl) ?_
  refine lv_iconst (v := 0) hx hb dX0_init_5 (by decide) ?_
  refine cf_putE (v := .int 0) (k := 0) (i := i) (ad := ad) (ty := .int) (ci := 0) (C := RX0) (T := TX0) (N := 4) hx hb hts (fun _ h => List.mem_cons_of_mem _ (List.mem_append_left _ (List.mem_append_right _ (h)))) tyX0 tyX0_ok nmX0 hown hT.1 hW hS h00 rfl 3 (by decide) (hts (.fieldLink RX0 9 "GameCafe$Copy" "place" "I") (List.mem_of_getElem? (i := 4) rfl)) (fun _ h9 => h9) rfl (by decide +kernel) rfl rfl (Nat.le_of_ble_eq_true rfl) dX0_init_6 (E2 := (cf_g2 E 0 i (some (.inr (0, [.int 0, .null, .null, .int 0]))))) rfl (fun H locs hW hS => ?_)
  refine lv_aload_n hx hb dX0_init_9 rfl (lv_at hl 0 rfl) ?_
  refine lv_iload_n hx hb dX0_init_10 rfl (lv_at hl 1 rfl) ?_
  refine cf_putFE (v := .int x) (k := 0) (i := i) (ad := ad) (ty := .int) (ci := 0) (C := RX0) (T := TX0) (N := 4) hx hb hts (fun _ h => List.mem_cons_of_mem _ (List.mem_append_left _ (List.mem_append_right _ (h)))) tyX0 tyX0_ok nmX0 hown hT.1 hW hS cf_g2s rfl 0 (by decide) (hts (.fieldLink RX0 15 "GameCafe$Copy" "number" "I") (List.mem_of_getElem? (i := 5) rfl)) (fun _ h9 => h9) rfl hin0 rfl (by decide +kernel) rfl rfl (Nat.le_of_ble_eq_true rfl) dX0_init_11 (E2 := (cf_g2 E 0 i (some (.inr (0, [.int x, .null, .null, .int 0]))))) cf_g2c (fun H locs hW hS => ?_)
  refine lv_aload_n hx hb dX0_init_14 rfl (lv_at hl 0 rfl) ?_
  refine lv_aload_n hx hb dX0_init_15 rfl (lv_at hl 2 rfl) ?_
  refine cf_putFE (v := .ref (ad 1 gm)) (k := 0) (i := i) (ad := ad) (ty := (.object "GameCafe$Game")) (ci := 0) (C := RX0) (T := TX0) (N := 4) hx hb hts (fun _ h => List.mem_cons_of_mem _ (List.mem_append_left _ (List.mem_append_right _ (h)))) tyX0 tyX0_ok nmX0 hown hT.1 hW hS cf_g2s rfl 1 (by decide) (hts (.fieldLink RX0 18 "GameCafe$Copy" "game" "LGameCafe$Game;") (List.mem_of_getElem? (i := 6) rfl)) (fun _ h9 => h9) rfl hin0 rfl (by decide +kernel) rfl rfl (Nat.le_of_ble_eq_true rfl) dX0_init_16 (E2 := (cf_g2 E 0 i (some (.inr (0, [.int x, .ref (ad 1 gm), .null, .int 0]))))) cf_g2c (fun H locs hW hS => ?_)
  refine lv_aload_n hx hb dX0_init_19 rfl (lv_at hl 0 rfl) ?_
  refine lv_aload_n hx hb dX0_init_20 rfl (lv_at hl 2 rfl) ?_
  refine cf_get (v := .ref (ad 8 gm)) (k := 1) (i := gm) (ad := ad) (ci := 1) (C := RX1) (T := TX1) (N := 6) hx hb hts (fun _ h => List.mem_cons_of_mem _ (List.mem_append_right _ (h))) hown hT.1 hW ((cf_g2n (fun q9 => absurd q9.1 (by decide))).trans h01) rfl 4 (by decide) (hts (.fieldLink RX0 22 "GameCafe$Game" "whole" "[I") (List.mem_of_getElem? (i := 7) rfl)) (fun _ h9 => h9) rfl dX0_init_21 ?_
  refine cf_cln (ad := ad) (nm := "[I") (k0 := 8) (i0 := gm) (x := (4, .inl f)) (ty := .int) hx hb (hml.trans hl.1.symm) hown (hts (.methodLink RX0 28 ⟨"[I", "clone", "()Ljava/lang/Object;"⟩) (List.mem_of_getElem? (i := 8) rfl)) (hts (.sameMethod "[I" "java/lang/Object" "clone" "()Ljava/lang/Object;") (List.mem_of_getElem? (i := 9) rfl)) (hts (.native ⟨"java/lang/Object", "clone", "()Ljava/lang/Object;"⟩) (List.mem_of_getElem? (i := 10) rfl)) (hts (.instanceMethod ⟨"java/lang/Object", "clone", "()Ljava/lang/Object;"⟩) (List.mem_of_getElem? (i := 11) rfl)) (hts (.selects "[I" ⟨"[I", "clone", "()Ljava/lang/Object;"⟩ ⟨"java/lang/Object", "clone", "()Ljava/lang/Object;"⟩) (List.mem_of_getElem? (i := 12) rfl)) (hT.2.2.1 ("[I", "java/lang/Cloneable") (List.mem_of_getElem? (i := 3) rfl)) hT.1 hW hS 0 ((cf_g2n (fun q9 => absurd q9.1 (by decide))).trans h08) rfl 7 i ((cf_g2n (fun q9 => absurd q9.1 (by decide))).trans h07) (cf_nmint hT.1) (fun j v hv => va_fit (n := 4) (F := fun j => .int (f j)) (fun _ _ => rfl) j v hv) (Nat.le_of_ble_eq_true rfl) (Nat.le_of_ble_eq_true rfl) (Nat.le_of_ble_eq_true rfl) (Nat.le_of_ble_eq_true rfl) dX0_init_24 (fun q1 H hW hS => ?_)
  have hl : lv_has ls 3 [(0, .ref ((cf_g2 ad 7 i q1) 0 i)), (1, .int x), (2, .ref ((cf_g2 ad 7 i q1) 1 gm))] := hl
  refine cf_castA (ad := (cf_g2 ad 7 i q1)) (k := 7) (i := i) (nm := "[I") hx hb hown (hts (.classLink RX0 29 "[I") (List.mem_of_getElem? (i := 13) rfl)) hW cf_g2s (cf_nmint hT.1) dX0_init_27 ?_
  refine cf_putFE (v := .ref ((cf_g2 ad 7 i q1) 7 i)) (k := 0) (i := i) (ad := (cf_g2 ad 7 i q1)) (ty := (.array .int)) (ci := 0) (C := RX0) (T := TX0) (N := 4) hx hb hts (fun _ h => List.mem_cons_of_mem _ (List.mem_append_left _ (List.mem_append_right _ (h)))) tyX0 tyX0_ok nmX0 hown hT.1 hW hS ((cf_g2n (fun q9 => absurd q9.1 (by decide))).trans cf_g2s) rfl 2 (by decide) (hts (.fieldLink RX0 33 "GameCafe$Copy" "has" "[I") (List.mem_of_getElem? (i := 14) rfl)) (fun _ h9 => h9) rfl hin0 rfl (by decide +kernel) rfl rfl (Nat.le_of_ble_eq_true rfl) dX0_init_30 (E2 := (cf_g2 (cf_g2 E 7 i (some (.inl (cT 0, 4, .inl f)))) 0 i (some (.inr (0, [.int x, .ref (ad 1 gm), .ref ((cf_g2 ad 7 i q1) 7 i), .int 0]))))) cf_g2r (fun H locs hW hS => ?_)
  exact W.vret hx hb hr (fun t9 ht9 hw9 => ⟨⟨q1, rfl, trivial, cf_W.re ht9 hW⟩, hS.F ht9⟩) hS.2.2 dX0_init_33
set_option maxHeartbeats 4000000 in
set_option maxRecDepth 100000 in
/-- X1_init -/
theorem c_X1_init (l : Launch) (D : va_G) (cT : Nat → ClassId) (z : Nat) (ad : cf_Ad) (E : cf_T) {i : Nat} (h01 : E 1 i = some (.inr (1, [.int 0, .int 0, .int 0, .int 0, .null, .null]))) (h08 : E 8 i = none) (h09 : E 9 i = none) : Met l yX1_init wsX1_init ({ frames := 1, cells := 2, slots := 8, locals := 12 }) (va_Pc [.ref (ad 1 i)] (cf_P D cT z E ad)) (cf_Qv D z (fun (_ : Nat × Nat) => True) (fun u => (cf_g2 (cf_g2 (cf_g2 E 8 i (some (.inl (cT 0, 4, .inl (upd (upd (upd (upd (fun _ => 0) 0 5) 1 5) 2 5) 3 5))))) 9 i (some (.inl (cT 0, 4, .inl (upd (upd (upd (upd (fun _ => 0) 0 4) 1 4) 2 4) 3 4))))) 1 i (some (.inr (1, [.int 2, .int 4, .int 10, .int 0, .ref ((cf_g2 ad 8 i u.1) 8 i), .ref ((cf_g2 (cf_g2 ad 8 i u.1) 9 i u.2) 9 i)]))))) (fun u => (cf_g2 (cf_g2 ad 8 i u.1) 9 i u.2))) 2 8 (fun q => z ≤ q) := by
  refine Met.ofW (cc := cX1_init) (maxL := 1) (ret := none) (by decide) rfl ?_
  intro p e s m args below meth c s₁ B hml hv
  obtain ⟨rfl, hW, hT⟩ := hv
  have hx := B.exec
  have hb := B.bytes
  have hr := B.returns
  have hts := atoms_spec (ws := wsX1_init) B.pre
  have hown : s.vm.findClass RX1 = some m.cls := findClass_of_methodNamed B.named
  have hlocks := B.notSynchronized
  have hS : va_S (fun q => z ≤ q) s.heap s.heap [] := va_S.rf
  have hl := lv_entry ([.ref (ad 1 i)]) (n := 1) (Nat.le_of_ble_eq_true rfl)
  rw [lg_entry_eq]
  generalize (lg_sl ([.ref (ad 1 i)]) ++ List.replicate (1 - (lg_sl ([.ref (ad 1 i)])).length) Slot.unset).toArray = ls at hl ⊢
  have hl : lv_has ls 1 [(0, .ref (ad 1 i))] := hl
  skip
  have hin0 : meth.name = "<init>" := (name_of_methodNamed B.named B.method).1
  refine lv_aload_n hx hb dX1_init_0 rfl (lv_at hl 0 rfl) ?_
  refine W.objInit hx hb hown (hts (.methodLink RX1 1 objectInit) (List.mem_of_getElem? (i := 1) rfl)) (hts (.instanceMethod objectInit) (List.mem_of_getElem? (i := 2) rfl)) (hts (.code objectInit ⟨#[0xb1]⟩ 1 none) (List.mem_of_getElem? (i := 3) rfl)) rfl (by rw [hml]; exact hl.1) rfl dX1_init_1 (Nat.le_of_ble_eq_true rfl) (Nat.le_of_ble_eq_true rfl) ?_
  refine W.eq (g2 := F0 m 4 ls []) rfl ?_
  refine lv_aload_n hx hb dX1_init_4 rfl (lv_at hl 0 rfl) ?_
  refine lv_iconst (v := 2) hx hb dX1_init_5 (by decide) ?_
  refine cf_putE (v := .int 2) (k := 1) (i := i) (ad := ad) (ty := .int) (ci := 1) (C := RX1) (T := TX1) (N := 6) hx hb hts (fun _ h => List.mem_cons_of_mem _ (List.mem_append_right _ (h))) tyX1 tyX1_ok nmX1 hown hT.1 hW hS h01 rfl 0 (by decide) (hts (.fieldLink RX1 7 "GameCafe$Game" "least" "I") (List.mem_of_getElem? (i := 4) rfl)) (fun _ h9 => h9) rfl (by decide +kernel) rfl rfl (Nat.le_of_ble_eq_true rfl) dX1_init_6 (E2 := (cf_g2 E 1 i (some (.inr (1, [.int 2, .int 0, .int 0, .int 0, .null, .null]))))) rfl (fun H locs hW hS => ?_)
  refine lv_aload_n hx hb dX1_init_9 rfl (lv_at hl 0 rfl) ?_
  refine lv_iconst (v := 4) hx hb dX1_init_10 (by decide) ?_
  refine cf_putE (v := .int 4) (k := 1) (i := i) (ad := ad) (ty := .int) (ci := 1) (C := RX1) (T := TX1) (N := 6) hx hb hts (fun _ h => List.mem_cons_of_mem _ (List.mem_append_right _ (h))) tyX1 tyX1_ok nmX1 hown hT.1 hW hS cf_g2s rfl 1 (by decide) (hts (.fieldLink RX1 13 "GameCafe$Game" "most" "I") (List.mem_of_getElem? (i := 5) rfl)) (fun _ h9 => h9) rfl (by decide +kernel) rfl rfl (Nat.le_of_ble_eq_true rfl) dX1_init_11 (E2 := (cf_g2 E 1 i (some (.inr (1, [.int 2, .int 4, .int 0, .int 0, .null, .null]))))) cf_g2c (fun H locs hW hS => ?_)
  refine lv_aload_n hx hb dX1_init_14 rfl (lv_at hl 0 rfl) ?_
  refine lv_bipush (v := 10) hx hb dX1_init_15 (by decide) ?_
  refine cf_putE (v := .int 10) (k := 1) (i := i) (ad := ad) (ty := .int) (ci := 1) (C := RX1) (T := TX1) (N := 6) hx hb hts (fun _ h => List.mem_cons_of_mem _ (List.mem_append_right _ (h))) tyX1 tyX1_ok nmX1 hown hT.1 hW hS cf_g2s rfl 2 (by decide) (hts (.fieldLink RX1 16 "GameCafe$Game" "lesson" "I") (List.mem_of_getElem? (i := 6) rfl)) (fun _ h9 => h9) rfl (by decide +kernel) rfl rfl (Nat.le_of_ble_eq_true rfl) dX1_init_17 (E2 := (cf_g2 E 1 i (some (.inr (1, [.int 2, .int 4, .int 10, .int 0, .null, .null]))))) cf_g2c (fun H locs hW hS => ?_)
  refine lv_aload_n hx hb dX1_init_20 rfl (lv_at hl 0 rfl) ?_
  refine lv_iconst (v := 0) hx hb dX1_init_21 (by decide) ?_
  refine cf_putE (v := .int 0) (k := 1) (i := i) (ad := ad) (ty := .int) (ci := 1) (C := RX1) (T := TX1) (N := 6) hx hb hts (fun _ h => List.mem_cons_of_mem _ (List.mem_append_right _ (h))) tyX1 tyX1_ok nmX1 hown hT.1 hW hS cf_g2s rfl 3 (by decide) (hts (.fieldLink RX1 19 "GameCafe$Game" "timesPlayed" "I") (List.mem_of_getElem? (i := 7) rfl)) (fun _ h9 => h9) rfl (by decide +kernel) rfl rfl (Nat.le_of_ble_eq_true rfl) dX1_init_22 (E2 := (cf_g2 E 1 i (some (.inr (1, [.int 2, .int 4, .int 10, .int 0, .null, .null]))))) cf_g2c (fun H locs hW hS => ?_)
  refine lv_aload_n hx hb dX1_init_25 rfl (lv_at hl 0 rfl) ?_
  refine lv_iconst (v := 4) hx hb dX1_init_26 (by decide) ?_
  refine cf_newa (atype := .int) (ty := .int) (ad := ad) (N' := 4) (a0 := (4, .inl (fun _ => 0))) hx hb (hts (.arrayClass .int) (List.mem_of_getElem? (i := 8) rfl)) hT.1 hW hS 8 i ((cf_g2n (fun q9 => absurd q9.1 (by decide))).trans h08) 0 rfl rfl (fun _ => rfl) (by decide) rfl (Nat.le_of_ble_eq_true rfl) (Nat.le_of_ble_eq_true rfl) (Nat.le_of_ble_eq_true rfl) dX1_init_27 (fun q1 H hW hS => ?_)
  have hl : lv_has ls 1 [(0, .ref ((cf_g2 ad 8 i q1) 1 i))] := hl
  refine lv_dup hx hb dX1_init_29 rfl ?_
  refine lv_iconst (v := 0) hx hb dX1_init_30 (by decide) ?_
  refine lv_iconst (v := 5) hx hb dX1_init_31 (by decide) ?_
  refine cf_istN (t0 := 0) (k := 8) (i := i) (ad := (cf_g2 ad 8 i q1)) (n := 4) (f := (fun _ => 0)) hx hb hT.1 hW hS cf_g2s rfl 0 rfl (by decide) (by decide) dX1_init_32 (E2 := (cf_g2 (cf_g2 E 1 i (some (.inr (1, [.int 2, .int 4, .int 10, .int 0, .null, .null])))) 8 i (some (.inl (cT 0, 4, .inl (upd (fun _ => 0) 0 5)))))) cf_g2c (fun H locs hW hS => ?_)
  refine lv_dup hx hb dX1_init_33 rfl ?_
  refine lv_iconst (v := 1) hx hb dX1_init_34 (by decide) ?_
  refine lv_iconst (v := 5) hx hb dX1_init_35 (by decide) ?_
  refine cf_istN (t0 := 0) (k := 8) (i := i) (ad := (cf_g2 ad 8 i q1)) (n := 4) (f := (upd (fun _ => 0) 0 5)) hx hb hT.1 hW hS cf_g2s rfl 1 rfl (by decide) (by decide) dX1_init_36 (E2 := (cf_g2 (cf_g2 E 1 i (some (.inr (1, [.int 2, .int 4, .int 10, .int 0, .null, .null])))) 8 i (some (.inl (cT 0, 4, .inl (upd (upd (fun _ => 0) 0 5) 1 5)))))) cf_g2c (fun H locs hW hS => ?_)
  refine lv_dup hx hb dX1_init_37 rfl ?_
  refine lv_iconst (v := 2) hx hb dX1_init_38 (by decide) ?_
  refine lv_iconst (v := 5) hx hb dX1_init_39 (by decide) ?_
  refine cf_istN (t0 := 0) (k := 8) (i := i) (ad := (cf_g2 ad 8 i q1)) (n := 4) (f := (upd (upd (fun _ => 0) 0 5) 1 5)) hx hb hT.1 hW hS cf_g2s rfl 2 rfl (by decide) (by decide) dX1_init_40 (E2 := (cf_g2 (cf_g2 E 1 i (some (.inr (1, [.int 2, .int 4, .int 10, .int 0, .null, .null])))) 8 i (some (.inl (cT 0, 4, .inl (upd (upd (upd (fun _ => 0) 0 5) 1 5) 2 5)))))) cf_g2c (fun H locs hW hS => ?_)
  refine lv_dup hx hb dX1_init_41 rfl ?_
  refine lv_iconst (v := 3) hx hb dX1_init_42 (by decide) ?_
  refine lv_iconst (v := 5) hx hb dX1_init_43 (by decide) ?_
  refine cf_istN (t0 := 0) (k := 8) (i := i) (ad := (cf_g2 ad 8 i q1)) (n := 4) (f := (upd (upd (upd (fun _ => 0) 0 5) 1 5) 2 5)) hx hb hT.1 hW hS cf_g2s rfl 3 rfl (by decide) (by decide) dX1_init_44 (E2 := (cf_g2 (cf_g2 E 1 i (some (.inr (1, [.int 2, .int 4, .int 10, .int 0, .null, .null])))) 8 i (some (.inl (cT 0, 4, .inl (upd (upd (upd (upd (fun _ => 0) 0 5) 1 5) 2 5) 3 5)))))) cf_g2c (fun H locs hW hS => ?_)
  refine cf_putFE (v := .ref ((cf_g2 ad 8 i q1) 8 i)) (k := 1) (i := i) (ad := (cf_g2 ad 8 i q1)) (ty := (.array .int)) (ci := 1) (C := RX1) (T := TX1) (N := 6) hx hb hts (fun _ h => List.mem_cons_of_mem _ (List.mem_append_right _ (h))) tyX1 tyX1_ok nmX1 hown hT.1 hW hS ((cf_g2n (fun q9 => absurd q9.1 (by decide))).trans cf_g2s) rfl 4 (by decide) (hts (.fieldLink RX1 22 "GameCafe$Game" "whole" "[I") (List.mem_of_getElem? (i := 9) rfl)) (fun _ h9 => h9) rfl hin0 rfl (by decide +kernel) rfl rfl (Nat.le_of_ble_eq_true rfl) dX1_init_45 (E2 := (cf_g2 (cf_g2 E 8 i (some (.inl (cT 0, 4, .inl (upd (upd (upd (upd (fun _ => 0) 0 5) 1 5) 2 5) 3 5))))) 1 i (some (.inr (1, [.int 2, .int 4, .int 10, .int 0, .ref ((cf_g2 ad 8 i q1) 8 i), .null]))))) cf_g2r (fun H locs hW hS => ?_)
  refine lv_aload_n hx hb dX1_init_48 rfl (lv_at hl 0 rfl) ?_
  refine lv_iconst (v := 4) hx hb dX1_init_49 (by decide) ?_
  refine cf_newa (atype := .int) (ty := .int) (ad := (cf_g2 ad 8 i q1)) (N' := 4) (a0 := (4, .inl (fun _ => 0))) hx hb (hts (.arrayClass .int) (List.mem_of_getElem? (i := 8) rfl)) hT.1 hW hS 9 i ((cf_g2n (fun q9 => absurd q9.1 (by decide))).trans ((cf_g2n (fun q9 => absurd q9.1 (by decide))).trans h09)) 0 rfl rfl (fun _ => rfl) (by decide) rfl (Nat.le_of_ble_eq_true rfl) (Nat.le_of_ble_eq_true rfl) (Nat.le_of_ble_eq_true rfl) dX1_init_50 (fun q2 H hW hS => ?_)
  have hl : lv_has ls 1 [(0, .ref ((cf_g2 (cf_g2 ad 8 i q1) 9 i q2) 1 i))] := hl
  refine lv_dup hx hb dX1_init_52 rfl ?_
  refine lv_iconst (v := 0) hx hb dX1_init_53 (by decide) ?_
  refine lv_iconst (v := 4) hx hb dX1_init_54 (by decide) ?_
  refine cf_istN (t0 := 0) (k := 9) (i := i) (ad := (cf_g2 (cf_g2 ad 8 i q1) 9 i q2)) (n := 4) (f := (fun _ => 0)) hx hb hT.1 hW hS cf_g2s rfl 0 rfl (by decide) (by decide) dX1_init_55 (E2 := (cf_g2 (cf_g2 (cf_g2 E 8 i (some (.inl (cT 0, 4, .inl (upd (upd (upd (upd (fun _ => 0) 0 5) 1 5) 2 5) 3 5))))) 1 i (some (.inr (1, [.int 2, .int 4, .int 10, .int 0, .ref ((cf_g2 ad 8 i q1) 8 i), .null])))) 9 i (some (.inl (cT 0, 4, .inl (upd (fun _ => 0) 0 4)))))) cf_g2c (fun H locs hW hS => ?_)
  refine lv_dup hx hb dX1_init_56 rfl ?_
  refine lv_iconst (v := 1) hx hb dX1_init_57 (by decide) ?_
  refine lv_iconst (v := 4) hx hb dX1_init_58 (by decide) ?_
  refine cf_istN (t0 := 0) (k := 9) (i := i) (ad := (cf_g2 (cf_g2 ad 8 i q1) 9 i q2)) (n := 4) (f := (upd (fun _ => 0) 0 4)) hx hb hT.1 hW hS cf_g2s rfl 1 rfl (by decide) (by decide) dX1_init_59 (E2 := (cf_g2 (cf_g2 (cf_g2 E 8 i (some (.inl (cT 0, 4, .inl (upd (upd (upd (upd (fun _ => 0) 0 5) 1 5) 2 5) 3 5))))) 1 i (some (.inr (1, [.int 2, .int 4, .int 10, .int 0, .ref ((cf_g2 ad 8 i q1) 8 i), .null])))) 9 i (some (.inl (cT 0, 4, .inl (upd (upd (fun _ => 0) 0 4) 1 4)))))) cf_g2c (fun H locs hW hS => ?_)
  refine lv_dup hx hb dX1_init_60 rfl ?_
  refine lv_iconst (v := 2) hx hb dX1_init_61 (by decide) ?_
  refine lv_iconst (v := 4) hx hb dX1_init_62 (by decide) ?_
  refine cf_istN (t0 := 0) (k := 9) (i := i) (ad := (cf_g2 (cf_g2 ad 8 i q1) 9 i q2)) (n := 4) (f := (upd (upd (fun _ => 0) 0 4) 1 4)) hx hb hT.1 hW hS cf_g2s rfl 2 rfl (by decide) (by decide) dX1_init_63 (E2 := (cf_g2 (cf_g2 (cf_g2 E 8 i (some (.inl (cT 0, 4, .inl (upd (upd (upd (upd (fun _ => 0) 0 5) 1 5) 2 5) 3 5))))) 1 i (some (.inr (1, [.int 2, .int 4, .int 10, .int 0, .ref ((cf_g2 ad 8 i q1) 8 i), .null])))) 9 i (some (.inl (cT 0, 4, .inl (upd (upd (upd (fun _ => 0) 0 4) 1 4) 2 4)))))) cf_g2c (fun H locs hW hS => ?_)
  refine lv_dup hx hb dX1_init_64 rfl ?_
  refine lv_iconst (v := 3) hx hb dX1_init_65 (by decide) ?_
  refine lv_iconst (v := 4) hx hb dX1_init_66 (by decide) ?_
  refine cf_istN (t0 := 0) (k := 9) (i := i) (ad := (cf_g2 (cf_g2 ad 8 i q1) 9 i q2)) (n := 4) (f := (upd (upd (upd (fun _ => 0) 0 4) 1 4) 2 4)) hx hb hT.1 hW hS cf_g2s rfl 3 rfl (by decide) (by decide) dX1_init_67 (E2 := (cf_g2 (cf_g2 (cf_g2 E 8 i (some (.inl (cT 0, 4, .inl (upd (upd (upd (upd (fun _ => 0) 0 5) 1 5) 2 5) 3 5))))) 1 i (some (.inr (1, [.int 2, .int 4, .int 10, .int 0, .ref ((cf_g2 ad 8 i q1) 8 i), .null])))) 9 i (some (.inl (cT 0, 4, .inl (upd (upd (upd (upd (fun _ => 0) 0 4) 1 4) 2 4) 3 4)))))) cf_g2c (fun H locs hW hS => ?_)
  refine cf_putFE (v := .ref ((cf_g2 (cf_g2 ad 8 i q1) 9 i q2) 9 i)) (k := 1) (i := i) (ad := (cf_g2 (cf_g2 ad 8 i q1) 9 i q2)) (ty := (.array .int)) (ci := 1) (C := RX1) (T := TX1) (N := 6) hx hb hts (fun _ h => List.mem_cons_of_mem _ (List.mem_append_right _ (h))) tyX1 tyX1_ok nmX1 hown hT.1 hW hS ((cf_g2n (fun q9 => absurd q9.1 (by decide))).trans cf_g2s) rfl 5 (by decide) (hts (.fieldLink RX1 26 "GameCafe$Game" "need" "[I") (List.mem_of_getElem? (i := 10) rfl)) (fun _ h9 => h9) rfl hin0 rfl (by decide +kernel) rfl rfl (Nat.le_of_ble_eq_true rfl) dX1_init_68 (E2 := (cf_g2 (cf_g2 (cf_g2 E 8 i (some (.inl (cT 0, 4, .inl (upd (upd (upd (upd (fun _ => 0) 0 5) 1 5) 2 5) 3 5))))) 9 i (some (.inl (cT 0, 4, .inl (upd (upd (upd (upd (fun _ => 0) 0 4) 1 4) 2 4) 3 4))))) 1 i (some (.inr (1, [.int 2, .int 4, .int 10, .int 0, .ref ((cf_g2 ad 8 i q1) 8 i), .ref ((cf_g2 (cf_g2 ad 8 i q1) 9 i q2) 9 i)]))))) cf_g2r (fun H locs hW hS => ?_)
  exact W.vret hx hb hr (fun t9 ht9 hw9 => ⟨⟨(q1, q2), rfl, trivial, cf_W.re ht9 hW⟩, hS.F ht9⟩) hS.2.2 dX1_init_71
set_option maxHeartbeats 4000000 in
set_option maxRecDepth 100000 in
/-- X2_init -/
theorem c_X2_init (l : Launch) (D : va_G) (cT : Nat → ClassId) (z : Nat) (ad : cf_Ad) (E : cf_T) {i t9 c9 : Nat} (x y : Int32) (h02 : E 2 i = some (.inr (2, [.null, .int 0, .int 0, .null]))) : Met l yX2_init wsX2_init ({ frames := 1, cells := 0, slots := 0, locals := 12 }) (va_Pc [.ref (ad 2 i), .int x, .ref (ad 3 t9), .ref (ad 0 c9), .int y] (cf_P D cT z E ad)) (cf_Qv D z (fun (_ : Unit) => True) (fun u => (cf_g2 E 2 i (some (.inr (2, [.ref (ad 0 c9), .int y, .int x, .ref (ad 3 t9)]))))) (fun u => ad)) 0 0 (fun q => z ≤ q) := by
  refine Met.ofW (cc := cX2_init) (maxL := 5) (ret := none) (by decide) rfl ?_
  intro p e s m args below meth c s₁ B hml hv
  obtain ⟨rfl, hW, hT⟩ := hv
  have hx := B.exec
  have hb := B.bytes
  have hr := B.returns
  have hts := atoms_spec (ws := wsX2_init) B.pre
  have hown : s.vm.findClass RX2 = some m.cls := findClass_of_methodNamed B.named
  have hlocks := B.notSynchronized
  have hS : va_S (fun q => z ≤ q) s.heap s.heap [] := va_S.rf
  have hl := lv_entry ([.ref (ad 2 i), .int x, .ref (ad 3 t9), .ref (ad 0 c9), .int y]) (n := 5) (Nat.le_of_ble_eq_true rfl)
  rw [lg_entry_eq]
  generalize (lg_sl ([.ref (ad 2 i), .int x, .ref (ad 3 t9), .ref (ad 0 c9), .int y]) ++ List.replicate (5 - (lg_sl ([.ref (ad 2 i), .int x, .ref (ad 3 t9), .ref (ad 0 c9), .int y])).length) Slot.unset).toArray = ls at hl ⊢
  have hl : lv_has ls 5 [(0, .ref (ad 2 i)), (1, .int x), (2, .ref (ad 3 t9)), (3, .ref (ad 0 c9)), (4, .int y)] := hl
  skip
  have hin0 : meth.name = "<init>" := (name_of_methodNamed B.named B.method).1
  refine lv_aload_n hx hb dX2_init_0 rfl (lv_at hl 0 rfl) ?_
  refine W.objInit hx hb hown (hts (.methodLink RX2 1 objectInit) (List.mem_of_getElem? (i := 1) rfl)) (hts (.instanceMethod objectInit) (List.mem_of_getElem? (i := 2) rfl)) (hts (.code objectInit ⟨#[0xb1]⟩ 1 none) (List.mem_of_getElem? (i := 3) rfl)) rfl (by rw [hml]; exact hl.1) rfl dX2_init_1 (Nat.le_of_ble_eq_true rfl) (Nat.le_of_ble_eq_true rfl) ?_
  refine W.eq (g2 := F0 m 4 ls []) rfl ?_
  refine lv_aload_n hx hb dX2_init_4 rfl (lv_at hl 0 rfl) ?_
  refine lv_iload_n hx hb dX2_init_5 rfl (lv_at hl 1 rfl) ?_
  refine cf_putE (v := .int x) (k := 2) (i := i) (ad := ad) (ty := .int) (ci := 2) (C := RX2) (T := TX2) (N := 4) hx hb hts (fun _ h => List.mem_cons_of_mem _ (List.mem_append_right _ (h))) tyX2 tyX2_ok nmX2 hown hT.1 hW hS h02 rfl 2 (by decide) (hts (.fieldLink RX2 7 "GameCafe$Group" "people" "I") (List.mem_of_getElem? (i := 4) rfl)) (fun _ h9 => h9) rfl (by decide +kernel) rfl rfl (Nat.le_of_ble_eq_true rfl) dX2_init_6 (E2 := (cf_g2 E 2 i (some (.inr (2, [.null, .int 0, .int x, .null]))))) rfl (fun H locs hW hS => ?_)
  refine lv_aload_n hx hb dX2_init_9 rfl (lv_at hl 0 rfl) ?_
  refine lv_aload_n hx hb dX2_init_10 rfl (lv_at hl 2 rfl) ?_
  refine cf_putE (v := .ref (ad 3 t9)) (k := 2) (i := i) (ad := ad) (ty := (.object "GameCafe$Table")) (ci := 2) (C := RX2) (T := TX2) (N := 4) hx hb hts (fun _ h => List.mem_cons_of_mem _ (List.mem_append_right _ (h))) tyX2 tyX2_ok nmX2 hown hT.1 hW hS cf_g2s rfl 3 (by decide) (hts (.fieldLink RX2 13 "GameCafe$Group" "table" "LGameCafe$Table;") (List.mem_of_getElem? (i := 5) rfl)) (fun _ h9 => h9) rfl (by decide +kernel) rfl rfl (Nat.le_of_ble_eq_true rfl) dX2_init_11 (E2 := (cf_g2 E 2 i (some (.inr (2, [.null, .int 0, .int x, .ref (ad 3 t9)]))))) cf_g2c (fun H locs hW hS => ?_)
  refine lv_aload_n hx hb dX2_init_14 rfl (lv_at hl 0 rfl) ?_
  refine lv_aload_n hx hb dX2_init_15 rfl (lv_at hl 3 rfl) ?_
  refine cf_putFE (v := .ref (ad 0 c9)) (k := 2) (i := i) (ad := ad) (ty := (.object "GameCafe$Copy")) (ci := 2) (C := RX2) (T := TX2) (N := 4) hx hb hts (fun _ h => List.mem_cons_of_mem _ (List.mem_append_right _ (h))) tyX2 tyX2_ok nmX2 hown hT.1 hW hS cf_g2s rfl 0 (by decide) (hts (.fieldLink RX2 17 "GameCafe$Group" "copy" "LGameCafe$Copy;") (List.mem_of_getElem? (i := 6) rfl)) (fun _ h9 => h9) rfl hin0 rfl (by decide +kernel) rfl rfl (Nat.le_of_ble_eq_true rfl) dX2_init_16 (E2 := (cf_g2 E 2 i (some (.inr (2, [.ref (ad 0 c9), .int 0, .int x, .ref (ad 3 t9)]))))) cf_g2c (fun H locs hW hS => ?_)
  refine lv_aload_n hx hb dX2_init_19 rfl (lv_at hl 0 rfl) ?_
  refine lv_iload hx hb dX2_init_20 (lv_at hl 4 rfl) ?_
  refine cf_putFE (v := .int y) (k := 2) (i := i) (ad := ad) (ty := .int) (ci := 2) (C := RX2) (T := TX2) (N := 4) hx hb hts (fun _ h => List.mem_cons_of_mem _ (List.mem_append_right _ (h))) tyX2 tyX2_ok nmX2 hown hT.1 hW hS cf_g2s rfl 1 (by decide) (hts (.fieldLink RX2 21 "GameCafe$Group" "since" "I") (List.mem_of_getElem? (i := 7) rfl)) (fun _ h9 => h9) rfl hin0 rfl (by decide +kernel) rfl rfl (Nat.le_of_ble_eq_true rfl) dX2_init_22 (E2 := (cf_g2 E 2 i (some (.inr (2, [.ref (ad 0 c9), .int y, .int x, .ref (ad 3 t9)]))))) cf_g2c (fun H locs hW hS => ?_)
  exact W.vret hx hb hr (fun t9 ht9 hw9 => ⟨⟨(), rfl, trivial, cf_W.re ht9 hW⟩, hS.F ht9⟩) hS.2.2 dX2_init_25
set_option maxHeartbeats 4000000 in
set_option maxRecDepth 100000 in
/-- X3_init -/
theorem c_X3_init (l : Launch) (D : va_G) (cT : Nat → ClassId) (z : Nat) (ad : cf_Ad) (E : cf_T) {i : Nat} (x y : Int32) (h03 : E 3 i = some (.inr (3, [.int 0, .int 0, .int 0]))) : Met l yX3_init wsX3_init ({ frames := 1, cells := 0, slots := 0, locals := 12 }) (va_Pc [.ref (ad 3 i), .int x, .int y] (cf_P D cT z E ad)) (cf_Qv D z (fun (_ : Unit) => True) (fun u => (cf_g2 E 3 i (some (.inr (3, [.int x, .int y, .int (-1)]))))) (fun u => ad)) 0 0 (fun q => z ≤ q) := by
  refine Met.ofW (cc := cX3_init) (maxL := 3) (ret := none) (by decide) rfl ?_
  intro p e s m args below meth c s₁ B hml hv
  obtain ⟨rfl, hW, hT⟩ := hv
  have hx := B.exec
  have hb := B.bytes
  have hr := B.returns
  have hts := atoms_spec (ws := wsX3_init) B.pre
  have hown : s.vm.findClass RX3 = some m.cls := findClass_of_methodNamed B.named
  have hlocks := B.notSynchronized
  have hS : va_S (fun q => z ≤ q) s.heap s.heap [] := va_S.rf
  have hl := lv_entry ([.ref (ad 3 i), .int x, .int y]) (n := 3) (Nat.le_of_ble_eq_true rfl)
  rw [lg_entry_eq]
  generalize (lg_sl ([.ref (ad 3 i), .int x, .int y]) ++ List.replicate (3 - (lg_sl ([.ref (ad 3 i), .int x, .int y])).length) Slot.unset).toArray = ls at hl ⊢
  have hl : lv_has ls 3 [(0, .ref (ad 3 i)), (1, .int x), (2, .int y)] := hl
  skip
  have hin0 : meth.name = "<init>" := (name_of_methodNamed B.named B.method).1
  refine lv_aload_n hx hb dX3_init_0 rfl (lv_at hl 0 rfl) ?_
  refine W.objInit hx hb hown (hts (.methodLink RX3 3 objectInit) (List.mem_of_getElem? (i := 1) rfl)) (hts (.instanceMethod objectInit) (List.mem_of_getElem? (i := 2) rfl)) (hts (.code objectInit ⟨#[0xb1]⟩ 1 none) (List.mem_of_getElem? (i := 3) rfl)) rfl (by rw [hml]; exact hl.1) rfl dX3_init_1 (Nat.le_of_ble_eq_true rfl) (Nat.le_of_ble_eq_true rfl) ?_
  refine W.eq (g2 := F0 m 4 ls []) rfl ?_
  refine lv_aload_n hx hb dX3_init_4 rfl (lv_at hl 0 rfl) ?_
  refine lv_iconst (v := (-1)) hx hb dX3_init_5 (by decide) ?_
  refine cf_putE (v := .int (-1)) (k := 3) (i := i) (ad := ad) (ty := .int) (ci := 3) (C := RX3) (T := TX3) (N := 3) hx hb hts (fun _ h => List.mem_cons_of_mem _ (List.mem_append_right _ (h))) tyX3 tyX3_ok nmX3 hown hT.1 hW hS h03 rfl 2 (by decide) (hts (.fieldLink RX3 9 "GameCafe$Table" "group" "I") (List.mem_of_getElem? (i := 4) rfl)) (fun _ h9 => h9) rfl (by decide +kernel) rfl rfl (Nat.le_of_ble_eq_true rfl) dX3_init_6 (E2 := (cf_g2 E 3 i (some (.inr (3, [.int 0, .int 0, .int (-1)]))))) rfl (fun H locs hW hS => ?_)
  refine lv_aload_n hx hb dX3_init_9 rfl (lv_at hl 0 rfl) ?_
  refine lv_iload_n hx hb dX3_init_10 rfl (lv_at hl 1 rfl) ?_
  refine cf_putFE (v := .int x) (k := 3) (i := i) (ad := ad) (ty := .int) (ci := 3) (C := RX3) (T := TX3) (N := 3) hx hb hts (fun _ h => List.mem_cons_of_mem _ (List.mem_append_right _ (h))) tyX3 tyX3_ok nmX3 hown hT.1 hW hS cf_g2s rfl 0 (by decide) (hts (.fieldLink RX3 15 "GameCafe$Table" "number" "I") (List.mem_of_getElem? (i := 5) rfl)) (fun _ h9 => h9) rfl hin0 rfl (by decide +kernel) rfl rfl (Nat.le_of_ble_eq_true rfl) dX3_init_11 (E2 := (cf_g2 E 3 i (some (.inr (3, [.int x, .int 0, .int (-1)]))))) cf_g2c (fun H locs hW hS => ?_)
  refine lv_aload_n hx hb dX3_init_14 rfl (lv_at hl 0 rfl) ?_
  refine lv_iload_n hx hb dX3_init_15 rfl (lv_at hl 2 rfl) ?_
  refine cf_putE (v := .int y) (k := 3) (i := i) (ad := ad) (ty := .int) (ci := 3) (C := RX3) (T := TX3) (N := 3) hx hb hts (fun _ h => List.mem_cons_of_mem _ (List.mem_append_right _ (h))) tyX3 tyX3_ok nmX3 hown hT.1 hW hS cf_g2s rfl 1 (by decide) (hts (.fieldLink RX3 18 "GameCafe$Table" "seats" "I") (List.mem_of_getElem? (i := 6) rfl)) (fun _ h9 => h9) rfl (by decide +kernel) rfl rfl (Nat.le_of_ble_eq_true rfl) dX3_init_16 (E2 := (cf_g2 E 3 i (some (.inr (3, [.int x, .int y, .int (-1)]))))) cf_g2c (fun H locs hW hS => ?_)
  exact W.vret hx hb hr (fun t9 ht9 hw9 => ⟨⟨(), rfl, trivial, cf_W.re ht9 hW⟩, hS.F ht9⟩) hS.2.2 dX3_init_19
set_option maxHeartbeats 4000000 in
set_option maxRecDepth 100000 in
/-- X4_init -/
theorem c_X4_init (l : Launch) (D : va_G) (cT : Nat → ClassId) (z : Nat) (ad : cf_Ad) (E : cf_T) {i : Nat} (h04 : E 4 i = some (.inr (4, [.null, .int 0]))) (h010 : E 10 i = none) : Met l yX4_init wsX4_init ({ frames := 1, cells := 1, slots := 5, locals := 12 }) (va_Pc [.ref (ad 4 i)] (cf_P D cT z E ad)) (cf_Qv D z (fun (_ : Nat) => True) (fun u => (cf_g2 (cf_g2 E 10 i (some (.inl (cT 1, 5, .inl (upd (upd (upd (upd (upd (fun _ => 0) 0 1) 1 1) 2 1) 3 1) 4 1))))) 4 i (some (.inr (4, [.ref ((cf_g2 ad 10 i u) 10 i), .int 0]))))) (fun u => (cf_g2 ad 10 i u))) 1 5 (fun q => z ≤ q) := by
  refine Met.ofW (cc := cX4_init) (maxL := 1) (ret := none) (by decide) rfl ?_
  intro p e s m args below meth c s₁ B hml hv
  obtain ⟨rfl, hW, hT⟩ := hv
  have hx := B.exec
  have hb := B.bytes
  have hr := B.returns
  have hts := atoms_spec (ws := wsX4_init) B.pre
  have hown : s.vm.findClass RX4 = some m.cls := findClass_of_methodNamed B.named
  have hlocks := B.notSynchronized
  have hS : va_S (fun q => z ≤ q) s.heap s.heap [] := va_S.rf
  have hl := lv_entry ([.ref (ad 4 i)]) (n := 1) (Nat.le_of_ble_eq_true rfl)
  rw [lg_entry_eq]
  generalize (lg_sl ([.ref (ad 4 i)]) ++ List.replicate (1 - (lg_sl ([.ref (ad 4 i)])).length) Slot.unset).toArray = ls at hl ⊢
  have hl : lv_has ls 1 [(0, .ref (ad 4 i))] := hl
  skip
  have hin0 : meth.name = "<init>" := (name_of_methodNamed B.named B.method).1
  refine lv_aload_n hx hb dX4_init_0 rfl (lv_at hl 0 rfl) ?_
  refine W.objInit hx hb hown (hts (.methodLink RX4 1 objectInit) (List.mem_of_getElem? (i := 1) rfl)) (hts (.instanceMethod objectInit) (List.mem_of_getElem? (i := 2) rfl)) (hts (.code objectInit ⟨#[0xb1]⟩ 1 none) (List.mem_of_getElem? (i := 3) rfl)) rfl (by rw [hml]; exact hl.1) rfl dX4_init_1 (Nat.le_of_ble_eq_true rfl) (Nat.le_of_ble_eq_true rfl) ?_
  refine W.eq (g2 := F0 m 4 ls []) rfl ?_
  refine lv_aload_n hx hb dX4_init_4 rfl (lv_at hl 0 rfl) ?_
  refine lv_iconst (v := 5) hx hb dX4_init_5 (by decide) ?_
  refine cf_newa (atype := .boolean) (ty := .boolean) (ad := ad) (N' := 5) (a0 := (5, .inl (fun _ => 0))) hx hb (hts (.arrayClass .boolean) (List.mem_of_getElem? (i := 4) rfl)) hT.1 hW hS 10 i h010 1 rfl rfl (fun _ => rfl) (by decide) rfl (Nat.le_of_ble_eq_true rfl) (Nat.le_of_ble_eq_true rfl) (Nat.le_of_ble_eq_true rfl) dX4_init_6 (fun q1 H hW hS => ?_)
  have hl : lv_has ls 1 [(0, .ref ((cf_g2 ad 10 i q1) 4 i))] := hl
  refine lv_dup hx hb dX4_init_8 rfl ?_
  refine lv_iconst (v := 0) hx hb dX4_init_9 (by decide) ?_
  refine lv_iconst (v := 1) hx hb dX4_init_10 (by decide) ?_
  refine cf_zstN (t0 := 1) (k := 10) (i := i) (ad := (cf_g2 ad 10 i q1)) (n := 5) (f := (fun _ => 0)) (v := 1) hx hb hT.1 hW hS cf_g2s rfl 0 rfl (by decide) (by decide) dX4_init_11 rfl (E2 := (cf_g2 E 10 i (some (.inl (cT 1, 5, .inl (upd (fun _ => 0) 0 1)))))) cf_g2c (fun H locs hW hS => ?_)
  refine lv_dup hx hb dX4_init_12 rfl ?_
  refine lv_iconst (v := 1) hx hb dX4_init_13 (by decide) ?_
  refine lv_iconst (v := 1) hx hb dX4_init_14 (by decide) ?_
  refine cf_zstN (t0 := 1) (k := 10) (i := i) (ad := (cf_g2 ad 10 i q1)) (n := 5) (f := (upd (fun _ => 0) 0 1)) (v := 1) hx hb hT.1 hW hS cf_g2s rfl 1 rfl (by decide) (by decide) dX4_init_15 rfl (E2 := (cf_g2 E 10 i (some (.inl (cT 1, 5, .inl (upd (upd (fun _ => 0) 0 1) 1 1)))))) cf_g2c (fun H locs hW hS => ?_)
  refine lv_dup hx hb dX4_init_16 rfl ?_
  refine lv_iconst (v := 2) hx hb dX4_init_17 (by decide) ?_
  refine lv_iconst (v := 1) hx hb dX4_init_18 (by decide) ?_
  refine cf_zstN (t0 := 1) (k := 10) (i := i) (ad := (cf_g2 ad 10 i q1)) (n := 5) (f := (upd (upd (fun _ => 0) 0 1) 1 1)) (v := 1) hx hb hT.1 hW hS cf_g2s rfl 2 rfl (by decide) (by decide) dX4_init_19 rfl (E2 := (cf_g2 E 10 i (some (.inl (cT 1, 5, .inl (upd (upd (upd (fun _ => 0) 0 1) 1 1) 2 1)))))) cf_g2c (fun H locs hW hS => ?_)
  refine lv_dup hx hb dX4_init_20 rfl ?_
  refine lv_iconst (v := 3) hx hb dX4_init_21 (by decide) ?_
  refine lv_iconst (v := 1) hx hb dX4_init_22 (by decide) ?_
  refine cf_zstN (t0 := 1) (k := 10) (i := i) (ad := (cf_g2 ad 10 i q1)) (n := 5) (f := (upd (upd (upd (fun _ => 0) 0 1) 1 1) 2 1)) (v := 1) hx hb hT.1 hW hS cf_g2s rfl 3 rfl (by decide) (by decide) dX4_init_23 rfl (E2 := (cf_g2 E 10 i (some (.inl (cT 1, 5, .inl (upd (upd (upd (upd (fun _ => 0) 0 1) 1 1) 2 1) 3 1)))))) cf_g2c (fun H locs hW hS => ?_)
  refine lv_dup hx hb dX4_init_24 rfl ?_
  refine lv_iconst (v := 4) hx hb dX4_init_25 (by decide) ?_
  refine lv_iconst (v := 1) hx hb dX4_init_26 (by decide) ?_
  refine cf_zstN (t0 := 1) (k := 10) (i := i) (ad := (cf_g2 ad 10 i q1)) (n := 5) (f := (upd (upd (upd (upd (fun _ => 0) 0 1) 1 1) 2 1) 3 1)) (v := 1) hx hb hT.1 hW hS cf_g2s rfl 4 rfl (by decide) (by decide) dX4_init_27 rfl (E2 := (cf_g2 E 10 i (some (.inl (cT 1, 5, .inl (upd (upd (upd (upd (upd (fun _ => 0) 0 1) 1 1) 2 1) 3 1) 4 1)))))) cf_g2c (fun H locs hW hS => ?_)
  refine cf_putFE (v := .ref ((cf_g2 ad 10 i q1) 10 i)) (k := 4) (i := i) (ad := (cf_g2 ad 10 i q1)) (ty := (.array .boolean)) (ci := 4) (C := RX4) (T := TX4) (N := 2) hx hb hts (fun _ h => List.mem_cons_of_mem _ (List.mem_append_right _ (h))) tyX4 tyX4_ok nmX4 hown hT.1 hW hS ((cf_g2n (fun q9 => absurd q9.1 (by decide))).trans h04) rfl 0 (by decide) (hts (.fieldLink RX4 7 "GameCafe$Teacher" "knows" "[Z") (List.mem_of_getElem? (i := 5) rfl)) (fun _ h9 => h9) rfl hin0 rfl (by decide +kernel) rfl rfl (Nat.le_of_ble_eq_true rfl) dX4_init_28 (E2 := (cf_g2 (cf_g2 E 10 i (some (.inl (cT 1, 5, .inl (upd (upd (upd (upd (upd (fun _ => 0) 0 1) 1 1) 2 1) 3 1) 4 1))))) 4 i (some (.inr (4, [.ref ((cf_g2 ad 10 i q1) 10 i), .int 0]))))) rfl (fun H locs hW hS => ?_)
  refine lv_aload_n hx hb dX4_init_31 rfl (lv_at hl 0 rfl) ?_
  refine lv_iconst (v := 0) hx hb dX4_init_32 (by decide) ?_
  refine cf_putE (v := .int 0) (k := 4) (i := i) (ad := (cf_g2 ad 10 i q1)) (ty := .int) (ci := 4) (C := RX4) (T := TX4) (N := 2) hx hb hts (fun _ h => List.mem_cons_of_mem _ (List.mem_append_right _ (h))) tyX4 tyX4_ok nmX4 hown hT.1 hW hS cf_g2s rfl 1 (by decide) (hts (.fieldLink RX4 13 "GameCafe$Teacher" "busyUntil" "I") (List.mem_of_getElem? (i := 6) rfl)) (fun _ h9 => h9) rfl (by decide +kernel) rfl rfl (Nat.le_of_ble_eq_true rfl) dX4_init_33 (E2 := (cf_g2 (cf_g2 E 10 i (some (.inl (cT 1, 5, .inl (upd (upd (upd (upd (upd (fun _ => 0) 0 1) 1 1) 2 1) 3 1) 4 1))))) 4 i (some (.inr (4, [.ref ((cf_g2 ad 10 i q1) 10 i), .int 0]))))) cf_g2c (fun H locs hW hS => ?_)
  exact W.vret hx hb hr (fun t9 ht9 hw9 => ⟨⟨q1, rfl, trivial, cf_W.re ht9 hW⟩, hS.F ht9⟩) hS.2.2 dX4_init_36
