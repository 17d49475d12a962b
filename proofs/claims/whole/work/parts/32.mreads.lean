theorem cf_best_none {ok : Nat → Bool} {lt : Nat → Nat → Bool} : ∀ {n : Nat}, (∀ i, i < n → ok i = false) → cf_best ok lt n = none := by
  intro n
  induction n with
  | zero => intro _; rfl
  | succ n ih =>
    intro h
    rw [cf_best_no (h n (Nat.lt_succ_self n))]
    exact ih (fun i hi => h i (Nat.lt_succ_of_lt hi))
/-- a condition as a truth value -/
noncomputable def cf_dec (p : Prop) : Bool := @decide p (Classical.propDecidable p)
theorem cf_dec_t {p : Prop} (h : p) : cf_dec p = true := @decide_eq_true p (Classical.propDecidable p) h
theorem cf_dec_f {p : Prop} (h : ¬ p) : cf_dec p = false := @decide_eq_false p (Classical.propDecidable p) h
theorem cf_dec_iff {p q : Prop} (h : p ↔ q) : cf_dec p = cf_dec q := by rw [propext h]
theorem cf_dec_p {p : Prop} (h : cf_dec p = true) : p := @of_decide_eq_true p (Classical.propDecidable p) h
/-- the reference's condition for a game to be proposed -/
def cf_canM (S : cf_S) (P : cf_Pt) (nc ng : Nat) (x : Int32) (g : Nat) : Prop := ng < 60 ∧ ¬ cf_best (cf_okTM S x) (cf_ltTM S) 6 = none ∧ cf_rg x (S 17 1 g) (S 17 2 g) ∧ ∃ c, c < nc ∧ cf_okCM S P g c
noncomputable def cf_okPM (S : cf_S) (P : cf_Pt) (nc ng : Nat) (x : Int32) : Nat → Bool := fun g => cf_dec (cf_canM S P nc ng x g)
def cf_ltPM (S : cf_S) : Nat → Nat → Bool := fun u t => decide (S 17 6 t < S 17 6 u)
theorem cf_fst_no {ok : Nat → Prop} {N : Nat} (h : cf_fst ok N none) : ¬ ∃ c, c < N ∧ ok c := by
  rcases h with ⟨-, h⟩ | ⟨i, h, -⟩
  · rintro ⟨c, hc, h2⟩; exact h c hc h2
  · cases h
theorem cf_fst_so {ok : Nat → Prop} {N i : Nat} (h : cf_fst ok N (some i)) : i < N ∧ ok i := by
  rcases h with ⟨h, -⟩ | ⟨j, h, h2, h3, -⟩
  · cases h
  · cases h; exact ⟨h2, h3⟩
theorem cf_oi_no {b : Option Nat} {n : Nat} (h : ∀ t, b = some t → t < n) (hn : n < 2 ^ 31) (q : cf_oi b = -1) : b = none := by
  cases b with
  | none => rfl
  | some t => exact absurd q (cf_nIm1 (Nat.lt_trans (h t rfl) hn))
set_option maxHeartbeats 4000000 in
set_option maxRecDepth 100000 in
/-- X6_minute -/
theorem c_X6_minute (l : Launch) (D : va_G) (cT : Nat → ClassId) (z : Nat) (ad : cf_Ad) (nc ng : Nat) (S : cf_S) (P : cf_Pt) (O : Nat → Int64)  : Met l yX6_minute wsX6_minute ({ frames := 0, cells := 0, slots := 0, locals := 0 }) (va_Pc [.ref (ad 6 0)] (cf_P D cT z (cf_E cT nc ng S P O ad) ad)) (cf_Qi D z (fun (r : Int32) (T : cf_S) => r = S 6 0 0 ∧ T = (cf_s3 S 6 0 23 0)) (fun T => cf_E cT nc ng T P O ad) (fun _ => ad)) 0 0 (fun q => z ≤ q) := by
  refine Met.ofW (cc := cX6_minute) (maxL := 1) (ret := (some .int)) (by decide) rfl ?_
  intro p e s m args below meth c s₁ B hml hv
  obtain ⟨rfl, hW, hT⟩ := hv
  have hx := B.exec
  have hb := B.bytes
  have hr := B.returns
  have hts := atoms_spec (ws := wsX6_minute) B.pre
  have hown : s.vm.findClass RX6 = some m.cls := findClass_of_methodNamed B.named
  have hlocks := B.notSynchronized
  have hS : va_S (fun q => z ≤ q) s.heap s.heap [] := va_S.rf
  have hl := lv_entry ([.ref (ad 6 0)]) (n := 1) (Nat.le_of_ble_eq_true rfl)
  rw [lg_entry_eq]
  generalize (lg_sl ([.ref (ad 6 0)]) ++ List.replicate (1 - (lg_sl ([.ref (ad 6 0)])).length) Slot.unset).toArray = ls at hl ⊢
  have hl : lv_has ls 1 [(0, .ref (ad 6 0))] := hl
  skip
  refine lv_aload_n hx hb dX6_minute_0 rfl (lv_at hl 0 rfl) ?_
  refine lv_iconst (v := 0) hx hb dX6_minute_1 (by decide) ?_
  refine cf_putE (v := .int 0) (ty := .int) (ci := 6) (C := RX6) (T := TX6) (N := 24) hx hb hts (fun _ h => List.mem_cons_of_mem _ (List.mem_append_right _ (h))) tyX6 tyX6_ok nmX6 hown hT.1 hW hS cf_e6 rfl 23 (by decide) (hts (.fieldLink RX6 70 "GameCafeModel" "thrown" "I") (List.mem_of_getElem? (i := 1) rfl)) (fun _ h9 => h9) rfl (by decide +kernel) rfl rfl (Nat.le_of_ble_eq_true rfl) dX6_minute_2 (E2 := (cf_E cT nc ng (cf_s3 S 6 0 23 0) P O ad)) (cf_upS 6 0 (upd (S 6 0) 23 0) rfl) (fun H locs hW hS => ?_)
  refine lv_aload_n hx hb dX6_minute_5 rfl (lv_at hl 0 rfl) ?_
  refine cf_get (v := .int (S 6 0 0)) (ci := 6) (C := RX6) (T := TX6) (N := 24) hx hb hts (fun _ h => List.mem_cons_of_mem _ (List.mem_append_right _ (h))) hown hT.1 hW cf_e6 rfl 0 (by decide) (hts (.fieldLink RX6 98 "GameCafeModel" "minute" "I") (List.mem_of_getElem? (i := 2) rfl)) (fun _ h9 => h9) (congrArg (fun x => some (Value.int x)) (by simp [cf_s3, cf_g2, upd] : (cf_s3 S 6 0 23 0) 6 0 0 = S 6 0 0)) dX6_minute_6 ?_
  exact W.iret (v := (S 6 0 0)) hx hb hr (fun t9 ht9 hw9 => ⟨⟨(S 6 0 0), (cf_s3 S 6 0 23 0), rfl, ⟨rfl, rfl⟩, cf_W.re ht9 hW⟩, hS.F ht9⟩) hS.2.2 dX6_minute_9
set_option maxHeartbeats 4000000 in
set_option maxRecDepth 100000 in
/-- X6_copies -/
theorem c_X6_copies (l : Launch) (D : va_G) (cT : Nat → ClassId) (z : Nat) (ad : cf_Ad) (nc ng : Nat) (S : cf_S) (P : cf_Pt) (O : Nat → Int64)  : Met l yX6_copies wsX6_copies ({ frames := 0, cells := 0, slots := 0, locals := 0 }) (va_Pc [.ref (ad 6 0)] (cf_P D cT z (cf_E cT nc ng S P O ad) ad)) (cf_Qi D z (fun (r : Int32) (T : cf_S) => r = S 6 0 11 ∧ T = (cf_s3 S 6 0 23 0)) (fun T => cf_E cT nc ng T P O ad) (fun _ => ad)) 0 0 (fun q => z ≤ q) := by
  refine Met.ofW (cc := cX6_copies) (maxL := 1) (ret := (some .int)) (by decide) rfl ?_
  intro p e s m args below meth c s₁ B hml hv
  obtain ⟨rfl, hW, hT⟩ := hv
  have hx := B.exec
  have hb := B.bytes
  have hr := B.returns
  have hts := atoms_spec (ws := wsX6_copies) B.pre
  have hown : s.vm.findClass RX6 = some m.cls := findClass_of_methodNamed B.named
  have hlocks := B.notSynchronized
  have hS : va_S (fun q => z ≤ q) s.heap s.heap [] := va_S.rf
  have hl := lv_entry ([.ref (ad 6 0)]) (n := 1) (Nat.le_of_ble_eq_true rfl)
  rw [lg_entry_eq]
  generalize (lg_sl ([.ref (ad 6 0)]) ++ List.replicate (1 - (lg_sl ([.ref (ad 6 0)])).length) Slot.unset).toArray = ls at hl ⊢
  have hl : lv_has ls 1 [(0, .ref (ad 6 0))] := hl
  skip
  refine lv_aload_n hx hb dX6_copies_0 rfl (lv_at hl 0 rfl) ?_
  refine lv_iconst (v := 0) hx hb dX6_copies_1 (by decide) ?_
  refine cf_putE (v := .int 0) (ty := .int) (ci := 6) (C := RX6) (T := TX6) (N := 24) hx hb hts (fun _ h => List.mem_cons_of_mem _ (List.mem_append_right _ (h))) tyX6 tyX6_ok nmX6 hown hT.1 hW hS cf_e6 rfl 23 (by decide) (hts (.fieldLink RX6 70 "GameCafeModel" "thrown" "I") (List.mem_of_getElem? (i := 1) rfl)) (fun _ h9 => h9) rfl (by decide +kernel) rfl rfl (Nat.le_of_ble_eq_true rfl) dX6_copies_2 (E2 := (cf_E cT nc ng (cf_s3 S 6 0 23 0) P O ad)) (cf_upS 6 0 (upd (S 6 0) 23 0) rfl) (fun H locs hW hS => ?_)
  refine lv_aload_n hx hb dX6_copies_5 rfl (lv_at hl 0 rfl) ?_
  refine cf_get (v := .int (S 6 0 11)) (ci := 6) (C := RX6) (T := TX6) (N := 24) hx hb hts (fun _ h => List.mem_cons_of_mem _ (List.mem_append_right _ (h))) hown hT.1 hW cf_e6 rfl 11 (by decide) (hts (.fieldLink RX6 78 "GameCafeModel" "copies" "I") (List.mem_of_getElem? (i := 2) rfl)) (fun _ h9 => h9) (congrArg (fun x => some (Value.int x)) (by simp [cf_s3, cf_g2, upd] : (cf_s3 S 6 0 23 0) 6 0 11 = S 6 0 11)) dX6_copies_6 ?_
  exact W.iret (v := (S 6 0 11)) hx hb hr (fun t9 ht9 hw9 => ⟨⟨(S 6 0 11), (cf_s3 S 6 0 23 0), rfl, ⟨rfl, rfl⟩, cf_W.re ht9 hW⟩, hS.F ht9⟩) hS.2.2 dX6_copies_9
set_option maxHeartbeats 4000000 in
set_option maxRecDepth 100000 in
/-- X6_parts -/
theorem c_X6_parts (l : Launch) (D : va_G) (cT : Nat → ClassId) (z : Nat) (ad : cf_Ad) (nc ng : Nat) (S : cf_S) (P : cf_Pt) (O : Nat → Int64) (x y : Int32) (hn : S 6 0 11 = nI nc) (hnc : nc ≤ 15) : Met l yX6_parts wsX6_parts ({ frames := 2, cells := 0, slots := 0, locals := 43 }) (va_Pc [.ref (ad 6 0), .int x, .int y] (cf_P D cT z (cf_E cT nc ng S P O ad) ad)) (cf_Qi D z (fun (r : Int32) (T : cf_S) => (¬ (cf_ix x nc ∧ cf_ix y 4) ∧ T = (cf_s3 S 6 0 23 1)) ∨ ∃ cp k : Nat, cp < nc ∧ x = nI cp ∧ k < 4 ∧ y = nI k ∧ r = S 17 14 (4 * cp + k) ∧ T = (cf_s3 S 6 0 23 0)) (fun T => cf_E cT nc ng T P O ad) (fun _ => ad)) 0 0 (fun q => z ≤ q) := by
  refine Met.ofW (cc := cX6_parts) (maxL := 3) (ret := (some .int)) (by decide) rfl ?_
  intro p e s m args below meth c s₁ B hml hv
  obtain ⟨rfl, hW, hT⟩ := hv
  have hx := B.exec
  have hb := B.bytes
  have hr := B.returns
  have hts := atoms_spec (ws := wsX6_parts) B.pre
  have hown : s.vm.findClass RX6 = some m.cls := findClass_of_methodNamed B.named
  have hlocks := B.notSynchronized
  have hS : va_S (fun q => z ≤ q) s.heap s.heap [] := va_S.rf
  have hl := lv_entry ([.ref (ad 6 0), .int x, .int y]) (n := 3) (Nat.le_of_ble_eq_true rfl)
  rw [lg_entry_eq]
  generalize (lg_sl ([.ref (ad 6 0), .int x, .int y]) ++ List.replicate (3 - (lg_sl ([.ref (ad 6 0), .int x, .int y])).length) Slot.unset).toArray = ls at hl ⊢
  have hl : lv_has ls 3 [(0, .ref (ad 6 0)), (1, .int x), (2, .int y)] := hl
  skip
  refine lv_aload_n hx hb dX6_parts_0 rfl (lv_at hl 0 rfl) ?_
  refine lv_aload_n hx hb dX6_parts_1 rfl (lv_at hl 0 rfl) ?_
  refine lv_iload_n hx hb dX6_parts_2 rfl (lv_at hl 1 rfl) ?_
  refine va_calli (va_runV (As := [.int x]) (rest := [.ref (ad 6 0)]) ⟨hx, hb, hml, hown, hts⟩ (c_X6_isCopy l D cT z ad nc ng S P O x hn hnc) (cwV 1 hts gX6_parts_X6_isCopy rfl rfl rfl (by decide +kernel) ⟨Nat.le_of_ble_eq_true rfl, Nat.le_of_ble_eq_true rfl⟩) (cf_preV (T := TX6) (N := 24) hT hS hW cf_e6 rfl) rfl rfl hl.1 rfl (lv_room (Nat.le_of_ble_eq_true rfl)) dX6_parts_3 ⟨Nat.le_of_ble_eq_true rfl, Nat.le_of_ble_eq_true rfl⟩) hS (fun _ _ h => h) (fun _ h => h) (fun r1 ur1 t9 H locs ht hvm hw hW hz1 hk1 hS => ?_)
  have hW := cf_W.er ht hW
  have h0 := hw
  refine lv_if_eq (tgt := 22) hx hb dX6_parts_6 (by decide) (fun c6_2 => ?_) (fun c6_2 => ?_)
  · have hi := h0.f c6_2
    refine lv_iconst (v := 1) hx hb dX6_parts_22 (by decide) ?_
    refine cf_putE (v := .int 1) (ty := .int) (ci := 6) (C := RX6) (T := TX6) (N := 24) hx hb hts (fun _ h => List.mem_cons_of_mem _ (List.mem_append_right _ (h))) tyX6 tyX6_ok nmX6 hown hT.1 hW hS cf_e6 rfl 23 (by decide) (hts (.fieldLink RX6 70 "GameCafeModel" "thrown" "I") (List.mem_of_getElem? (i := 1) rfl)) (fun _ h9 => h9) rfl (by decide +kernel) rfl rfl (Nat.le_of_ble_eq_true rfl) dX6_parts_23 (E2 := (cf_E cT nc ng (cf_s3 S 6 0 23 1) P O ad)) (cf_upS 6 0 (upd (S 6 0) 23 1) rfl) (fun H locs hW hS => ?_)
    refine lv_aload_n hx hb dX6_parts_26 rfl (lv_at hl 0 rfl) ?_
    refine cf_get (v := .int 1) (ci := 6) (C := RX6) (T := TX6) (N := 24) hx hb hts (fun _ h => List.mem_cons_of_mem _ (List.mem_append_right _ (h))) hown hT.1 hW cf_e6 rfl 23 (by decide) (hts (.fieldLink RX6 70 "GameCafeModel" "thrown" "I") (List.mem_of_getElem? (i := 1) rfl)) (fun _ h9 => h9) (congrArg (fun x => some (Value.int x)) (by simp [cf_s3, cf_g2, upd] : (cf_s3 S 6 0 23 1) 6 0 23 = 1)) dX6_parts_27 ?_
    refine lv_if_ne (tgt := 46) hx hb dX6_parts_30 (by decide) (fun c30_3 => ?_) (fun c30_3 => (by first | exact absurd (by decide) c30_3 | exact absurd c30_3 (by decide)))
    refine lv_iconst (v := 0) hx hb dX6_parts_46 (by decide) ?_
    exact W.iret (v := 0) hx hb hr (fun t9 ht9 hw9 => ⟨⟨0, (cf_s3 S 6 0 23 1), rfl, Or.inl ⟨fun q => hi q.1, rfl⟩, cf_W.re ht9 hW⟩, hS.F ht9⟩) hS.2.2 dX6_parts_47
  · have hi := h0.t c6_2
    refine lv_iload_n hx hb dX6_parts_9 rfl (lv_at hl 2 rfl) ?_
    refine lv_iconst (v := 0) hx hb dX6_parts_10 (by decide) ?_
    refine lv_iconst (v := 3) hx hb dX6_parts_11 (by decide) ?_
    refine va_calli (va_runS (As := [.int y, .int 0, .int 3]) (rest := [.ref (ad 6 0)]) ⟨hx, hb, hml, hown, hts⟩ (c_X6_in l D cT z ad _ y 0 3) (va_cwS 3 hts gX6_parts_X6_in rfl rfl rfl (by decide +kernel) ⟨Nat.le_of_ble_eq_true rfl, Nat.le_of_ble_eq_true rfl⟩) (cf_preS hT hS hW) rfl rfl hl.1 rfl (lv_room (Nat.le_of_ble_eq_true rfl)) dX6_parts_12 ⟨Nat.le_of_ble_eq_true rfl, Nat.le_of_ble_eq_true rfl⟩) hS (fun _ _ h => h) (fun _ h => h) (fun r4 ur4 t9 H locs ht hvm hw hW hz1 hk1 hS => ?_)
    have hW := cf_W.er ht hW
    have k0 := hw
    have k0 := k0.iff (cf_rg_ix (n := 4) (by decide) rfl)
    refine lv_if_eq (tgt := 22) hx hb dX6_parts_15 (by decide) (fun c15_5 => ?_) (fun c15_5 => ?_)
    · have hy := k0.f c15_5
      refine lv_iconst (v := 1) hx hb dX6_parts_22 (by decide) ?_
      refine cf_putE (v := .int 1) (ty := .int) (ci := 6) (C := RX6) (T := TX6) (N := 24) hx hb hts (fun _ h => List.mem_cons_of_mem _ (List.mem_append_right _ (h))) tyX6 tyX6_ok nmX6 hown hT.1 hW hS cf_e6 rfl 23 (by decide) (hts (.fieldLink RX6 70 "GameCafeModel" "thrown" "I") (List.mem_of_getElem? (i := 1) rfl)) (fun _ h9 => h9) rfl (by decide +kernel) rfl rfl (Nat.le_of_ble_eq_true rfl) dX6_parts_23 (E2 := (cf_E cT nc ng (cf_s3 S 6 0 23 1) P O ad)) (cf_upS 6 0 (upd (S 6 0) 23 1) rfl) (fun H locs hW hS => ?_)
      refine lv_aload_n hx hb dX6_parts_26 rfl (lv_at hl 0 rfl) ?_
      refine cf_get (v := .int 1) (ci := 6) (C := RX6) (T := TX6) (N := 24) hx hb hts (fun _ h => List.mem_cons_of_mem _ (List.mem_append_right _ (h))) hown hT.1 hW cf_e6 rfl 23 (by decide) (hts (.fieldLink RX6 70 "GameCafeModel" "thrown" "I") (List.mem_of_getElem? (i := 1) rfl)) (fun _ h9 => h9) (congrArg (fun x => some (Value.int x)) (by simp [cf_s3, cf_g2, upd] : (cf_s3 S 6 0 23 1) 6 0 23 = 1)) dX6_parts_27 ?_
      refine lv_if_ne (tgt := 46) hx hb dX6_parts_30 (by decide) (fun c30_6 => ?_) (fun c30_6 => (by first | exact absurd (by decide) c30_6 | exact absurd c30_6 (by decide)))
      refine lv_iconst (v := 0) hx hb dX6_parts_46 (by decide) ?_
      exact W.iret (v := 0) hx hb hr (fun t9 ht9 hw9 => ⟨⟨0, (cf_s3 S 6 0 23 1), rfl, Or.inl ⟨fun q => hy q.2, rfl⟩, cf_W.re ht9 hW⟩, hS.F ht9⟩) hS.2.2 dX6_parts_47
    · have hy := k0.t c15_5
      refine lv_iconst (v := 0) hx hb dX6_parts_18 (by decide) ?_
      refine lv_goto (tgt := 23) hx hb dX6_parts_19 (by decide) ?_
      refine cf_putE (v := .int 0) (ty := .int) (ci := 6) (C := RX6) (T := TX6) (N := 24) hx hb hts (fun _ h => List.mem_cons_of_mem _ (List.mem_append_right _ (h))) tyX6 tyX6_ok nmX6 hown hT.1 hW hS cf_e6 rfl 23 (by decide) (hts (.fieldLink RX6 70 "GameCafeModel" "thrown" "I") (List.mem_of_getElem? (i := 1) rfl)) (fun _ h9 => h9) rfl (by decide +kernel) rfl rfl (Nat.le_of_ble_eq_true rfl) dX6_parts_23 (E2 := (cf_E cT nc ng (cf_s3 S 6 0 23 0) P O ad)) (cf_upS 6 0 (upd (S 6 0) 23 0) rfl) (fun H locs hW hS => ?_)
      refine lv_aload_n hx hb dX6_parts_26 rfl (lv_at hl 0 rfl) ?_
      refine cf_get (v := .int 0) (ci := 6) (C := RX6) (T := TX6) (N := 24) hx hb hts (fun _ h => List.mem_cons_of_mem _ (List.mem_append_right _ (h))) hown hT.1 hW cf_e6 rfl 23 (by decide) (hts (.fieldLink RX6 70 "GameCafeModel" "thrown" "I") (List.mem_of_getElem? (i := 1) rfl)) (fun _ h9 => h9) (congrArg (fun x => some (Value.int x)) (by simp [cf_s3, cf_g2, upd] : (cf_s3 S 6 0 23 0) 6 0 23 = 0)) dX6_parts_27 ?_
      refine lv_if_ne (tgt := 46) hx hb dX6_parts_30 (by decide) (fun c30_7 => (by first | exact absurd c30_7 (by decide) | exact absurd (by decide) c30_7)) (fun c30_7 => ?_)
      obtain ⟨cp, hc, hxc⟩ := hi
      obtain ⟨k, hk, hyk⟩ := hy
      refine lv_aload_n hx hb dX6_parts_33 rfl (lv_at hl 0 rfl) ?_
      refine cf_get (v := .ref (ad 17 14)) (ci := 6) (C := RX6) (T := TX6) (N := 24) hx hb hts (fun _ h => List.mem_cons_of_mem _ (List.mem_append_right _ (h))) hown hT.1 hW cf_e6 rfl 14 (by decide) (hts (.fieldLink RX6 46 "GameCafeModel" "parts" "[I") (List.mem_of_getElem? (i := 2) rfl)) (fun _ h9 => h9) rfl dX6_parts_34 ?_
      refine lv_iconst (v := 4) hx hb dX6_parts_37 (by decide) ?_
      refine lv_iload_n hx hb dX6_parts_38 rfl (lv_at hl 1 rfl) ?_
      refine lv_imul hx hb dX6_parts_39 ?_
      refine lv_iload_n hx hb dX6_parts_40 rfl (lv_at hl 2 rfl) ?_
      refine lv_iadd hx hb dX6_parts_41 ?_
      refine cf_ildN (t0 := 0) (n := 60) (f := (cf_s3 S 6 0 23 0) 17 14) (v := (S 17 14 (4 * cp + k))) hx hb hT.1 hW (cf_e17 (i := 14) (by decide)) rfl (4 * cp + k) (cf_ix4 hxc hyk) (by omega) (by decide) dX6_parts_42 (by simp [cf_s3, cf_g2, upd] : (cf_s3 S 6 0 23 0) 17 14 (4 * cp + k) = S 17 14 (4 * cp + k)) ?_
      refine lv_goto (tgt := 47) hx hb dX6_parts_43 (by decide) ?_
      exact W.iret (v := (S 17 14 (4 * cp + k))) hx hb hr (fun t9 ht9 hw9 => ⟨⟨(S 17 14 (4 * cp + k)), (cf_s3 S 6 0 23 0), rfl, Or.inr ⟨cp, k, hc, hxc, hk, hyk, rfl, rfl⟩, cf_W.re ht9 hW⟩, hS.F ht9⟩) hS.2.2 dX6_parts_47
set_option maxHeartbeats 4000000 in
set_option maxRecDepth 100000 in
/-- X6_canBePlayed -/
theorem c_X6_canBePlayed (l : Launch) (D : va_G) (cT : Nat → ClassId) (z : Nat) (ad : cf_Ad) (nc ng : Nat) (S : cf_S) (P : cf_Pt) (O : Nat → Int64) (x : Int32) (hn : S 6 0 11 = nI nc) (hnc : nc ≤ 15) (hM : ∀ j, j < nc → S 17 12 j = nI (P 0 j 0) ∧ P 0 j 0 < 5) : Met l yX6_canBePlayed wsX6_canBePlayed ({ frames := 2, cells := 0, slots := 0, locals := 43 }) (va_Pc [.ref (ad 6 0), .int x] (cf_P D cT z (cf_E cT nc ng S P O ad) ad)) (cf_Qi D z (fun (r : Int32) (T : cf_S) => (¬ cf_ix x nc ∧ T = (cf_s3 S 6 0 23 1)) ∨ ∃ cp : Nat, cp < nc ∧ x = nI cp ∧ cf_B r (cf_playM S P cp) ∧ T = (cf_s3 S 6 0 23 0)) (fun T => cf_E cT nc ng T P O ad) (fun _ => ad)) 0 0 (fun q => z ≤ q) := by
  refine Met.ofW (cc := cX6_canBePlayed) (maxL := 2) (ret := (some .boolean)) (by decide) rfl ?_
  intro p e s m args below meth c s₁ B hml hv
  obtain ⟨rfl, hW, hT⟩ := hv
  have hx := B.exec
  have hb := B.bytes
  have hr := B.returns
  have hts := atoms_spec (ws := wsX6_canBePlayed) B.pre
  have hown : s.vm.findClass RX6 = some m.cls := findClass_of_methodNamed B.named
  have hlocks := B.notSynchronized
  have hS : va_S (fun q => z ≤ q) s.heap s.heap [] := va_S.rf
  have hl := lv_entry ([.ref (ad 6 0), .int x]) (n := 2) (Nat.le_of_ble_eq_true rfl)
  rw [lg_entry_eq]
  generalize (lg_sl ([.ref (ad 6 0), .int x]) ++ List.replicate (2 - (lg_sl ([.ref (ad 6 0), .int x])).length) Slot.unset).toArray = ls at hl ⊢
  have hl : lv_has ls 2 [(0, .ref (ad 6 0)), (1, .int x)] := hl
  skip
  refine lv_aload_n hx hb dX6_canBePlayed_0 rfl (lv_at hl 0 rfl) ?_
  refine lv_aload_n hx hb dX6_canBePlayed_1 rfl (lv_at hl 0 rfl) ?_
  refine lv_iload_n hx hb dX6_canBePlayed_2 rfl (lv_at hl 1 rfl) ?_
  refine va_calli (va_runV (As := [.int x]) (rest := [.ref (ad 6 0)]) ⟨hx, hb, hml, hown, hts⟩ (c_X6_isCopy l D cT z ad nc ng S P O x hn hnc) (cwV 1 hts gX6_canBePlayed_X6_isCopy rfl rfl rfl (by decide +kernel) ⟨Nat.le_of_ble_eq_true rfl, Nat.le_of_ble_eq_true rfl⟩) (cf_preV (T := TX6) (N := 24) hT hS hW cf_e6 rfl) rfl rfl hl.1 rfl (lv_room (Nat.le_of_ble_eq_true rfl)) dX6_canBePlayed_3 ⟨Nat.le_of_ble_eq_true rfl, Nat.le_of_ble_eq_true rfl⟩) hS (fun _ _ h => h) (fun _ h => h) (fun r1 ur1 t9 H locs ht hvm hw hW hz1 hk1 hS => ?_)
  have hW := cf_W.er ht hW
  have h0 := hw
  refine lv_if_eq (tgt := 13) hx hb dX6_canBePlayed_6 (by decide) (fun c6_2 => ?_) (fun c6_2 => ?_)
  · have hi := h0.f c6_2
    refine lv_iconst (v := 1) hx hb dX6_canBePlayed_13 (by decide) ?_
    refine cf_putE (v := .int 1) (ty := .int) (ci := 6) (C := RX6) (T := TX6) (N := 24) hx hb hts (fun _ h => List.mem_cons_of_mem _ (List.mem_append_right _ (h))) tyX6 tyX6_ok nmX6 hown hT.1 hW hS cf_e6 rfl 23 (by decide) (hts (.fieldLink RX6 70 "GameCafeModel" "thrown" "I") (List.mem_of_getElem? (i := 1) rfl)) (fun _ h9 => h9) rfl (by decide +kernel) rfl rfl (Nat.le_of_ble_eq_true rfl) dX6_canBePlayed_14 (E2 := (cf_E cT nc ng (cf_s3 S 6 0 23 1) P O ad)) (cf_upS 6 0 (upd (S 6 0) 23 1) rfl) (fun H locs hW hS => ?_)
    refine lv_aload_n hx hb dX6_canBePlayed_17 rfl (lv_at hl 0 rfl) ?_
    refine cf_get (v := .int 1) (ci := 6) (C := RX6) (T := TX6) (N := 24) hx hb hts (fun _ h => List.mem_cons_of_mem _ (List.mem_append_right _ (h))) hown hT.1 hW cf_e6 rfl 23 (by decide) (hts (.fieldLink RX6 70 "GameCafeModel" "thrown" "I") (List.mem_of_getElem? (i := 1) rfl)) (fun _ h9 => h9) (congrArg (fun x => some (Value.int x)) (by simp [cf_s3, cf_g2, upd] : (cf_s3 S 6 0 23 1) 6 0 23 = 1)) dX6_canBePlayed_18 ?_
    refine lv_if_ne (tgt := 36) hx hb dX6_canBePlayed_21 (by decide) (fun c21_3 => ?_) (fun c21_3 => (by first | exact absurd (by decide) c21_3 | exact absurd c21_3 (by decide)))
    refine lv_iconst (v := 0) hx hb dX6_canBePlayed_36 (by decide) ?_
    exact W.zret (v := 0) (ty := .boolean) hx hb hr (by rfl) (fun t9 ht9 hw9 => ⟨⟨0, (cf_s3 S 6 0 23 1), rfl, Or.inl ⟨hi, rfl⟩, cf_W.re ht9 hW⟩, hS.F ht9⟩) hS.2.2 dX6_canBePlayed_37
  · have hi := h0.t c6_2
    refine lv_iconst (v := 0) hx hb dX6_canBePlayed_9 (by decide) ?_
    refine lv_goto (tgt := 14) hx hb dX6_canBePlayed_10 (by decide) ?_
    refine cf_putE (v := .int 0) (ty := .int) (ci := 6) (C := RX6) (T := TX6) (N := 24) hx hb hts (fun _ h => List.mem_cons_of_mem _ (List.mem_append_right _ (h))) tyX6 tyX6_ok nmX6 hown hT.1 hW hS cf_e6 rfl 23 (by decide) (hts (.fieldLink RX6 70 "GameCafeModel" "thrown" "I") (List.mem_of_getElem? (i := 1) rfl)) (fun _ h9 => h9) rfl (by decide +kernel) rfl rfl (Nat.le_of_ble_eq_true rfl) dX6_canBePlayed_14 (E2 := (cf_E cT nc ng (cf_s3 S 6 0 23 0) P O ad)) (cf_upS 6 0 (upd (S 6 0) 23 0) rfl) (fun H locs hW hS => ?_)
    refine lv_aload_n hx hb dX6_canBePlayed_17 rfl (lv_at hl 0 rfl) ?_
    refine cf_get (v := .int 0) (ci := 6) (C := RX6) (T := TX6) (N := 24) hx hb hts (fun _ h => List.mem_cons_of_mem _ (List.mem_append_right _ (h))) hown hT.1 hW cf_e6 rfl 23 (by decide) (hts (.fieldLink RX6 70 "GameCafeModel" "thrown" "I") (List.mem_of_getElem? (i := 1) rfl)) (fun _ h9 => h9) (congrArg (fun x => some (Value.int x)) (by simp [cf_s3, cf_g2, upd] : (cf_s3 S 6 0 23 0) 6 0 23 = 0)) dX6_canBePlayed_18 ?_
    refine lv_if_ne (tgt := 36) hx hb dX6_canBePlayed_21 (by decide) (fun c21_4 => (by first | exact absurd c21_4 (by decide) | exact absurd (by decide) c21_4)) (fun c21_4 => ?_)
    obtain ⟨cp, hc, hxc⟩ := hi
    refine lv_aload_n hx hb dX6_canBePlayed_24 rfl (lv_at hl 0 rfl) ?_
    refine lv_iload_n hx hb dX6_canBePlayed_25 rfl (lv_at hl 1 rfl) ?_
    refine va_calli (va_runV (As := [.int x]) (rest := []) ⟨hx, hb, hml, hown, hts⟩ (c_X6_playable l D cT z ad nc ng (cf_s3 S 6 0 23 0) P O x hxc hc hnc hM) (cwV 1 hts gX6_canBePlayed_X6_playable rfl rfl rfl (by decide +kernel) ⟨Nat.le_of_ble_eq_true rfl, Nat.le_of_ble_eq_true rfl⟩) (cf_preV (T := TX6) (N := 24) hT hS hW cf_e6 rfl) rfl rfl hl.1 rfl (lv_room (Nat.le_of_ble_eq_true rfl)) dX6_canBePlayed_26 ⟨Nat.le_of_ble_eq_true rfl, Nat.le_of_ble_eq_true rfl⟩) hS (fun _ _ h => h) (fun _ h => h) (fun r5 ur5 t9 H locs ht hvm hw hW hz1 hk1 hS => ?_)
    have hW := cf_W.er ht hW
    have hp := hw
    have hp : cf_B _ (cf_playM S P cp) := hp
    refine lv_if_eq (tgt := 36) hx hb dX6_canBePlayed_29 (by decide) (fun c29_6 => ?_) (fun c29_6 => ?_)
    · have hq := hp.f c29_6
      refine lv_iconst (v := 0) hx hb dX6_canBePlayed_36 (by decide) ?_
      exact W.zret (v := 0) (ty := .boolean) hx hb hr (by rfl) (fun t9 ht9 hw9 => ⟨⟨0, (cf_s3 S 6 0 23 0), rfl, Or.inr ⟨cp, hc, hxc, Or.inr ⟨rfl, hq⟩, rfl⟩, cf_W.re ht9 hW⟩, hS.F ht9⟩) hS.2.2 dX6_canBePlayed_37
    · have hq := hp.t c29_6
      refine lv_iconst (v := 1) hx hb dX6_canBePlayed_32 (by decide) ?_
      refine lv_goto (tgt := 37) hx hb dX6_canBePlayed_33 (by decide) ?_
      exact W.zret (v := 1) (ty := .boolean) hx hb hr (by rfl) (fun t9 ht9 hw9 => ⟨⟨1, (cf_s3 S 6 0 23 0), rfl, Or.inr ⟨cp, hc, hxc, Or.inl ⟨rfl, hq⟩, rfl⟩, cf_W.re ht9 hW⟩, hS.F ht9⟩) hS.2.2 dX6_canBePlayed_37
set_option maxHeartbeats 4000000 in
set_option maxRecDepth 100000 in
/-- X6_whereIs -/
theorem c_X6_whereIs (l : Launch) (D : va_G) (cT : Nat → ClassId) (z : Nat) (ad : cf_Ad) (nc ng : Nat) (S : cf_S) (P : cf_Pt) (O : Nat → Int64) (x : Int32) (hn : S 6 0 11 = nI nc) (hnc : nc ≤ 15) : Met l yX6_whereIs wsX6_whereIs ({ frames := 2, cells := 0, slots := 0, locals := 43 }) (va_Pc [.ref (ad 6 0), .int x] (cf_P D cT z (cf_E cT nc ng S P O ad) ad)) (cf_Qi D z (fun (r : Int32) (T : cf_S) => (¬ cf_ix x nc ∧ T = (cf_s3 S 6 0 23 1)) ∨ ∃ cp : Nat, cp < nc ∧ x = nI cp ∧ r = S 17 13 cp ∧ T = (cf_s3 S 6 0 23 0)) (fun T => cf_E cT nc ng T P O ad) (fun _ => ad)) 0 0 (fun q => z ≤ q) := by
  refine Met.ofW (cc := cX6_whereIs) (maxL := 2) (ret := (some .int)) (by decide) rfl ?_
  intro p e s m args below meth c s₁ B hml hv
  obtain ⟨rfl, hW, hT⟩ := hv
  have hx := B.exec
  have hb := B.bytes
  have hr := B.returns
  have hts := atoms_spec (ws := wsX6_whereIs) B.pre
  have hown : s.vm.findClass RX6 = some m.cls := findClass_of_methodNamed B.named
  have hlocks := B.notSynchronized
  have hS : va_S (fun q => z ≤ q) s.heap s.heap [] := va_S.rf
  have hl := lv_entry ([.ref (ad 6 0), .int x]) (n := 2) (Nat.le_of_ble_eq_true rfl)
  rw [lg_entry_eq]
  generalize (lg_sl ([.ref (ad 6 0), .int x]) ++ List.replicate (2 - (lg_sl ([.ref (ad 6 0), .int x])).length) Slot.unset).toArray = ls at hl ⊢
  have hl : lv_has ls 2 [(0, .ref (ad 6 0)), (1, .int x)] := hl
  skip
  refine lv_aload_n hx hb dX6_whereIs_0 rfl (lv_at hl 0 rfl) ?_
  refine lv_aload_n hx hb dX6_whereIs_1 rfl (lv_at hl 0 rfl) ?_
  refine lv_iload_n hx hb dX6_whereIs_2 rfl (lv_at hl 1 rfl) ?_
  refine va_calli (va_runV (As := [.int x]) (rest := [.ref (ad 6 0)]) ⟨hx, hb, hml, hown, hts⟩ (c_X6_isCopy l D cT z ad nc ng S P O x hn hnc) (cwV 1 hts gX6_whereIs_X6_isCopy rfl rfl rfl (by decide +kernel) ⟨Nat.le_of_ble_eq_true rfl, Nat.le_of_ble_eq_true rfl⟩) (cf_preV (T := TX6) (N := 24) hT hS hW cf_e6 rfl) rfl rfl hl.1 rfl (lv_room (Nat.le_of_ble_eq_true rfl)) dX6_whereIs_3 ⟨Nat.le_of_ble_eq_true rfl, Nat.le_of_ble_eq_true rfl⟩) hS (fun _ _ h => h) (fun _ h => h) (fun r1 ur1 t9 H locs ht hvm hw hW hz1 hk1 hS => ?_)
  have hW := cf_W.er ht hW
  have h0 := hw
  refine lv_if_eq (tgt := 13) hx hb dX6_whereIs_6 (by decide) (fun c6_2 => ?_) (fun c6_2 => ?_)
  · have hi := h0.f c6_2
    refine lv_iconst (v := 1) hx hb dX6_whereIs_13 (by decide) ?_
    refine cf_putE (v := .int 1) (ty := .int) (ci := 6) (C := RX6) (T := TX6) (N := 24) hx hb hts (fun _ h => List.mem_cons_of_mem _ (List.mem_append_right _ (h))) tyX6 tyX6_ok nmX6 hown hT.1 hW hS cf_e6 rfl 23 (by decide) (hts (.fieldLink RX6 70 "GameCafeModel" "thrown" "I") (List.mem_of_getElem? (i := 1) rfl)) (fun _ h9 => h9) rfl (by decide +kernel) rfl rfl (Nat.le_of_ble_eq_true rfl) dX6_whereIs_14 (E2 := (cf_E cT nc ng (cf_s3 S 6 0 23 1) P O ad)) (cf_upS 6 0 (upd (S 6 0) 23 1) rfl) (fun H locs hW hS => ?_)
    refine lv_aload_n hx hb dX6_whereIs_17 rfl (lv_at hl 0 rfl) ?_
    refine cf_get (v := .int 1) (ci := 6) (C := RX6) (T := TX6) (N := 24) hx hb hts (fun _ h => List.mem_cons_of_mem _ (List.mem_append_right _ (h))) hown hT.1 hW cf_e6 rfl 23 (by decide) (hts (.fieldLink RX6 70 "GameCafeModel" "thrown" "I") (List.mem_of_getElem? (i := 1) rfl)) (fun _ h9 => h9) (congrArg (fun x => some (Value.int x)) (by simp [cf_s3, cf_g2, upd] : (cf_s3 S 6 0 23 1) 6 0 23 = 1)) dX6_whereIs_18 ?_
    refine lv_if_ne (tgt := 33) hx hb dX6_whereIs_21 (by decide) (fun c21_3 => ?_) (fun c21_3 => (by first | exact absurd (by decide) c21_3 | exact absurd c21_3 (by decide)))
    refine lv_iconst (v := 0) hx hb dX6_whereIs_33 (by decide) ?_
    exact W.iret (v := 0) hx hb hr (fun t9 ht9 hw9 => ⟨⟨0, (cf_s3 S 6 0 23 1), rfl, Or.inl ⟨hi, rfl⟩, cf_W.re ht9 hW⟩, hS.F ht9⟩) hS.2.2 dX6_whereIs_34
  · have hi := h0.t c6_2
    refine lv_iconst (v := 0) hx hb dX6_whereIs_9 (by decide) ?_
    refine lv_goto (tgt := 14) hx hb dX6_whereIs_10 (by decide) ?_
    refine cf_putE (v := .int 0) (ty := .int) (ci := 6) (C := RX6) (T := TX6) (N := 24) hx hb hts (fun _ h => List.mem_cons_of_mem _ (List.mem_append_right _ (h))) tyX6 tyX6_ok nmX6 hown hT.1 hW hS cf_e6 rfl 23 (by decide) (hts (.fieldLink RX6 70 "GameCafeModel" "thrown" "I") (List.mem_of_getElem? (i := 1) rfl)) (fun _ h9 => h9) rfl (by decide +kernel) rfl rfl (Nat.le_of_ble_eq_true rfl) dX6_whereIs_14 (E2 := (cf_E cT nc ng (cf_s3 S 6 0 23 0) P O ad)) (cf_upS 6 0 (upd (S 6 0) 23 0) rfl) (fun H locs hW hS => ?_)
    refine lv_aload_n hx hb dX6_whereIs_17 rfl (lv_at hl 0 rfl) ?_
    refine cf_get (v := .int 0) (ci := 6) (C := RX6) (T := TX6) (N := 24) hx hb hts (fun _ h => List.mem_cons_of_mem _ (List.mem_append_right _ (h))) hown hT.1 hW cf_e6 rfl 23 (by decide) (hts (.fieldLink RX6 70 "GameCafeModel" "thrown" "I") (List.mem_of_getElem? (i := 1) rfl)) (fun _ h9 => h9) (congrArg (fun x => some (Value.int x)) (by simp [cf_s3, cf_g2, upd] : (cf_s3 S 6 0 23 0) 6 0 23 = 0)) dX6_whereIs_18 ?_
    refine lv_if_ne (tgt := 33) hx hb dX6_whereIs_21 (by decide) (fun c21_4 => (by first | exact absurd c21_4 (by decide) | exact absurd (by decide) c21_4)) (fun c21_4 => ?_)
    obtain ⟨cp, hc, hxc⟩ := hi
    refine lv_aload_n hx hb dX6_whereIs_24 rfl (lv_at hl 0 rfl) ?_
    refine cf_get (v := .ref (ad 17 13)) (ci := 6) (C := RX6) (T := TX6) (N := 24) hx hb hts (fun _ h => List.mem_cons_of_mem _ (List.mem_append_right _ (h))) hown hT.1 hW cf_e6 rfl 13 (by decide) (hts (.fieldLink RX6 43 "GameCafeModel" "places" "[I") (List.mem_of_getElem? (i := 2) rfl)) (fun _ h9 => h9) rfl dX6_whereIs_25 ?_
    refine lv_iload_n hx hb dX6_whereIs_28 rfl (lv_at hl 1 rfl) ?_
    refine cf_ildN (t0 := 0) (n := 15) (f := (cf_s3 S 6 0 23 0) 17 13) (v := (S 17 13 cp)) hx hb hT.1 hW (cf_e17 (i := 13) (by decide)) rfl cp hxc (by omega) (by decide) dX6_whereIs_29 (by simp [cf_s3, cf_g2, upd] : (cf_s3 S 6 0 23 0) 17 13 cp = S 17 13 cp) ?_
    refine lv_goto (tgt := 34) hx hb dX6_whereIs_30 (by decide) ?_
    exact W.iret (v := (S 17 13 cp)) hx hb hr (fun t9 ht9 hw9 => ⟨⟨(S 17 13 cp), (cf_s3 S 6 0 23 0), rfl, Or.inr ⟨cp, hc, hxc, rfl, rfl⟩, cf_W.re ht9 hW⟩, hS.F ht9⟩) hS.2.2 dX6_whereIs_34
set_option maxHeartbeats 4000000 in
set_option maxRecDepth 100000 in
/-- X6_at -/
theorem c_X6_at (l : Launch) (D : va_G) (cT : Nat → ClassId) (z : Nat) (ad : cf_Ad) (nc ng : Nat) (S : cf_S) (P : cf_Pt) (O : Nat → Int64) (x : Int32) : Met l yX6_at wsX6_at ({ frames := 1, cells := 0, slots := 0, locals := 22 }) (va_Pc [.ref (ad 6 0), .int x] (cf_P D cT z (cf_E cT nc ng S P O ad) ad)) (cf_Qi D z (fun (r : Int32) (T : cf_S) => (¬ cf_ix x 6 ∧ T = (cf_s3 S 6 0 23 1)) ∨ ∃ j : Nat, j < 6 ∧ x = nI j ∧ r = S 17 8 j - 1 ∧ T = (cf_s3 S 6 0 23 0)) (fun T => cf_E cT nc ng T P O ad) (fun _ => ad)) 0 0 (fun q => z ≤ q) := by
  refine Met.ofW (cc := cX6_at) (maxL := 2) (ret := (some .int)) (by decide) rfl ?_
  intro p e s m args below meth c s₁ B hml hv
  obtain ⟨rfl, hW, hT⟩ := hv
  have hx := B.exec
  have hb := B.bytes
  have hr := B.returns
  have hts := atoms_spec (ws := wsX6_at) B.pre
  have hown : s.vm.findClass RX6 = some m.cls := findClass_of_methodNamed B.named
  have hlocks := B.notSynchronized
  have hS : va_S (fun q => z ≤ q) s.heap s.heap [] := va_S.rf
  have hl := lv_entry ([.ref (ad 6 0), .int x]) (n := 2) (Nat.le_of_ble_eq_true rfl)
  rw [lg_entry_eq]
  generalize (lg_sl ([.ref (ad 6 0), .int x]) ++ List.replicate (2 - (lg_sl ([.ref (ad 6 0), .int x])).length) Slot.unset).toArray = ls at hl ⊢
  have hl : lv_has ls 2 [(0, .ref (ad 6 0)), (1, .int x)] := hl
  skip
  refine lv_aload_n hx hb dX6_at_0 rfl (lv_at hl 0 rfl) ?_
  refine lv_iload_n hx hb dX6_at_1 rfl (lv_at hl 1 rfl) ?_
  refine lv_iconst (v := 0) hx hb dX6_at_2 (by decide) ?_
  refine lv_iconst (v := 5) hx hb dX6_at_3 (by decide) ?_
  refine va_calli (va_runS (As := [.int x, .int 0, .int 5]) (rest := [.ref (ad 6 0)]) ⟨hx, hb, hml, hown, hts⟩ (c_X6_in l D cT z ad _ x 0 5) (va_cwS 3 hts gX6_at_X6_in rfl rfl rfl (by decide +kernel) ⟨Nat.le_of_ble_eq_true rfl, Nat.le_of_ble_eq_true rfl⟩) (cf_preS hT hS hW) rfl rfl hl.1 rfl (lv_room (Nat.le_of_ble_eq_true rfl)) dX6_at_4 ⟨Nat.le_of_ble_eq_true rfl, Nat.le_of_ble_eq_true rfl⟩) hS (fun _ _ h => h) (fun _ h => h) (fun r1 ur1 t9 H locs ht hvm hw hW hz1 hk1 hS => ?_)
  have hW := cf_W.er ht hW
  have h0 := hw
  have h0 := h0.iff (cf_rg_ix (n := 6) (by decide) rfl)
  refine lv_if_eq (tgt := 14) hx hb dX6_at_7 (by decide) (fun c7_2 => ?_) (fun c7_2 => ?_)
  · have hi := h0.f c7_2
    refine lv_iconst (v := 1) hx hb dX6_at_14 (by decide) ?_
    refine cf_putE (v := .int 1) (ty := .int) (ci := 6) (C := RX6) (T := TX6) (N := 24) hx hb hts (fun _ h => List.mem_cons_of_mem _ (List.mem_append_right _ (h))) tyX6 tyX6_ok nmX6 hown hT.1 hW hS cf_e6 rfl 23 (by decide) (hts (.fieldLink RX6 70 "GameCafeModel" "thrown" "I") (List.mem_of_getElem? (i := 1) rfl)) (fun _ h9 => h9) rfl (by decide +kernel) rfl rfl (Nat.le_of_ble_eq_true rfl) dX6_at_15 (E2 := (cf_E cT nc ng (cf_s3 S 6 0 23 1) P O ad)) (cf_upS 6 0 (upd (S 6 0) 23 1) rfl) (fun H locs hW hS => ?_)
    refine lv_aload_n hx hb dX6_at_18 rfl (lv_at hl 0 rfl) ?_
    refine cf_get (v := .int 1) (ci := 6) (C := RX6) (T := TX6) (N := 24) hx hb hts (fun _ h => List.mem_cons_of_mem _ (List.mem_append_right _ (h))) hown hT.1 hW cf_e6 rfl 23 (by decide) (hts (.fieldLink RX6 70 "GameCafeModel" "thrown" "I") (List.mem_of_getElem? (i := 1) rfl)) (fun _ h9 => h9) (congrArg (fun x => some (Value.int x)) (by simp [cf_s3, cf_g2, upd] : (cf_s3 S 6 0 23 1) 6 0 23 = 1)) dX6_at_19 ?_
    refine lv_if_ne (tgt := 36) hx hb dX6_at_22 (by decide) (fun c22_3 => ?_) (fun c22_3 => (by first | exact absurd (by decide) c22_3 | exact absurd c22_3 (by decide)))
    refine lv_iconst (v := 0) hx hb dX6_at_36 (by decide) ?_
    exact W.iret (v := 0) hx hb hr (fun t9 ht9 hw9 => ⟨⟨0, (cf_s3 S 6 0 23 1), rfl, Or.inl ⟨hi, rfl⟩, cf_W.re ht9 hW⟩, hS.F ht9⟩) hS.2.2 dX6_at_37
  · have hi := h0.t c7_2
    refine lv_iconst (v := 0) hx hb dX6_at_10 (by decide) ?_
    refine lv_goto (tgt := 15) hx hb dX6_at_11 (by decide) ?_
    refine cf_putE (v := .int 0) (ty := .int) (ci := 6) (C := RX6) (T := TX6) (N := 24) hx hb hts (fun _ h => List.mem_cons_of_mem _ (List.mem_append_right _ (h))) tyX6 tyX6_ok nmX6 hown hT.1 hW hS cf_e6 rfl 23 (by decide) (hts (.fieldLink RX6 70 "GameCafeModel" "thrown" "I") (List.mem_of_getElem? (i := 1) rfl)) (fun _ h9 => h9) rfl (by decide +kernel) rfl rfl (Nat.le_of_ble_eq_true rfl) dX6_at_15 (E2 := (cf_E cT nc ng (cf_s3 S 6 0 23 0) P O ad)) (cf_upS 6 0 (upd (S 6 0) 23 0) rfl) (fun H locs hW hS => ?_)
    refine lv_aload_n hx hb dX6_at_18 rfl (lv_at hl 0 rfl) ?_
    refine cf_get (v := .int 0) (ci := 6) (C := RX6) (T := TX6) (N := 24) hx hb hts (fun _ h => List.mem_cons_of_mem _ (List.mem_append_right _ (h))) hown hT.1 hW cf_e6 rfl 23 (by decide) (hts (.fieldLink RX6 70 "GameCafeModel" "thrown" "I") (List.mem_of_getElem? (i := 1) rfl)) (fun _ h9 => h9) (congrArg (fun x => some (Value.int x)) (by simp [cf_s3, cf_g2, upd] : (cf_s3 S 6 0 23 0) 6 0 23 = 0)) dX6_at_19 ?_
    refine lv_if_ne (tgt := 36) hx hb dX6_at_22 (by decide) (fun c22_4 => (by first | exact absurd c22_4 (by decide) | exact absurd (by decide) c22_4)) (fun c22_4 => ?_)
    obtain ⟨j, hj, hxj⟩ := hi
    refine lv_aload_n hx hb dX6_at_25 rfl (lv_at hl 0 rfl) ?_
    refine cf_get (v := .ref (ad 17 8)) (ci := 6) (C := RX6) (T := TX6) (N := 24) hx hb hts (fun _ h => List.mem_cons_of_mem _ (List.mem_append_right _ (h))) hown hT.1 hW cf_e6 rfl 8 (by decide) (hts (.fieldLink RX6 31 "GameCafeModel" "taken" "[I") (List.mem_of_getElem? (i := 2) rfl)) (fun _ h9 => h9) rfl dX6_at_26 ?_
    refine lv_iload_n hx hb dX6_at_29 rfl (lv_at hl 1 rfl) ?_
    refine cf_ildN (t0 := 0) (n := 6) (f := (cf_s3 S 6 0 23 0) 17 8) (v := (S 17 8 j)) hx hb hT.1 hW (cf_e17 (i := 8) (by decide)) rfl j hxj hj (by decide) dX6_at_30 (by simp [cf_s3, cf_g2, upd] : (cf_s3 S 6 0 23 0) 17 8 j = S 17 8 j) ?_
    refine lv_iconst (v := 1) hx hb dX6_at_31 (by decide) ?_
    refine lv_isub hx hb dX6_at_32 ?_
    refine lv_goto (tgt := 37) hx hb dX6_at_33 (by decide) ?_
    exact W.iret (v := ((S 17 8 j) - 1)) hx hb hr (fun t9 ht9 hw9 => ⟨⟨((S 17 8 j) - 1), (cf_s3 S 6 0 23 0), rfl, Or.inr ⟨j, hj, hxj, rfl, rfl⟩, cf_W.re ht9 hW⟩, hS.F ht9⟩) hS.2.2 dX6_at_37
set_option maxHeartbeats 4000000 in
set_option maxRecDepth 100000 in
/-- X6_copyOf -/
theorem c_X6_copyOf (l : Launch) (D : va_G) (cT : Nat → ClassId) (z : Nat) (ad : cf_Ad) (nc ng : Nat) (S : cf_S) (P : cf_Pt) (O : Nat → Int64) (x : Int32) (hng : S 6 0 15 = nI ng) (hng60 : ng ≤ 60) : Met l yX6_copyOf wsX6_copyOf ({ frames := 2, cells := 0, slots := 0, locals := 43 }) (va_Pc [.ref (ad 6 0), .int x] (cf_P D cT z (cf_E cT nc ng S P O ad) ad)) (cf_Qi D z (fun (r : Int32) (T : cf_S) => (¬ cf_lvM S ng x ∧ T = (cf_s3 S 6 0 23 1)) ∨ ∃ j : Nat, j < ng ∧ x = nI j ∧ S 17 20 j = 0 ∧ r = S 17 18 j ∧ T = (cf_s3 S 6 0 23 0)) (fun T => cf_E cT nc ng T P O ad) (fun _ => ad)) 0 0 (fun q => z ≤ q) := by
  refine Met.ofW (cc := cX6_copyOf) (maxL := 2) (ret := (some .int)) (by decide) rfl ?_
  intro p e s m args below meth c s₁ B hml hv
  obtain ⟨rfl, hW, hT⟩ := hv
  have hx := B.exec
  have hb := B.bytes
  have hr := B.returns
  have hts := atoms_spec (ws := wsX6_copyOf) B.pre
  have hown : s.vm.findClass RX6 = some m.cls := findClass_of_methodNamed B.named
  have hlocks := B.notSynchronized
  have hS : va_S (fun q => z ≤ q) s.heap s.heap [] := va_S.rf
  have hl := lv_entry ([.ref (ad 6 0), .int x]) (n := 2) (Nat.le_of_ble_eq_true rfl)
  rw [lg_entry_eq]
  generalize (lg_sl ([.ref (ad 6 0), .int x]) ++ List.replicate (2 - (lg_sl ([.ref (ad 6 0), .int x])).length) Slot.unset).toArray = ls at hl ⊢
  have hl : lv_has ls 2 [(0, .ref (ad 6 0)), (1, .int x)] := hl
  skip
  refine lv_aload_n hx hb dX6_copyOf_0 rfl (lv_at hl 0 rfl) ?_
  refine lv_iload_n hx hb dX6_copyOf_1 rfl (lv_at hl 1 rfl) ?_
  refine va_calli (va_runV (As := [.int x]) (rest := []) ⟨hx, hb, hml, hown, hts⟩ (c_X6_isThere l D cT z ad nc ng S P O x hng hng60) (cwV 1 hts gX6_copyOf_X6_isThere rfl rfl rfl (by decide +kernel) ⟨Nat.le_of_ble_eq_true rfl, Nat.le_of_ble_eq_true rfl⟩) (cf_preV (T := TX6) (N := 24) hT hS hW cf_e6 rfl) rfl rfl hl.1 rfl (lv_room (Nat.le_of_ble_eq_true rfl)) dX6_copyOf_2 ⟨Nat.le_of_ble_eq_true rfl, Nat.le_of_ble_eq_true rfl⟩) hS (fun _ _ h => h) (fun _ h => h) (fun r1 ur1 t9 H locs ht hvm hw hW hz1 hk1 hS => ?_)
  have hW := cf_W.er ht hW
  rcases hw with ⟨hr0, hlv, hT0⟩ | ⟨hr0, hlv, hT0⟩
  · subst hr0 hT0
    refine lv_if_eq (tgt := 17) hx hb dX6_copyOf_5 (by decide) (fun c5_2 => (by first | exact absurd c5_2 (by decide) | exact absurd (by decide) c5_2)) (fun c5_2 => ?_)
    obtain ⟨j, hj, hxj, hg0⟩ := hlv
    refine lv_aload_n hx hb dX6_copyOf_8 rfl (lv_at hl 0 rfl) ?_
    refine cf_get (v := .ref (ad 17 18)) (ci := 6) (C := RX6) (T := TX6) (N := 24) hx hb hts (fun _ h => List.mem_cons_of_mem _ (List.mem_append_right _ (h))) hown hT.1 hW cf_e6 rfl 18 (by decide) (hts (.fieldLink RX6 55 "GameCafeModel" "ofGroup" "[I") (List.mem_of_getElem? (i := 1) rfl)) (fun _ h9 => h9) rfl dX6_copyOf_9 ?_
    refine lv_iload_n hx hb dX6_copyOf_12 rfl (lv_at hl 1 rfl) ?_
    refine cf_ildN (t0 := 0) (n := 60) (f := (cf_s3 S 6 0 23 0) 17 18) (v := (S 17 18 j)) hx hb hT.1 hW (cf_e17 (i := 18) (by decide)) rfl j hxj (by omega) (by decide) dX6_copyOf_13 (by simp [cf_s3, cf_g2, upd] : (cf_s3 S 6 0 23 0) 17 18 j = S 17 18 j) ?_
    refine lv_goto (tgt := 18) hx hb dX6_copyOf_14 (by decide) ?_
    exact W.iret (v := (S 17 18 j)) hx hb hr (fun t9 ht9 hw9 => ⟨⟨(S 17 18 j), (cf_s3 S 6 0 23 0), rfl, Or.inr ⟨j, hj, hxj, hg0, rfl, rfl⟩, cf_W.re ht9 hW⟩, hS.F ht9⟩) hS.2.2 dX6_copyOf_18
  · subst hr0 hT0
    refine lv_if_eq (tgt := 17) hx hb dX6_copyOf_5 (by decide) (fun c5_3 => ?_) (fun c5_3 => (by first | exact absurd rfl c5_3 | exact absurd c5_3 rfl))
    refine lv_iconst (v := 0) hx hb dX6_copyOf_17 (by decide) ?_
    exact W.iret (v := 0) hx hb hr (fun t9 ht9 hw9 => ⟨⟨0, (cf_s3 S 6 0 23 1), rfl, Or.inl ⟨hlv, rfl⟩, cf_W.re ht9 hW⟩, hS.F ht9⟩) hS.2.2 dX6_copyOf_18
set_option maxHeartbeats 4000000 in
set_option maxRecDepth 100000 in
/-- X6_teaching -/
theorem c_X6_teaching (l : Launch) (D : va_G) (cT : Nat → ClassId) (z : Nat) (ad : cf_Ad) (nc ng : Nat) (S : cf_S) (P : cf_Pt) (O : Nat → Int64) (x : Int32) : Met l yX6_teaching wsX6_teaching ({ frames := 1, cells := 0, slots := 0, locals := 22 }) (va_Pc [.ref (ad 6 0), .int x] (cf_P D cT z (cf_E cT nc ng S P O ad) ad)) (cf_Qi D z (fun (r : Int32) (T : cf_S) => (¬ cf_ix x 3 ∧ T = (cf_s3 S 6 0 23 1)) ∨ ∃ j : Nat, j < 3 ∧ x = nI j ∧ ((¬ S 17 10 j ≤ S 6 0 0 ∧ r = S 17 10 j - S 6 0 0) ∨ (S 17 10 j ≤ S 6 0 0 ∧ r = 0)) ∧ T = (cf_s3 S 6 0 23 0)) (fun T => cf_E cT nc ng T P O ad) (fun _ => ad)) 0 0 (fun q => z ≤ q) := by
  refine Met.ofW (cc := cX6_teaching) (maxL := 2) (ret := (some .int)) (by decide) rfl ?_
  intro p e s m args below meth c s₁ B hml hv
  obtain ⟨rfl, hW, hT⟩ := hv
  have hx := B.exec
  have hb := B.bytes
  have hr := B.returns
  have hts := atoms_spec (ws := wsX6_teaching) B.pre
  have hown : s.vm.findClass RX6 = some m.cls := findClass_of_methodNamed B.named
  have hlocks := B.notSynchronized
  have hS : va_S (fun q => z ≤ q) s.heap s.heap [] := va_S.rf
  have hl := lv_entry ([.ref (ad 6 0), .int x]) (n := 2) (Nat.le_of_ble_eq_true rfl)
  rw [lg_entry_eq]
  generalize (lg_sl ([.ref (ad 6 0), .int x]) ++ List.replicate (2 - (lg_sl ([.ref (ad 6 0), .int x])).length) Slot.unset).toArray = ls at hl ⊢
  have hl : lv_has ls 2 [(0, .ref (ad 6 0)), (1, .int x)] := hl
  skip
  refine lv_aload_n hx hb dX6_teaching_0 rfl (lv_at hl 0 rfl) ?_
  refine lv_iload_n hx hb dX6_teaching_1 rfl (lv_at hl 1 rfl) ?_
  refine lv_iconst (v := 0) hx hb dX6_teaching_2 (by decide) ?_
  refine lv_iconst (v := 2) hx hb dX6_teaching_3 (by decide) ?_
  refine va_calli (va_runS (As := [.int x, .int 0, .int 2]) (rest := [.ref (ad 6 0)]) ⟨hx, hb, hml, hown, hts⟩ (c_X6_in l D cT z ad _ x 0 2) (va_cwS 3 hts gX6_teaching_X6_in rfl rfl rfl (by decide +kernel) ⟨Nat.le_of_ble_eq_true rfl, Nat.le_of_ble_eq_true rfl⟩) (cf_preS hT hS hW) rfl rfl hl.1 rfl (lv_room (Nat.le_of_ble_eq_true rfl)) dX6_teaching_4 ⟨Nat.le_of_ble_eq_true rfl, Nat.le_of_ble_eq_true rfl⟩) hS (fun _ _ h => h) (fun _ h => h) (fun r1 ur1 t9 H locs ht hvm hw hW hz1 hk1 hS => ?_)
  have hW := cf_W.er ht hW
  have h0 := hw
  have h0 := h0.iff (cf_rg_ix (n := 3) (by decide) rfl)
  refine lv_if_eq (tgt := 14) hx hb dX6_teaching_7 (by decide) (fun c7_2 => ?_) (fun c7_2 => ?_)
  · have hi := h0.f c7_2
    refine lv_iconst (v := 1) hx hb dX6_teaching_14 (by decide) ?_
    refine cf_putE (v := .int 1) (ty := .int) (ci := 6) (C := RX6) (T := TX6) (N := 24) hx hb hts (fun _ h => List.mem_cons_of_mem _ (List.mem_append_right _ (h))) tyX6 tyX6_ok nmX6 hown hT.1 hW hS cf_e6 rfl 23 (by decide) (hts (.fieldLink RX6 70 "GameCafeModel" "thrown" "I") (List.mem_of_getElem? (i := 1) rfl)) (fun _ h9 => h9) rfl (by decide +kernel) rfl rfl (Nat.le_of_ble_eq_true rfl) dX6_teaching_15 (E2 := (cf_E cT nc ng (cf_s3 S 6 0 23 1) P O ad)) (cf_upS 6 0 (upd (S 6 0) 23 1) rfl) (fun H locs hW hS => ?_)
    refine lv_aload_n hx hb dX6_teaching_18 rfl (lv_at hl 0 rfl) ?_
    refine cf_get (v := .int 1) (ci := 6) (C := RX6) (T := TX6) (N := 24) hx hb hts (fun _ h => List.mem_cons_of_mem _ (List.mem_append_right _ (h))) hown hT.1 hW cf_e6 rfl 23 (by decide) (hts (.fieldLink RX6 70 "GameCafeModel" "thrown" "I") (List.mem_of_getElem? (i := 1) rfl)) (fun _ h9 => h9) (congrArg (fun x => some (Value.int x)) (by simp [cf_s3, cf_g2, upd] : (cf_s3 S 6 0 23 1) 6 0 23 = 1)) dX6_teaching_19 ?_
    refine lv_if_ne (tgt := 52) hx hb dX6_teaching_22 (by decide) (fun c22_3 => ?_) (fun c22_3 => (by first | exact absurd (by decide) c22_3 | exact absurd c22_3 (by decide)))
    refine lv_iconst (v := 0) hx hb dX6_teaching_52 (by decide) ?_
    exact W.iret (v := 0) hx hb hr (fun t9 ht9 hw9 => ⟨⟨0, (cf_s3 S 6 0 23 1), rfl, Or.inl ⟨hi, rfl⟩, cf_W.re ht9 hW⟩, hS.F ht9⟩) hS.2.2 dX6_teaching_53
  · have hi := h0.t c7_2
    refine lv_iconst (v := 0) hx hb dX6_teaching_10 (by decide) ?_
    refine lv_goto (tgt := 15) hx hb dX6_teaching_11 (by decide) ?_
    refine cf_putE (v := .int 0) (ty := .int) (ci := 6) (C := RX6) (T := TX6) (N := 24) hx hb hts (fun _ h => List.mem_cons_of_mem _ (List.mem_append_right _ (h))) tyX6 tyX6_ok nmX6 hown hT.1 hW hS cf_e6 rfl 23 (by decide) (hts (.fieldLink RX6 70 "GameCafeModel" "thrown" "I") (List.mem_of_getElem? (i := 1) rfl)) (fun _ h9 => h9) rfl (by decide +kernel) rfl rfl (Nat.le_of_ble_eq_true rfl) dX6_teaching_15 (E2 := (cf_E cT nc ng (cf_s3 S 6 0 23 0) P O ad)) (cf_upS 6 0 (upd (S 6 0) 23 0) rfl) (fun H locs hW hS => ?_)
    refine lv_aload_n hx hb dX6_teaching_18 rfl (lv_at hl 0 rfl) ?_
    refine cf_get (v := .int 0) (ci := 6) (C := RX6) (T := TX6) (N := 24) hx hb hts (fun _ h => List.mem_cons_of_mem _ (List.mem_append_right _ (h))) hown hT.1 hW cf_e6 rfl 23 (by decide) (hts (.fieldLink RX6 70 "GameCafeModel" "thrown" "I") (List.mem_of_getElem? (i := 1) rfl)) (fun _ h9 => h9) (congrArg (fun x => some (Value.int x)) (by simp [cf_s3, cf_g2, upd] : (cf_s3 S 6 0 23 0) 6 0 23 = 0)) dX6_teaching_19 ?_
    refine lv_if_ne (tgt := 52) hx hb dX6_teaching_22 (by decide) (fun c22_4 => (by first | exact absurd c22_4 (by decide) | exact absurd (by decide) c22_4)) (fun c22_4 => ?_)
    obtain ⟨j, hj, hxj⟩ := hi
    refine lv_aload_n hx hb dX6_teaching_25 rfl (lv_at hl 0 rfl) ?_
    refine cf_get (v := .ref (ad 17 10)) (ci := 6) (C := RX6) (T := TX6) (N := 24) hx hb hts (fun _ h => List.mem_cons_of_mem _ (List.mem_append_right _ (h))) hown hT.1 hW cf_e6 rfl 10 (by decide) (hts (.fieldLink RX6 37 "GameCafeModel" "until" "[I") (List.mem_of_getElem? (i := 2) rfl)) (fun _ h9 => h9) rfl dX6_teaching_26 ?_
    refine lv_iload_n hx hb dX6_teaching_29 rfl (lv_at hl 1 rfl) ?_
    refine cf_ildN (t0 := 0) (n := 3) (f := (cf_s3 S 6 0 23 0) 17 10) (v := (S 17 10 j)) hx hb hT.1 hW (cf_e17 (i := 10) (by decide)) rfl j hxj hj (by decide) dX6_teaching_30 (by simp [cf_s3, cf_g2, upd] : (cf_s3 S 6 0 23 0) 17 10 j = S 17 10 j) ?_
    refine lv_aload_n hx hb dX6_teaching_31 rfl (lv_at hl 0 rfl) ?_
    refine cf_get (v := .int (S 6 0 0)) (ci := 6) (C := RX6) (T := TX6) (N := 24) hx hb hts (fun _ h => List.mem_cons_of_mem _ (List.mem_append_right _ (h))) hown hT.1 hW cf_e6 rfl 0 (by decide) (hts (.fieldLink RX6 98 "GameCafeModel" "minute" "I") (List.mem_of_getElem? (i := 3) rfl)) (fun _ h9 => h9) (congrArg (fun x => some (Value.int x)) (by simp [cf_s3, cf_g2, upd] : (cf_s3 S 6 0 23 0) 6 0 0 = S 6 0 0)) dX6_teaching_32 ?_
    refine lv_icmp_le (tgt := 52) hx hb dX6_teaching_35 (by decide) (fun c35_5 => ?_) (fun c35_5 => ?_)
    · refine lv_iconst (v := 0) hx hb dX6_teaching_52 (by decide) ?_
      exact W.iret (v := 0) hx hb hr (fun t9 ht9 hw9 => ⟨⟨0, (cf_s3 S 6 0 23 0), rfl, Or.inr ⟨j, hj, hxj, Or.inr ⟨c35_5, rfl⟩, rfl⟩, cf_W.re ht9 hW⟩, hS.F ht9⟩) hS.2.2 dX6_teaching_53
    · refine lv_aload_n hx hb dX6_teaching_38 rfl (lv_at hl 0 rfl) ?_
      refine cf_get (v := .ref (ad 17 10)) (ci := 6) (C := RX6) (T := TX6) (N := 24) hx hb hts (fun _ h => List.mem_cons_of_mem _ (List.mem_append_right _ (h))) hown hT.1 hW cf_e6 rfl 10 (by decide) (hts (.fieldLink RX6 37 "GameCafeModel" "until" "[I") (List.mem_of_getElem? (i := 2) rfl)) (fun _ h9 => h9) rfl dX6_teaching_39 ?_
      refine lv_iload_n hx hb dX6_teaching_42 rfl (lv_at hl 1 rfl) ?_
      refine cf_ildN (t0 := 0) (n := 3) (f := (cf_s3 S 6 0 23 0) 17 10) (v := (S 17 10 j)) hx hb hT.1 hW (cf_e17 (i := 10) (by decide)) rfl j hxj hj (by decide) dX6_teaching_43 (by simp [cf_s3, cf_g2, upd] : (cf_s3 S 6 0 23 0) 17 10 j = S 17 10 j) ?_
      refine lv_aload_n hx hb dX6_teaching_44 rfl (lv_at hl 0 rfl) ?_
      refine cf_get (v := .int (S 6 0 0)) (ci := 6) (C := RX6) (T := TX6) (N := 24) hx hb hts (fun _ h => List.mem_cons_of_mem _ (List.mem_append_right _ (h))) hown hT.1 hW cf_e6 rfl 0 (by decide) (hts (.fieldLink RX6 98 "GameCafeModel" "minute" "I") (List.mem_of_getElem? (i := 3) rfl)) (fun _ h9 => h9) (congrArg (fun x => some (Value.int x)) (by simp [cf_s3, cf_g2, upd] : (cf_s3 S 6 0 23 0) 6 0 0 = S 6 0 0)) dX6_teaching_45 ?_
      refine lv_isub hx hb dX6_teaching_48 ?_
      refine lv_goto (tgt := 53) hx hb dX6_teaching_49 (by decide) ?_
      exact W.iret (v := ((S 17 10 j) - (S 6 0 0))) hx hb hr (fun t9 ht9 hw9 => ⟨⟨((S 17 10 j) - (S 6 0 0)), (cf_s3 S 6 0 23 0), rfl, Or.inr ⟨j, hj, hxj, Or.inl ⟨c35_5, rfl⟩, rfl⟩, cf_W.re ht9 hW⟩, hS.F ht9⟩) hS.2.2 dX6_teaching_53
set_option maxHeartbeats 4000000 in
set_option maxRecDepth 100000 in
/-- X6_plays -/
theorem c_X6_plays (l : Launch) (D : va_G) (cT : Nat → ClassId) (z : Nat) (ad : cf_Ad) (nc ng : Nat) (S : cf_S) (P : cf_Pt) (O : Nat → Int64) (x : Int32) : Met l yX6_plays wsX6_plays ({ frames := 2, cells := 0, slots := 0, locals := 42 }) (va_Pc [.ref (ad 6 0), .int x] (cf_P D cT z (cf_E cT nc ng S P O ad) ad)) (cf_Qi D z (fun (r : Int32) (T : cf_S) => (¬ cf_ix x 5 ∧ T = (cf_s3 S 6 0 23 1)) ∨ ∃ j : Nat, j < 5 ∧ x = nI j ∧ r = S 17 6 j ∧ T = (cf_s3 S 6 0 23 0)) (fun T => cf_E cT nc ng T P O ad) (fun _ => ad)) 0 0 (fun q => z ≤ q) := by
  refine Met.ofW (cc := cX6_plays) (maxL := 2) (ret := (some .int)) (by decide) rfl ?_
  intro p e s m args below meth c s₁ B hml hv
  obtain ⟨rfl, hW, hT⟩ := hv
  have hx := B.exec
  have hb := B.bytes
  have hr := B.returns
  have hts := atoms_spec (ws := wsX6_plays) B.pre
  have hown : s.vm.findClass RX6 = some m.cls := findClass_of_methodNamed B.named
  have hlocks := B.notSynchronized
  have hS : va_S (fun q => z ≤ q) s.heap s.heap [] := va_S.rf
  have hl := lv_entry ([.ref (ad 6 0), .int x]) (n := 2) (Nat.le_of_ble_eq_true rfl)
  rw [lg_entry_eq]
  generalize (lg_sl ([.ref (ad 6 0), .int x]) ++ List.replicate (2 - (lg_sl ([.ref (ad 6 0), .int x])).length) Slot.unset).toArray = ls at hl ⊢
  have hl : lv_has ls 2 [(0, .ref (ad 6 0)), (1, .int x)] := hl
  skip
  refine lv_aload_n hx hb dX6_plays_0 rfl (lv_at hl 0 rfl) ?_
  refine lv_iload_n hx hb dX6_plays_1 rfl (lv_at hl 1 rfl) ?_
  refine va_calli (va_runS (As := [.int x]) (rest := [.ref (ad 6 0)]) ⟨hx, hb, hml, hown, hts⟩ (c_X6_isGame l D cT z ad _ x) (va_cwS 1 hts gX6_plays_X6_isGame rfl rfl rfl (by decide +kernel) ⟨Nat.le_of_ble_eq_true rfl, Nat.le_of_ble_eq_true rfl⟩) (cf_preS hT hS hW) rfl rfl hl.1 rfl (lv_room (Nat.le_of_ble_eq_true rfl)) dX6_plays_2 ⟨Nat.le_of_ble_eq_true rfl, Nat.le_of_ble_eq_true rfl⟩) hS (fun _ _ h => h) (fun _ h => h) (fun r1 ur1 t9 H locs ht hvm hw hW hz1 hk1 hS => ?_)
  have hW := cf_W.er ht hW
  have h0 := hw
  refine lv_if_eq (tgt := 12) hx hb dX6_plays_5 (by decide) (fun c5_2 => ?_) (fun c5_2 => ?_)
  · have hi := h0.f c5_2
    refine lv_iconst (v := 1) hx hb dX6_plays_12 (by decide) ?_
    refine cf_putE (v := .int 1) (ty := .int) (ci := 6) (C := RX6) (T := TX6) (N := 24) hx hb hts (fun _ h => List.mem_cons_of_mem _ (List.mem_append_right _ (h))) tyX6 tyX6_ok nmX6 hown hT.1 hW hS cf_e6 rfl 23 (by decide) (hts (.fieldLink RX6 70 "GameCafeModel" "thrown" "I") (List.mem_of_getElem? (i := 1) rfl)) (fun _ h9 => h9) rfl (by decide +kernel) rfl rfl (Nat.le_of_ble_eq_true rfl) dX6_plays_13 (E2 := (cf_E cT nc ng (cf_s3 S 6 0 23 1) P O ad)) (cf_upS 6 0 (upd (S 6 0) 23 1) rfl) (fun H locs hW hS => ?_)
    refine lv_aload_n hx hb dX6_plays_16 rfl (lv_at hl 0 rfl) ?_
    refine cf_get (v := .int 1) (ci := 6) (C := RX6) (T := TX6) (N := 24) hx hb hts (fun _ h => List.mem_cons_of_mem _ (List.mem_append_right _ (h))) hown hT.1 hW cf_e6 rfl 23 (by decide) (hts (.fieldLink RX6 70 "GameCafeModel" "thrown" "I") (List.mem_of_getElem? (i := 1) rfl)) (fun _ h9 => h9) (congrArg (fun x => some (Value.int x)) (by simp [cf_s3, cf_g2, upd] : (cf_s3 S 6 0 23 1) 6 0 23 = 1)) dX6_plays_17 ?_
    refine lv_if_ne (tgt := 32) hx hb dX6_plays_20 (by decide) (fun c20_3 => ?_) (fun c20_3 => (by first | exact absurd (by decide) c20_3 | exact absurd c20_3 (by decide)))
    refine lv_iconst (v := 0) hx hb dX6_plays_32 (by decide) ?_
    exact W.iret (v := 0) hx hb hr (fun t9 ht9 hw9 => ⟨⟨0, (cf_s3 S 6 0 23 1), rfl, Or.inl ⟨hi, rfl⟩, cf_W.re ht9 hW⟩, hS.F ht9⟩) hS.2.2 dX6_plays_33
  · have hi := h0.t c5_2
    refine lv_iconst (v := 0) hx hb dX6_plays_8 (by decide) ?_
    refine lv_goto (tgt := 13) hx hb dX6_plays_9 (by decide) ?_
    refine cf_putE (v := .int 0) (ty := .int) (ci := 6) (C := RX6) (T := TX6) (N := 24) hx hb hts (fun _ h => List.mem_cons_of_mem _ (List.mem_append_right _ (h))) tyX6 tyX6_ok nmX6 hown hT.1 hW hS cf_e6 rfl 23 (by decide) (hts (.fieldLink RX6 70 "GameCafeModel" "thrown" "I") (List.mem_of_getElem? (i := 1) rfl)) (fun _ h9 => h9) rfl (by decide +kernel) rfl rfl (Nat.le_of_ble_eq_true rfl) dX6_plays_13 (E2 := (cf_E cT nc ng (cf_s3 S 6 0 23 0) P O ad)) (cf_upS 6 0 (upd (S 6 0) 23 0) rfl) (fun H locs hW hS => ?_)
    refine lv_aload_n hx hb dX6_plays_16 rfl (lv_at hl 0 rfl) ?_
    refine cf_get (v := .int 0) (ci := 6) (C := RX6) (T := TX6) (N := 24) hx hb hts (fun _ h => List.mem_cons_of_mem _ (List.mem_append_right _ (h))) hown hT.1 hW cf_e6 rfl 23 (by decide) (hts (.fieldLink RX6 70 "GameCafeModel" "thrown" "I") (List.mem_of_getElem? (i := 1) rfl)) (fun _ h9 => h9) (congrArg (fun x => some (Value.int x)) (by simp [cf_s3, cf_g2, upd] : (cf_s3 S 6 0 23 0) 6 0 23 = 0)) dX6_plays_17 ?_
    refine lv_if_ne (tgt := 32) hx hb dX6_plays_20 (by decide) (fun c20_4 => (by first | exact absurd c20_4 (by decide) | exact absurd (by decide) c20_4)) (fun c20_4 => ?_)
    obtain ⟨j, hj, hxj⟩ := hi
    refine lv_aload_n hx hb dX6_plays_23 rfl (lv_at hl 0 rfl) ?_
    refine cf_get (v := .ref (ad 17 6)) (ci := 6) (C := RX6) (T := TX6) (N := 24) hx hb hts (fun _ h => List.mem_cons_of_mem _ (List.mem_append_right _ (h))) hown hT.1 hW cf_e6 rfl 6 (by decide) (hts (.fieldLink RX6 25 "GameCafeModel" "played" "[I") (List.mem_of_getElem? (i := 2) rfl)) (fun _ h9 => h9) rfl dX6_plays_24 ?_
    refine lv_iload_n hx hb dX6_plays_27 rfl (lv_at hl 1 rfl) ?_
    refine cf_ildN (t0 := 0) (n := 5) (f := (cf_s3 S 6 0 23 0) 17 6) (v := (S 17 6 j)) hx hb hT.1 hW (cf_e17 (i := 6) (by decide)) rfl j hxj hj (by decide) dX6_plays_28 (by simp [cf_s3, cf_g2, upd] : (cf_s3 S 6 0 23 0) 17 6 j = S 17 6 j) ?_
    refine lv_goto (tgt := 33) hx hb dX6_plays_29 (by decide) ?_
    exact W.iret (v := (S 17 6 j)) hx hb hr (fun t9 ht9 hw9 => ⟨⟨(S 17 6 j), (cf_s3 S 6 0 23 0), rfl, Or.inr ⟨j, hj, hxj, rfl, rfl⟩, cf_W.re ht9 hW⟩, hS.F ht9⟩) hS.2.2 dX6_plays_33
set_option maxHeartbeats 4000000 in
set_option maxRecDepth 100000 in
/-- X6_buy -/
theorem c_X6_buy (l : Launch) (D : va_G) (cT : Nat → ClassId) (z : Nat) (ad : cf_Ad) (nc ng : Nat) (S : cf_S) (P : cf_Pt) (O : Nat → Int64) (x : Int32) (n : Nat) (hn : S 6 0 11 = nI n) (hnn : n ≤ 15) : Met l yX6_buy wsX6_buy ({ frames := 2, cells := 0, slots := 0, locals := 42 }) (va_Pc [.ref (ad 6 0), .int x] (cf_P D cT z (cf_E cT nc ng S P O ad) ad)) (cf_Qi D z (fun (r : Int32) (T : cf_S) => (¬ cf_ix x 5 ∧ T = (cf_s3 S 6 0 23 1)) ∨ (cf_ix x 5 ∧ n = 15 ∧ T = (cf_s3 S 6 0 23 2)) ∨ ∃ gm : Nat, gm < 5 ∧ x = nI gm ∧ n < 15 ∧ r = nI n ∧ T = (cf_s3 (cf_s3 (cf_s3 (cf_s3 (cf_s3 (cf_s3 (cf_s3 S 6 0 23 0) 17 12 n x) 17 14 (4 * n + 0) (S 17 4 (4 * gm + 0))) 17 14 (4 * n + 1) (S 17 4 (4 * gm + 1))) 17 14 (4 * n + 2) (S 17 4 (4 * gm + 2))) 17 14 (4 * n + 3) (S 17 4 (4 * gm + 3))) 6 0 11 ((nI n) + 1))) (fun T => cf_E cT nc ng T P O ad) (fun _ => ad)) 0 0 (fun q => z ≤ q) := by
  refine Met.ofW (cc := cX6_buy) (maxL := 3) (ret := (some .int)) (by decide) rfl ?_
  intro p e s m args below meth c s₁ B hml hv
  obtain ⟨rfl, hW, hT⟩ := hv
  have hx := B.exec
  have hb := B.bytes
  have hr := B.returns
  have hts := atoms_spec (ws := wsX6_buy) B.pre
  have hown : s.vm.findClass RX6 = some m.cls := findClass_of_methodNamed B.named
  have hlocks := B.notSynchronized
  have hS : va_S (fun q => z ≤ q) s.heap s.heap [] := va_S.rf
  have hl := lv_entry ([.ref (ad 6 0), .int x]) (n := 3) (Nat.le_of_ble_eq_true rfl)
  rw [lg_entry_eq]
  generalize (lg_sl ([.ref (ad 6 0), .int x]) ++ List.replicate (3 - (lg_sl ([.ref (ad 6 0), .int x])).length) Slot.unset).toArray = ls at hl ⊢
  have hl : lv_has ls 3 [(0, .ref (ad 6 0)), (1, .int x)] := hl
  skip
  refine lv_aload_n hx hb dX6_buy_0 rfl (lv_at hl 0 rfl) ?_
  refine lv_iload_n hx hb dX6_buy_1 rfl (lv_at hl 1 rfl) ?_
  refine va_calli (va_runS (As := [.int x]) (rest := [.ref (ad 6 0)]) ⟨hx, hb, hml, hown, hts⟩ (c_X6_isGame l D cT z ad _ x) (va_cwS 1 hts gX6_buy_X6_isGame rfl rfl rfl (by decide +kernel) ⟨Nat.le_of_ble_eq_true rfl, Nat.le_of_ble_eq_true rfl⟩) (cf_preS hT hS hW) rfl rfl hl.1 rfl (lv_room (Nat.le_of_ble_eq_true rfl)) dX6_buy_2 ⟨Nat.le_of_ble_eq_true rfl, Nat.le_of_ble_eq_true rfl⟩) hS (fun _ _ h => h) (fun _ h => h) (fun r1 ur1 t9 H locs ht hvm hw hW hz1 hk1 hS => ?_)
  have hW := cf_W.er ht hW
  have h0 := hw
  refine lv_if_ne (tgt := 12) hx hb dX6_buy_5 (by decide) (fun c5_2 => ?_) (fun c5_2 => ?_)
  · have hi := h0.t c5_2
    refine lv_aload_n hx hb dX6_buy_12 rfl (lv_at hl 0 rfl) ?_
    refine cf_get (v := .int (nI n)) (ci := 6) (C := RX6) (T := TX6) (N := 24) hx hb hts (fun _ h => List.mem_cons_of_mem _ (List.mem_append_right _ (h))) hown hT.1 hW cf_e6 rfl 11 (by decide) (hts (.fieldLink RX6 78 "GameCafeModel" "copies" "I") (List.mem_of_getElem? (i := 1) rfl)) (fun _ h9 => h9) (congrArg (fun x => some (Value.int x)) (by simp [cf_s3, cf_g2, upd, hn] : S 6 0 11 = nI n)) dX6_buy_13 ?_
    refine lv_bipush (v := 15) hx hb dX6_buy_16 (by decide) ?_
    refine lv_icmp_ne (tgt := 25) hx hb dX6_buy_18 (by decide) (fun c18_3 => ?_) (fun c18_3 => ?_)
    · have hn15 : n < 15 := by rcases Nat.lt_or_ge n 15 with h9 | h9; exact h9; exact absurd (show nI n = 15 by rw [show n = 15 by omega]; rfl) c18_3
      obtain ⟨gm, hg, hxg⟩ := hi
      refine lv_iconst (v := 0) hx hb dX6_buy_25 (by decide) ?_
      refine cf_putE (v := .int 0) (ty := .int) (ci := 6) (C := RX6) (T := TX6) (N := 24) hx hb hts (fun _ h => List.mem_cons_of_mem _ (List.mem_append_right _ (h))) tyX6 tyX6_ok nmX6 hown hT.1 hW hS cf_e6 rfl 23 (by decide) (hts (.fieldLink RX6 70 "GameCafeModel" "thrown" "I") (List.mem_of_getElem? (i := 2) rfl)) (fun _ h9 => h9) rfl (by decide +kernel) rfl rfl (Nat.le_of_ble_eq_true rfl) dX6_buy_26 (E2 := (cf_E cT nc ng (cf_s3 S 6 0 23 0) P O ad)) (cf_upS 6 0 (upd (S 6 0) 23 0) rfl) (fun H locs hW hS => ?_)
      refine lv_aload_n hx hb dX6_buy_29 rfl (lv_at hl 0 rfl) ?_
      refine cf_get (v := .int 0) (ci := 6) (C := RX6) (T := TX6) (N := 24) hx hb hts (fun _ h => List.mem_cons_of_mem _ (List.mem_append_right _ (h))) hown hT.1 hW cf_e6 rfl 23 (by decide) (hts (.fieldLink RX6 70 "GameCafeModel" "thrown" "I") (List.mem_of_getElem? (i := 2) rfl)) (fun _ h9 => h9) (congrArg (fun x => some (Value.int x)) (by simp [cf_s3, cf_g2, upd] : (cf_s3 S 6 0 23 0) 6 0 23 = 0)) dX6_buy_30 ?_
      refine lv_if_le (tgt := 38) hx hb dX6_buy_33 (by decide) (fun c33_4 => ?_) (fun c33_4 => (by first | exact absurd (by decide) c33_4 | exact absurd c33_4 (by decide)))
      refine lv_aload_n hx hb dX6_buy_38 rfl (lv_at hl 0 rfl) ?_
      refine cf_get (v := .ref (ad 17 12)) (ci := 6) (C := RX6) (T := TX6) (N := 24) hx hb hts (fun _ h => List.mem_cons_of_mem _ (List.mem_append_right _ (h))) hown hT.1 hW cf_e6 rfl 12 (by decide) (hts (.fieldLink RX6 40 "GameCafeModel" "games" "[I") (List.mem_of_getElem? (i := 3) rfl)) (fun _ h9 => h9) rfl dX6_buy_39 ?_
      refine lv_aload_n hx hb dX6_buy_42 rfl (lv_at hl 0 rfl) ?_
      refine cf_get (v := .int (nI n)) (ci := 6) (C := RX6) (T := TX6) (N := 24) hx hb hts (fun _ h => List.mem_cons_of_mem _ (List.mem_append_right _ (h))) hown hT.1 hW cf_e6 rfl 11 (by decide) (hts (.fieldLink RX6 78 "GameCafeModel" "copies" "I") (List.mem_of_getElem? (i := 1) rfl)) (fun _ h9 => h9) (congrArg (fun x => some (Value.int x)) (by simp [cf_s3, cf_g2, upd, hn] : (cf_s3 S 6 0 23 0) 6 0 11 = nI n)) dX6_buy_43 ?_
      refine lv_iload_n hx hb dX6_buy_46 rfl (lv_at hl 1 rfl) ?_
      refine cf_istN (t0 := 0) (n := 15) (f := (cf_s3 S 6 0 23 0) 17 12) hx hb hT.1 hW hS (cf_e17 (i := 12) (by decide)) rfl n rfl (by omega) (by decide) dX6_buy_47 (E2 := (cf_E cT nc ng (cf_s3 (cf_s3 S 6 0 23 0) 17 12 n x) P O ad)) (cf_upS 17 12 (upd ((cf_s3 S 6 0 23 0) 17 12) n x) (cf_c17 (i := 12) (by decide))) (fun H locs hW hS => ?_)
      refine lv_iconst (v := 0) hx hb dX6_buy_48 (by decide) ?_
      refine lv_istore_n (lv' := [(2, .int 0), (0, .ref (ad 6 0)), (1, .int x)]) hx hb dX6_buy_49 rfl hl (by decide) rfl (fun ls hl => ?_)
      refine lv_iload_n hx hb dX6_buy_50 rfl (lv_at hl 0 rfl) ?_
      refine lv_iconst (v := 4) hx hb dX6_buy_51 (by decide) ?_
      refine lv_icmp_ge (tgt := 84) hx hb dX6_buy_52 (by decide) (fun c52_5 => (by first | exact absurd c52_5 (by decide) | exact absurd (by decide) c52_5)) (fun c52_5 => ?_)
      refine lv_aload_n hx hb dX6_buy_55 rfl (lv_at hl 1 rfl) ?_
      refine cf_get (v := .ref (ad 17 14)) (ci := 6) (C := RX6) (T := TX6) (N := 24) hx hb hts (fun _ h => List.mem_cons_of_mem _ (List.mem_append_right _ (h))) hown hT.1 hW cf_e6 rfl 14 (by decide) (hts (.fieldLink RX6 46 "GameCafeModel" "parts" "[I") (List.mem_of_getElem? (i := 4) rfl)) (fun _ h9 => h9) rfl dX6_buy_56 ?_
      refine lv_iconst (v := 4) hx hb dX6_buy_59 (by decide) ?_
      refine lv_aload_n hx hb dX6_buy_60 rfl (lv_at hl 1 rfl) ?_
      refine cf_get (v := .int (nI n)) (ci := 6) (C := RX6) (T := TX6) (N := 24) hx hb hts (fun _ h => List.mem_cons_of_mem _ (List.mem_append_right _ (h))) hown hT.1 hW cf_e6 rfl 11 (by decide) (hts (.fieldLink RX6 78 "GameCafeModel" "copies" "I") (List.mem_of_getElem? (i := 1) rfl)) (fun _ h9 => h9) (congrArg (fun x => some (Value.int x)) (by simp [cf_s3, cf_g2, upd, hn] : (cf_s3 (cf_s3 S 6 0 23 0) 17 12 n x) 6 0 11 = nI n)) dX6_buy_61 ?_
      refine lv_imul hx hb dX6_buy_64 ?_
      refine lv_iload_n hx hb dX6_buy_65 rfl (lv_at hl 0 rfl) ?_
      refine lv_iadd hx hb dX6_buy_66 ?_
      refine lv_aload_n hx hb dX6_buy_67 rfl (lv_at hl 1 rfl) ?_
      refine cf_get (v := .ref (ad 17 4)) (ci := 6) (C := RX6) (T := TX6) (N := 24) hx hb hts (fun _ h => List.mem_cons_of_mem _ (List.mem_append_right _ (h))) hown hT.1 hW cf_e6 rfl 4 (by decide) (hts (.fieldLink RX6 19 "GameCafeModel" "wholes" "[I") (List.mem_of_getElem? (i := 5) rfl)) (fun _ h9 => h9) rfl dX6_buy_68 ?_
      refine lv_iconst (v := 4) hx hb dX6_buy_71 (by decide) ?_
      refine lv_iload_n hx hb dX6_buy_72 rfl (lv_at hl 2 rfl) ?_
      refine lv_imul hx hb dX6_buy_73 ?_
      refine lv_iload_n hx hb dX6_buy_74 rfl (lv_at hl 0 rfl) ?_
      refine lv_iadd hx hb dX6_buy_75 ?_
      refine cf_ildN (t0 := 0) (n := 20) (f := (cf_s3 (cf_s3 S 6 0 23 0) 17 12 n x) 17 4) (v := (S 17 4 (4 * gm + 0))) hx hb hT.1 hW (cf_e17 (i := 4) (by decide)) rfl (4 * gm + 0) (cf_ix4 hxg rfl) (by omega) (by decide) dX6_buy_76 (by simp [cf_s3, cf_g2, upd] : (cf_s3 (cf_s3 S 6 0 23 0) 17 12 n x) 17 4 (4 * gm + 0) = S 17 4 (4 * gm + 0)) ?_
      refine cf_istN (t0 := 0) (n := 60) (f := (cf_s3 (cf_s3 S 6 0 23 0) 17 12 n x) 17 14) hx hb hT.1 hW hS (cf_e17 (i := 14) (by decide)) rfl (4 * n + 0) (cf_ix4 rfl rfl) (by omega) (by decide) dX6_buy_77 (E2 := (cf_E cT nc ng (cf_s3 (cf_s3 (cf_s3 S 6 0 23 0) 17 12 n x) 17 14 (4 * n + 0) (S 17 4 (4 * gm + 0))) P O ad)) (cf_upS 17 14 (upd ((cf_s3 (cf_s3 S 6 0 23 0) 17 12 n x) 17 14) (4 * n + 0) (S 17 4 (4 * gm + 0))) (cf_c17 (i := 14) (by decide))) (fun H locs hW hS => ?_)
      refine lv_iinc (v := 1) (lv' := [(2, .int 1), (0, .ref (ad 6 0)), (1, .int x)]) hx hb dX6_buy_78 hl (k := 0) rfl (by decide) (by decide) rfl (fun ls hl => ?_)
      refine lv_goto (tgt := 50) hx hb dX6_buy_81 (by decide) ?_
      refine lv_iload_n hx hb dX6_buy_50 rfl (lv_at hl 0 rfl) ?_
      refine lv_iconst (v := 4) hx hb dX6_buy_51 (by decide) ?_
      refine lv_icmp_ge (tgt := 84) hx hb dX6_buy_52 (by decide) (fun c52_6 => (by first | exact absurd c52_6 (by decide) | exact absurd (by decide) c52_6)) (fun c52_6 => ?_)
      refine lv_aload_n hx hb dX6_buy_55 rfl (lv_at hl 1 rfl) ?_
      refine cf_get (v := .ref (ad 17 14)) (ci := 6) (C := RX6) (T := TX6) (N := 24) hx hb hts (fun _ h => List.mem_cons_of_mem _ (List.mem_append_right _ (h))) hown hT.1 hW cf_e6 rfl 14 (by decide) (hts (.fieldLink RX6 46 "GameCafeModel" "parts" "[I") (List.mem_of_getElem? (i := 4) rfl)) (fun _ h9 => h9) rfl dX6_buy_56 ?_
      refine lv_iconst (v := 4) hx hb dX6_buy_59 (by decide) ?_
      refine lv_aload_n hx hb dX6_buy_60 rfl (lv_at hl 1 rfl) ?_
      refine cf_get (v := .int (nI n)) (ci := 6) (C := RX6) (T := TX6) (N := 24) hx hb hts (fun _ h => List.mem_cons_of_mem _ (List.mem_append_right _ (h))) hown hT.1 hW cf_e6 rfl 11 (by decide) (hts (.fieldLink RX6 78 "GameCafeModel" "copies" "I") (List.mem_of_getElem? (i := 1) rfl)) (fun _ h9 => h9) (congrArg (fun x => some (Value.int x)) (by simp [cf_s3, cf_g2, upd, hn] : (cf_s3 (cf_s3 (cf_s3 S 6 0 23 0) 17 12 n x) 17 14 (4 * n + 0) (S 17 4 (4 * gm + 0))) 6 0 11 = nI n)) dX6_buy_61 ?_
      refine lv_imul hx hb dX6_buy_64 ?_
      refine lv_iload_n hx hb dX6_buy_65 rfl (lv_at hl 0 rfl) ?_
      refine lv_iadd hx hb dX6_buy_66 ?_
      refine lv_aload_n hx hb dX6_buy_67 rfl (lv_at hl 1 rfl) ?_
      refine cf_get (v := .ref (ad 17 4)) (ci := 6) (C := RX6) (T := TX6) (N := 24) hx hb hts (fun _ h => List.mem_cons_of_mem _ (List.mem_append_right _ (h))) hown hT.1 hW cf_e6 rfl 4 (by decide) (hts (.fieldLink RX6 19 "GameCafeModel" "wholes" "[I") (List.mem_of_getElem? (i := 5) rfl)) (fun _ h9 => h9) rfl dX6_buy_68 ?_
      refine lv_iconst (v := 4) hx hb dX6_buy_71 (by decide) ?_
      refine lv_iload_n hx hb dX6_buy_72 rfl (lv_at hl 2 rfl) ?_
      refine lv_imul hx hb dX6_buy_73 ?_
      refine lv_iload_n hx hb dX6_buy_74 rfl (lv_at hl 0 rfl) ?_
      refine lv_iadd hx hb dX6_buy_75 ?_
      refine cf_ildN (t0 := 0) (n := 20) (f := (cf_s3 (cf_s3 (cf_s3 S 6 0 23 0) 17 12 n x) 17 14 (4 * n + 0) (S 17 4 (4 * gm + 0))) 17 4) (v := (S 17 4 (4 * gm + 1))) hx hb hT.1 hW (cf_e17 (i := 4) (by decide)) rfl (4 * gm + 1) (cf_ix4 hxg rfl) (by omega) (by decide) dX6_buy_76 (by simp [cf_s3, cf_g2, upd] : (cf_s3 (cf_s3 (cf_s3 S 6 0 23 0) 17 12 n x) 17 14 (4 * n + 0) (S 17 4 (4 * gm + 0))) 17 4 (4 * gm + 1) = S 17 4 (4 * gm + 1)) ?_
      refine cf_istN (t0 := 0) (n := 60) (f := (cf_s3 (cf_s3 (cf_s3 S 6 0 23 0) 17 12 n x) 17 14 (4 * n + 0) (S 17 4 (4 * gm + 0))) 17 14) hx hb hT.1 hW hS (cf_e17 (i := 14) (by decide)) rfl (4 * n + 1) (cf_ix4 rfl rfl) (by omega) (by decide) dX6_buy_77 (E2 := (cf_E cT nc ng (cf_s3 (cf_s3 (cf_s3 (cf_s3 S 6 0 23 0) 17 12 n x) 17 14 (4 * n + 0) (S 17 4 (4 * gm + 0))) 17 14 (4 * n + 1) (S 17 4 (4 * gm + 1))) P O ad)) (cf_upS 17 14 (upd ((cf_s3 (cf_s3 (cf_s3 S 6 0 23 0) 17 12 n x) 17 14 (4 * n + 0) (S 17 4 (4 * gm + 0))) 17 14) (4 * n + 1) (S 17 4 (4 * gm + 1))) (cf_c17 (i := 14) (by decide))) (fun H locs hW hS => ?_)
      refine lv_iinc (v := 2) (lv' := [(2, .int 2), (0, .ref (ad 6 0)), (1, .int x)]) hx hb dX6_buy_78 hl (k := 0) rfl (by decide) (by decide) rfl (fun ls hl => ?_)
      refine lv_goto (tgt := 50) hx hb dX6_buy_81 (by decide) ?_
      refine lv_iload_n hx hb dX6_buy_50 rfl (lv_at hl 0 rfl) ?_
      refine lv_iconst (v := 4) hx hb dX6_buy_51 (by decide) ?_
      refine lv_icmp_ge (tgt := 84) hx hb dX6_buy_52 (by decide) (fun c52_7 => (by first | exact absurd c52_7 (by decide) | exact absurd (by decide) c52_7)) (fun c52_7 => ?_)
      refine lv_aload_n hx hb dX6_buy_55 rfl (lv_at hl 1 rfl) ?_
      refine cf_get (v := .ref (ad 17 14)) (ci := 6) (C := RX6) (T := TX6) (N := 24) hx hb hts (fun _ h => List.mem_cons_of_mem _ (List.mem_append_right _ (h))) hown hT.1 hW cf_e6 rfl 14 (by decide) (hts (.fieldLink RX6 46 "GameCafeModel" "parts" "[I") (List.mem_of_getElem? (i := 4) rfl)) (fun _ h9 => h9) rfl dX6_buy_56 ?_
      refine lv_iconst (v := 4) hx hb dX6_buy_59 (by decide) ?_
      refine lv_aload_n hx hb dX6_buy_60 rfl (lv_at hl 1 rfl) ?_
      refine cf_get (v := .int (nI n)) (ci := 6) (C := RX6) (T := TX6) (N := 24) hx hb hts (fun _ h => List.mem_cons_of_mem _ (List.mem_append_right _ (h))) hown hT.1 hW cf_e6 rfl 11 (by decide) (hts (.fieldLink RX6 78 "GameCafeModel" "copies" "I") (List.mem_of_getElem? (i := 1) rfl)) (fun _ h9 => h9) (congrArg (fun x => some (Value.int x)) (by simp [cf_s3, cf_g2, upd, hn] : (cf_s3 (cf_s3 (cf_s3 (cf_s3 S 6 0 23 0) 17 12 n x) 17 14 (4 * n + 0) (S 17 4 (4 * gm + 0))) 17 14 (4 * n + 1) (S 17 4 (4 * gm + 1))) 6 0 11 = nI n)) dX6_buy_61 ?_
      refine lv_imul hx hb dX6_buy_64 ?_
      refine lv_iload_n hx hb dX6_buy_65 rfl (lv_at hl 0 rfl) ?_
      refine lv_iadd hx hb dX6_buy_66 ?_
      refine lv_aload_n hx hb dX6_buy_67 rfl (lv_at hl 1 rfl) ?_
      refine cf_get (v := .ref (ad 17 4)) (ci := 6) (C := RX6) (T := TX6) (N := 24) hx hb hts (fun _ h => List.mem_cons_of_mem _ (List.mem_append_right _ (h))) hown hT.1 hW cf_e6 rfl 4 (by decide) (hts (.fieldLink RX6 19 "GameCafeModel" "wholes" "[I") (List.mem_of_getElem? (i := 5) rfl)) (fun _ h9 => h9) rfl dX6_buy_68 ?_
      refine lv_iconst (v := 4) hx hb dX6_buy_71 (by decide) ?_
      refine lv_iload_n hx hb dX6_buy_72 rfl (lv_at hl 2 rfl) ?_
      refine lv_imul hx hb dX6_buy_73 ?_
      refine lv_iload_n hx hb dX6_buy_74 rfl (lv_at hl 0 rfl) ?_
      refine lv_iadd hx hb dX6_buy_75 ?_
      refine cf_ildN (t0 := 0) (n := 20) (f := (cf_s3 (cf_s3 (cf_s3 (cf_s3 S 6 0 23 0) 17 12 n x) 17 14 (4 * n + 0) (S 17 4 (4 * gm + 0))) 17 14 (4 * n + 1) (S 17 4 (4 * gm + 1))) 17 4) (v := (S 17 4 (4 * gm + 2))) hx hb hT.1 hW (cf_e17 (i := 4) (by decide)) rfl (4 * gm + 2) (cf_ix4 hxg rfl) (by omega) (by decide) dX6_buy_76 (by simp [cf_s3, cf_g2, upd] : (cf_s3 (cf_s3 (cf_s3 (cf_s3 S 6 0 23 0) 17 12 n x) 17 14 (4 * n + 0) (S 17 4 (4 * gm + 0))) 17 14 (4 * n + 1) (S 17 4 (4 * gm + 1))) 17 4 (4 * gm + 2) = S 17 4 (4 * gm + 2)) ?_
      refine cf_istN (t0 := 0) (n := 60) (f := (cf_s3 (cf_s3 (cf_s3 (cf_s3 S 6 0 23 0) 17 12 n x) 17 14 (4 * n + 0) (S 17 4 (4 * gm + 0))) 17 14 (4 * n + 1) (S 17 4 (4 * gm + 1))) 17 14) hx hb hT.1 hW hS (cf_e17 (i := 14) (by decide)) rfl (4 * n + 2) (cf_ix4 rfl rfl) (by omega) (by decide) dX6_buy_77 (E2 := (cf_E cT nc ng (cf_s3 (cf_s3 (cf_s3 (cf_s3 (cf_s3 S 6 0 23 0) 17 12 n x) 17 14 (4 * n + 0) (S 17 4 (4 * gm + 0))) 17 14 (4 * n + 1) (S 17 4 (4 * gm + 1))) 17 14 (4 * n + 2) (S 17 4 (4 * gm + 2))) P O ad)) (cf_upS 17 14 (upd ((cf_s3 (cf_s3 (cf_s3 (cf_s3 S 6 0 23 0) 17 12 n x) 17 14 (4 * n + 0) (S 17 4 (4 * gm + 0))) 17 14 (4 * n + 1) (S 17 4 (4 * gm + 1))) 17 14) (4 * n + 2) (S 17 4 (4 * gm + 2))) (cf_c17 (i := 14) (by decide))) (fun H locs hW hS => ?_)
      refine lv_iinc (v := 3) (lv' := [(2, .int 3), (0, .ref (ad 6 0)), (1, .int x)]) hx hb dX6_buy_78 hl (k := 0) rfl (by decide) (by decide) rfl (fun ls hl => ?_)
      refine lv_goto (tgt := 50) hx hb dX6_buy_81 (by decide) ?_
      refine lv_iload_n hx hb dX6_buy_50 rfl (lv_at hl 0 rfl) ?_
      refine lv_iconst (v := 4) hx hb dX6_buy_51 (by decide) ?_
      refine lv_icmp_ge (tgt := 84) hx hb dX6_buy_52 (by decide) (fun c52_8 => (by first | exact absurd c52_8 (by decide) | exact absurd (by decide) c52_8)) (fun c52_8 => ?_)
      refine lv_aload_n hx hb dX6_buy_55 rfl (lv_at hl 1 rfl) ?_
      refine cf_get (v := .ref (ad 17 14)) (ci := 6) (C := RX6) (T := TX6) (N := 24) hx hb hts (fun _ h => List.mem_cons_of_mem _ (List.mem_append_right _ (h))) hown hT.1 hW cf_e6 rfl 14 (by decide) (hts (.fieldLink RX6 46 "GameCafeModel" "parts" "[I") (List.mem_of_getElem? (i := 4) rfl)) (fun _ h9 => h9) rfl dX6_buy_56 ?_
      refine lv_iconst (v := 4) hx hb dX6_buy_59 (by decide) ?_
      refine lv_aload_n hx hb dX6_buy_60 rfl (lv_at hl 1 rfl) ?_
      refine cf_get (v := .int (nI n)) (ci := 6) (C := RX6) (T := TX6) (N := 24) hx hb hts (fun _ h => List.mem_cons_of_mem _ (List.mem_append_right _ (h))) hown hT.1 hW cf_e6 rfl 11 (by decide) (hts (.fieldLink RX6 78 "GameCafeModel" "copies" "I") (List.mem_of_getElem? (i := 1) rfl)) (fun _ h9 => h9) (congrArg (fun x => some (Value.int x)) (by simp [cf_s3, cf_g2, upd, hn] : (cf_s3 (cf_s3 (cf_s3 (cf_s3 (cf_s3 S 6 0 23 0) 17 12 n x) 17 14 (4 * n + 0) (S 17 4 (4 * gm + 0))) 17 14 (4 * n + 1) (S 17 4 (4 * gm + 1))) 17 14 (4 * n + 2) (S 17 4 (4 * gm + 2))) 6 0 11 = nI n)) dX6_buy_61 ?_
      refine lv_imul hx hb dX6_buy_64 ?_
      refine lv_iload_n hx hb dX6_buy_65 rfl (lv_at hl 0 rfl) ?_
      refine lv_iadd hx hb dX6_buy_66 ?_
      refine lv_aload_n hx hb dX6_buy_67 rfl (lv_at hl 1 rfl) ?_
      refine cf_get (v := .ref (ad 17 4)) (ci := 6) (C := RX6) (T := TX6) (N := 24) hx hb hts (fun _ h => List.mem_cons_of_mem _ (List.mem_append_right _ (h))) hown hT.1 hW cf_e6 rfl 4 (by decide) (hts (.fieldLink RX6 19 "GameCafeModel" "wholes" "[I") (List.mem_of_getElem? (i := 5) rfl)) (fun _ h9 => h9) rfl dX6_buy_68 ?_
      refine lv_iconst (v := 4) hx hb dX6_buy_71 (by decide) ?_
      refine lv_iload_n hx hb dX6_buy_72 rfl (lv_at hl 2 rfl) ?_
      refine lv_imul hx hb dX6_buy_73 ?_
      refine lv_iload_n hx hb dX6_buy_74 rfl (lv_at hl 0 rfl) ?_
      refine lv_iadd hx hb dX6_buy_75 ?_
      refine cf_ildN (t0 := 0) (n := 20) (f := (cf_s3 (cf_s3 (cf_s3 (cf_s3 (cf_s3 S 6 0 23 0) 17 12 n x) 17 14 (4 * n + 0) (S 17 4 (4 * gm + 0))) 17 14 (4 * n + 1) (S 17 4 (4 * gm + 1))) 17 14 (4 * n + 2) (S 17 4 (4 * gm + 2))) 17 4) (v := (S 17 4 (4 * gm + 3))) hx hb hT.1 hW (cf_e17 (i := 4) (by decide)) rfl (4 * gm + 3) (cf_ix4 hxg rfl) (by omega) (by decide) dX6_buy_76 (by simp [cf_s3, cf_g2, upd] : (cf_s3 (cf_s3 (cf_s3 (cf_s3 (cf_s3 S 6 0 23 0) 17 12 n x) 17 14 (4 * n + 0) (S 17 4 (4 * gm + 0))) 17 14 (4 * n + 1) (S 17 4 (4 * gm + 1))) 17 14 (4 * n + 2) (S 17 4 (4 * gm + 2))) 17 4 (4 * gm + 3) = S 17 4 (4 * gm + 3)) ?_
      refine cf_istN (t0 := 0) (n := 60) (f := (cf_s3 (cf_s3 (cf_s3 (cf_s3 (cf_s3 S 6 0 23 0) 17 12 n x) 17 14 (4 * n + 0) (S 17 4 (4 * gm + 0))) 17 14 (4 * n + 1) (S 17 4 (4 * gm + 1))) 17 14 (4 * n + 2) (S 17 4 (4 * gm + 2))) 17 14) hx hb hT.1 hW hS (cf_e17 (i := 14) (by decide)) rfl (4 * n + 3) (cf_ix4 rfl rfl) (by omega) (by decide) dX6_buy_77 (E2 := (cf_E cT nc ng (cf_s3 (cf_s3 (cf_s3 (cf_s3 (cf_s3 (cf_s3 S 6 0 23 0) 17 12 n x) 17 14 (4 * n + 0) (S 17 4 (4 * gm + 0))) 17 14 (4 * n + 1) (S 17 4 (4 * gm + 1))) 17 14 (4 * n + 2) (S 17 4 (4 * gm + 2))) 17 14 (4 * n + 3) (S 17 4 (4 * gm + 3))) P O ad)) (cf_upS 17 14 (upd ((cf_s3 (cf_s3 (cf_s3 (cf_s3 (cf_s3 S 6 0 23 0) 17 12 n x) 17 14 (4 * n + 0) (S 17 4 (4 * gm + 0))) 17 14 (4 * n + 1) (S 17 4 (4 * gm + 1))) 17 14 (4 * n + 2) (S 17 4 (4 * gm + 2))) 17 14) (4 * n + 3) (S 17 4 (4 * gm + 3))) (cf_c17 (i := 14) (by decide))) (fun H locs hW hS => ?_)
      refine lv_iinc (v := 4) (lv' := [(2, .int 4), (0, .ref (ad 6 0)), (1, .int x)]) hx hb dX6_buy_78 hl (k := 0) rfl (by decide) (by decide) rfl (fun ls hl => ?_)
      refine lv_goto (tgt := 50) hx hb dX6_buy_81 (by decide) ?_
      refine lv_iload_n hx hb dX6_buy_50 rfl (lv_at hl 0 rfl) ?_
      refine lv_iconst (v := 4) hx hb dX6_buy_51 (by decide) ?_
      refine lv_icmp_ge (tgt := 84) hx hb dX6_buy_52 (by decide) (fun c52_9 => ?_) (fun c52_9 => (by first | exact absurd (by decide) c52_9 | exact absurd c52_9 (by decide)))
      refine lv_aload_n hx hb dX6_buy_84 rfl (lv_at hl 1 rfl) ?_
      refine lv_dup hx hb dX6_buy_85 rfl ?_
      refine cf_get (v := .int (nI n)) (ci := 6) (C := RX6) (T := TX6) (N := 24) hx hb hts (fun _ h => List.mem_cons_of_mem _ (List.mem_append_right _ (h))) hown hT.1 hW cf_e6 rfl 11 (by decide) (hts (.fieldLink RX6 78 "GameCafeModel" "copies" "I") (List.mem_of_getElem? (i := 1) rfl)) (fun _ h9 => h9) (congrArg (fun x => some (Value.int x)) (by simp [cf_s3, cf_g2, upd, hn] : (cf_s3 (cf_s3 (cf_s3 (cf_s3 (cf_s3 (cf_s3 S 6 0 23 0) 17 12 n x) 17 14 (4 * n + 0) (S 17 4 (4 * gm + 0))) 17 14 (4 * n + 1) (S 17 4 (4 * gm + 1))) 17 14 (4 * n + 2) (S 17 4 (4 * gm + 2))) 17 14 (4 * n + 3) (S 17 4 (4 * gm + 3))) 6 0 11 = nI n)) dX6_buy_86 ?_
      refine lv_iconst (v := 1) hx hb dX6_buy_89 (by decide) ?_
      refine lv_iadd hx hb dX6_buy_90 ?_
      refine cf_putE (v := .int ((nI n) + 1)) (ty := .int) (ci := 6) (C := RX6) (T := TX6) (N := 24) hx hb hts (fun _ h => List.mem_cons_of_mem _ (List.mem_append_right _ (h))) tyX6 tyX6_ok nmX6 hown hT.1 hW hS cf_e6 rfl 11 (by decide) (hts (.fieldLink RX6 78 "GameCafeModel" "copies" "I") (List.mem_of_getElem? (i := 1) rfl)) (fun _ h9 => h9) rfl (by decide +kernel) rfl rfl (Nat.le_of_ble_eq_true rfl) dX6_buy_91 (E2 := (cf_E cT nc ng (cf_s3 (cf_s3 (cf_s3 (cf_s3 (cf_s3 (cf_s3 (cf_s3 S 6 0 23 0) 17 12 n x) 17 14 (4 * n + 0) (S 17 4 (4 * gm + 0))) 17 14 (4 * n + 1) (S 17 4 (4 * gm + 1))) 17 14 (4 * n + 2) (S 17 4 (4 * gm + 2))) 17 14 (4 * n + 3) (S 17 4 (4 * gm + 3))) 6 0 11 ((nI n) + 1)) P O ad)) (cf_upS 6 0 (upd ((cf_s3 (cf_s3 (cf_s3 (cf_s3 (cf_s3 (cf_s3 S 6 0 23 0) 17 12 n x) 17 14 (4 * n + 0) (S 17 4 (4 * gm + 0))) 17 14 (4 * n + 1) (S 17 4 (4 * gm + 1))) 17 14 (4 * n + 2) (S 17 4 (4 * gm + 2))) 17 14 (4 * n + 3) (S 17 4 (4 * gm + 3))) 6 0) 11 ((nI n) + 1)) rfl) (fun H locs hW hS => ?_)
      refine lv_aload_n hx hb dX6_buy_94 rfl (lv_at hl 1 rfl) ?_
      refine cf_get (v := .int ((nI n) + 1)) (ci := 6) (C := RX6) (T := TX6) (N := 24) hx hb hts (fun _ h => List.mem_cons_of_mem _ (List.mem_append_right _ (h))) hown hT.1 hW cf_e6 rfl 11 (by decide) (hts (.fieldLink RX6 78 "GameCafeModel" "copies" "I") (List.mem_of_getElem? (i := 1) rfl)) (fun _ h9 => h9) (congrArg (fun x => some (Value.int x)) (by simp [cf_s3, cf_g2, upd] : (cf_s3 (cf_s3 (cf_s3 (cf_s3 (cf_s3 (cf_s3 (cf_s3 S 6 0 23 0) 17 12 n x) 17 14 (4 * n + 0) (S 17 4 (4 * gm + 0))) 17 14 (4 * n + 1) (S 17 4 (4 * gm + 1))) 17 14 (4 * n + 2) (S 17 4 (4 * gm + 2))) 17 14 (4 * n + 3) (S 17 4 (4 * gm + 3))) 6 0 11 ((nI n) + 1)) 6 0 11 = ((nI n) + 1))) dX6_buy_95 ?_
      refine lv_iconst (v := 1) hx hb dX6_buy_98 (by decide) ?_
      refine lv_isub hx hb dX6_buy_99 ?_
      exact W.iret (v := (((nI n) + 1) - 1)) hx hb hr (fun t9 ht9 hw9 => ⟨⟨(((nI n) + 1) - 1), (cf_s3 (cf_s3 (cf_s3 (cf_s3 (cf_s3 (cf_s3 (cf_s3 S 6 0 23 0) 17 12 n x) 17 14 (4 * n + 0) (S 17 4 (4 * gm + 0))) 17 14 (4 * n + 1) (S 17 4 (4 * gm + 1))) 17 14 (4 * n + 2) (S 17 4 (4 * gm + 2))) 17 14 (4 * n + 3) (S 17 4 (4 * gm + 3))) 6 0 11 ((nI n) + 1)), rfl, Or.inr (Or.inr ⟨gm, hg, hxg, hn15, (by rw [show nI n + 1 = nI (n + 1) from nI_1 n]; exact nI_pred n), rfl⟩), cf_W.re ht9 hW⟩, hS.F ht9⟩) hS.2.2 dX6_buy_100
    · have hn15 : n = 15 := cf_nI_inj (by omega) (by decide) c18_3
      refine lv_iconst (v := 2) hx hb dX6_buy_21 (by decide) ?_
      refine lv_goto (tgt := 26) hx hb dX6_buy_22 (by decide) ?_
      refine cf_putE (v := .int 2) (ty := .int) (ci := 6) (C := RX6) (T := TX6) (N := 24) hx hb hts (fun _ h => List.mem_cons_of_mem _ (List.mem_append_right _ (h))) tyX6 tyX6_ok nmX6 hown hT.1 hW hS cf_e6 rfl 23 (by decide) (hts (.fieldLink RX6 70 "GameCafeModel" "thrown" "I") (List.mem_of_getElem? (i := 2) rfl)) (fun _ h9 => h9) rfl (by decide +kernel) rfl rfl (Nat.le_of_ble_eq_true rfl) dX6_buy_26 (E2 := (cf_E cT nc ng (cf_s3 S 6 0 23 2) P O ad)) (cf_upS 6 0 (upd (S 6 0) 23 2) rfl) (fun H locs hW hS => ?_)
      refine lv_aload_n hx hb dX6_buy_29 rfl (lv_at hl 0 rfl) ?_
      refine cf_get (v := .int 2) (ci := 6) (C := RX6) (T := TX6) (N := 24) hx hb hts (fun _ h => List.mem_cons_of_mem _ (List.mem_append_right _ (h))) hown hT.1 hW cf_e6 rfl 23 (by decide) (hts (.fieldLink RX6 70 "GameCafeModel" "thrown" "I") (List.mem_of_getElem? (i := 2) rfl)) (fun _ h9 => h9) (congrArg (fun x => some (Value.int x)) (by simp [cf_s3, cf_g2, upd] : (cf_s3 S 6 0 23 2) 6 0 23 = 2)) dX6_buy_30 ?_
      refine lv_if_le (tgt := 38) hx hb dX6_buy_33 (by decide) (fun c33_10 => (by first | exact absurd c33_10 (by decide) | exact absurd (by decide) c33_10)) (fun c33_10 => ?_)
      refine lv_iconst (v := 0) hx hb dX6_buy_36 (by decide) ?_
      exact W.iret (v := 0) hx hb hr (fun t9 ht9 hw9 => ⟨⟨0, (cf_s3 S 6 0 23 2), rfl, Or.inr (Or.inl ⟨hi, hn15, rfl⟩), cf_W.re ht9 hW⟩, hS.F ht9⟩) hS.2.2 dX6_buy_37
  · have hi := h0.f c5_2
    refine lv_iconst (v := 1) hx hb dX6_buy_8 (by decide) ?_
    refine lv_goto (tgt := 26) hx hb dX6_buy_9 (by decide) ?_
    refine cf_putE (v := .int 1) (ty := .int) (ci := 6) (C := RX6) (T := TX6) (N := 24) hx hb hts (fun _ h => List.mem_cons_of_mem _ (List.mem_append_right _ (h))) tyX6 tyX6_ok nmX6 hown hT.1 hW hS cf_e6 rfl 23 (by decide) (hts (.fieldLink RX6 70 "GameCafeModel" "thrown" "I") (List.mem_of_getElem? (i := 2) rfl)) (fun _ h9 => h9) rfl (by decide +kernel) rfl rfl (Nat.le_of_ble_eq_true rfl) dX6_buy_26 (E2 := (cf_E cT nc ng (cf_s3 S 6 0 23 1) P O ad)) (cf_upS 6 0 (upd (S 6 0) 23 1) rfl) (fun H locs hW hS => ?_)
    refine lv_aload_n hx hb dX6_buy_29 rfl (lv_at hl 0 rfl) ?_
    refine cf_get (v := .int 1) (ci := 6) (C := RX6) (T := TX6) (N := 24) hx hb hts (fun _ h => List.mem_cons_of_mem _ (List.mem_append_right _ (h))) hown hT.1 hW cf_e6 rfl 23 (by decide) (hts (.fieldLink RX6 70 "GameCafeModel" "thrown" "I") (List.mem_of_getElem? (i := 2) rfl)) (fun _ h9 => h9) (congrArg (fun x => some (Value.int x)) (by simp [cf_s3, cf_g2, upd] : (cf_s3 S 6 0 23 1) 6 0 23 = 1)) dX6_buy_30 ?_
    refine lv_if_le (tgt := 38) hx hb dX6_buy_33 (by decide) (fun c33_11 => (by first | exact absurd c33_11 (by decide) | exact absurd (by decide) c33_11)) (fun c33_11 => ?_)
    refine lv_iconst (v := 0) hx hb dX6_buy_36 (by decide) ?_
    exact W.iret (v := 0) hx hb hr (fun t9 ht9 hw9 => ⟨⟨0, (cf_s3 S 6 0 23 1), rfl, Or.inl ⟨hi, rfl⟩, cf_W.re ht9 hW⟩, hS.F ht9⟩) hS.2.2 dX6_buy_37
set_option maxHeartbeats 4000000 in
set_option maxRecDepth 100000 in
/-- X6_go -/
theorem c_X6_go (l : Launch) (D : va_G) (cT : Nat → ClassId) (z : Nat) (ad : cf_Ad) (nc ng : Nat) (S : cf_S) (P : cf_Pt) (O : Nat → Int64) (x : Int32) (hng : S 6 0 15 = nI ng) (hng60 : ng ≤ 60) (hnc : nc ≤ 15) (TB CB : Nat → Nat) (hGG : ∀ j, j < ng → S 17 17 j = nI (TB j) ∧ TB j < 6 ∧ S 17 18 j = nI (CB j) ∧ CB j < nc) (hM : ∀ j, j < nc → S 17 12 j = nI (P 0 j 0) ∧ P 0 j 0 < 5) : Met l yX6_go wsX6_go ({ frames := 2, cells := 0, slots := 0, locals := 43 }) (va_Pc [.ref (ad 6 0), .int x] (cf_P D cT z (cf_E cT nc ng S P O ad) ad)) (cf_Qi D z (fun (r : Int32) (T : cf_S) => (¬ cf_lvM S ng x ∧ T = (cf_s3 S 6 0 23 1)) ∨ ∃ j : Nat, j < ng ∧ x = nI j ∧ S 17 20 j = 0 ∧ r = S 6 0 0 - S 17 19 j ∧ T = (cf_s3 (cf_s3 (cf_s3 (cf_s3 (cf_s3 S 6 0 23 0) 17 20 j 1) 17 8 (TB j) 0) 17 13 (CB j) 0) 17 6 (P 0 (CB j) 0) ((S 17 6 (P 0 (CB j) 0)) + 1))) (fun T => cf_E cT nc ng T P O ad) (fun _ => ad)) 0 0 (fun q => z ≤ q) := by
  refine Met.ofW (cc := cX6_go) (maxL := 2) (ret := (some .int)) (by decide) rfl ?_
  intro p e s m args below meth c s₁ B hml hv
  obtain ⟨rfl, hW, hT⟩ := hv
  have hx := B.exec
  have hb := B.bytes
  have hr := B.returns
  have hts := atoms_spec (ws := wsX6_go) B.pre
  have hown : s.vm.findClass RX6 = some m.cls := findClass_of_methodNamed B.named
  have hlocks := B.notSynchronized
  have hS : va_S (fun q => z ≤ q) s.heap s.heap [] := va_S.rf
  have hl := lv_entry ([.ref (ad 6 0), .int x]) (n := 2) (Nat.le_of_ble_eq_true rfl)
  rw [lg_entry_eq]
  generalize (lg_sl ([.ref (ad 6 0), .int x]) ++ List.replicate (2 - (lg_sl ([.ref (ad 6 0), .int x])).length) Slot.unset).toArray = ls at hl ⊢
  have hl : lv_has ls 2 [(0, .ref (ad 6 0)), (1, .int x)] := hl
  skip
  refine lv_aload_n hx hb dX6_go_0 rfl (lv_at hl 0 rfl) ?_
  refine lv_iload_n hx hb dX6_go_1 rfl (lv_at hl 1 rfl) ?_
  refine va_calli (va_runV (As := [.int x]) (rest := []) ⟨hx, hb, hml, hown, hts⟩ (c_X6_isThere l D cT z ad nc ng S P O x hng hng60) (cwV 1 hts gX6_go_X6_isThere rfl rfl rfl (by decide +kernel) ⟨Nat.le_of_ble_eq_true rfl, Nat.le_of_ble_eq_true rfl⟩) (cf_preV (T := TX6) (N := 24) hT hS hW cf_e6 rfl) rfl rfl hl.1 rfl (lv_room (Nat.le_of_ble_eq_true rfl)) dX6_go_2 ⟨Nat.le_of_ble_eq_true rfl, Nat.le_of_ble_eq_true rfl⟩) hS (fun _ _ h => h) (fun _ h => h) (fun r1 ur1 t9 H locs ht hvm hw hW hz1 hk1 hS => ?_)
  have hW := cf_W.er ht hW
  rcases hw with ⟨hr0, hlv, hT0⟩ | ⟨hr0, hlv, hT0⟩
  · subst hr0 hT0
    refine lv_if_ne (tgt := 10) hx hb dX6_go_5 (by decide) (fun c5_2 => ?_) (fun c5_2 => (by first | exact absurd (by decide) c5_2 | exact absurd c5_2 (by decide)))
    obtain ⟨j, hj, hxj, hg0⟩ := hlv
    obtain ⟨e1, e2, e3, e4⟩ := hGG j hj
    obtain ⟨e5, e6⟩ := hM (CB j) e4
    refine lv_aload_n hx hb dX6_go_10 rfl (lv_at hl 0 rfl) ?_
    refine cf_get (v := .ref (ad 17 20)) (ci := 6) (C := RX6) (T := TX6) (N := 24) hx hb hts (fun _ h => List.mem_cons_of_mem _ (List.mem_append_right _ (h))) hown hT.1 hW cf_e6 rfl 20 (by decide) (hts (.fieldLink RX6 61 "GameCafeModel" "gone" "[I") (List.mem_of_getElem? (i := 1) rfl)) (fun _ h9 => h9) rfl dX6_go_11 ?_
    refine lv_iload_n hx hb dX6_go_14 rfl (lv_at hl 1 rfl) ?_
    refine lv_iconst (v := 1) hx hb dX6_go_15 (by decide) ?_
    refine cf_istN (t0 := 0) (n := 60) (f := (cf_s3 S 6 0 23 0) 17 20) hx hb hT.1 hW hS (cf_e17 (i := 20) (by decide)) rfl j hxj (by omega) (by decide) dX6_go_16 (E2 := (cf_E cT nc ng (cf_s3 (cf_s3 S 6 0 23 0) 17 20 j 1) P O ad)) (cf_upS 17 20 (upd ((cf_s3 S 6 0 23 0) 17 20) j 1) (cf_c17 (i := 20) (by decide))) (fun H locs hW hS => ?_)
    refine lv_aload_n hx hb dX6_go_17 rfl (lv_at hl 0 rfl) ?_
    refine cf_get (v := .ref (ad 17 8)) (ci := 6) (C := RX6) (T := TX6) (N := 24) hx hb hts (fun _ h => List.mem_cons_of_mem _ (List.mem_append_right _ (h))) hown hT.1 hW cf_e6 rfl 8 (by decide) (hts (.fieldLink RX6 31 "GameCafeModel" "taken" "[I") (List.mem_of_getElem? (i := 2) rfl)) (fun _ h9 => h9) rfl dX6_go_18 ?_
    refine lv_aload_n hx hb dX6_go_21 rfl (lv_at hl 0 rfl) ?_
    refine cf_get (v := .ref (ad 17 17)) (ci := 6) (C := RX6) (T := TX6) (N := 24) hx hb hts (fun _ h => List.mem_cons_of_mem _ (List.mem_append_right _ (h))) hown hT.1 hW cf_e6 rfl 17 (by decide) (hts (.fieldLink RX6 52 "GameCafeModel" "tables" "[I") (List.mem_of_getElem? (i := 3) rfl)) (fun _ h9 => h9) rfl dX6_go_22 ?_
    refine lv_iload_n hx hb dX6_go_25 rfl (lv_at hl 1 rfl) ?_
    refine cf_ildN (t0 := 0) (n := 60) (f := (cf_s3 (cf_s3 S 6 0 23 0) 17 20 j 1) 17 17) (v := (nI (TB j))) hx hb hT.1 hW (cf_e17 (i := 17) (by decide)) rfl j hxj (by omega) (by decide) dX6_go_26 (by simp [cf_s3, cf_g2, upd, e1] : (cf_s3 (cf_s3 S 6 0 23 0) 17 20 j 1) 17 17 j = nI (TB j)) ?_
    refine lv_iconst (v := 0) hx hb dX6_go_27 (by decide) ?_
    refine cf_istN (t0 := 0) (n := 6) (f := (cf_s3 (cf_s3 S 6 0 23 0) 17 20 j 1) 17 8) hx hb hT.1 hW hS (cf_e17 (i := 8) (by decide)) rfl (TB j) rfl e2 (by decide) dX6_go_28 (E2 := (cf_E cT nc ng (cf_s3 (cf_s3 (cf_s3 S 6 0 23 0) 17 20 j 1) 17 8 (TB j) 0) P O ad)) (cf_upS 17 8 (upd ((cf_s3 (cf_s3 S 6 0 23 0) 17 20 j 1) 17 8) (TB j) 0) (cf_c17 (i := 8) (by decide))) (fun H locs hW hS => ?_)
    refine lv_aload_n hx hb dX6_go_29 rfl (lv_at hl 0 rfl) ?_
    refine cf_get (v := .ref (ad 17 13)) (ci := 6) (C := RX6) (T := TX6) (N := 24) hx hb hts (fun _ h => List.mem_cons_of_mem _ (List.mem_append_right _ (h))) hown hT.1 hW cf_e6 rfl 13 (by decide) (hts (.fieldLink RX6 43 "GameCafeModel" "places" "[I") (List.mem_of_getElem? (i := 4) rfl)) (fun _ h9 => h9) rfl dX6_go_30 ?_
    refine lv_aload_n hx hb dX6_go_33 rfl (lv_at hl 0 rfl) ?_
    refine cf_get (v := .ref (ad 17 18)) (ci := 6) (C := RX6) (T := TX6) (N := 24) hx hb hts (fun _ h => List.mem_cons_of_mem _ (List.mem_append_right _ (h))) hown hT.1 hW cf_e6 rfl 18 (by decide) (hts (.fieldLink RX6 55 "GameCafeModel" "ofGroup" "[I") (List.mem_of_getElem? (i := 5) rfl)) (fun _ h9 => h9) rfl dX6_go_34 ?_
    refine lv_iload_n hx hb dX6_go_37 rfl (lv_at hl 1 rfl) ?_
    refine cf_ildN (t0 := 0) (n := 60) (f := (cf_s3 (cf_s3 (cf_s3 S 6 0 23 0) 17 20 j 1) 17 8 (TB j) 0) 17 18) (v := (nI (CB j))) hx hb hT.1 hW (cf_e17 (i := 18) (by decide)) rfl j hxj (by omega) (by decide) dX6_go_38 (by simp [cf_s3, cf_g2, upd, e3] : (cf_s3 (cf_s3 (cf_s3 S 6 0 23 0) 17 20 j 1) 17 8 (TB j) 0) 17 18 j = nI (CB j)) ?_
    refine lv_iconst (v := 0) hx hb dX6_go_39 (by decide) ?_
    refine cf_istN (t0 := 0) (n := 15) (f := (cf_s3 (cf_s3 (cf_s3 S 6 0 23 0) 17 20 j 1) 17 8 (TB j) 0) 17 13) hx hb hT.1 hW hS (cf_e17 (i := 13) (by decide)) rfl (CB j) rfl (by omega) (by decide) dX6_go_40 (E2 := (cf_E cT nc ng (cf_s3 (cf_s3 (cf_s3 (cf_s3 S 6 0 23 0) 17 20 j 1) 17 8 (TB j) 0) 17 13 (CB j) 0) P O ad)) (cf_upS 17 13 (upd ((cf_s3 (cf_s3 (cf_s3 S 6 0 23 0) 17 20 j 1) 17 8 (TB j) 0) 17 13) (CB j) 0) (cf_c17 (i := 13) (by decide))) (fun H locs hW hS => ?_)
    refine lv_aload_n hx hb dX6_go_41 rfl (lv_at hl 0 rfl) ?_
    refine cf_get (v := .ref (ad 17 6)) (ci := 6) (C := RX6) (T := TX6) (N := 24) hx hb hts (fun _ h => List.mem_cons_of_mem _ (List.mem_append_right _ (h))) hown hT.1 hW cf_e6 rfl 6 (by decide) (hts (.fieldLink RX6 25 "GameCafeModel" "played" "[I") (List.mem_of_getElem? (i := 6) rfl)) (fun _ h9 => h9) rfl dX6_go_42 ?_
    refine lv_aload_n hx hb dX6_go_45 rfl (lv_at hl 0 rfl) ?_
    refine cf_get (v := .ref (ad 17 12)) (ci := 6) (C := RX6) (T := TX6) (N := 24) hx hb hts (fun _ h => List.mem_cons_of_mem _ (List.mem_append_right _ (h))) hown hT.1 hW cf_e6 rfl 12 (by decide) (hts (.fieldLink RX6 40 "GameCafeModel" "games" "[I") (List.mem_of_getElem? (i := 7) rfl)) (fun _ h9 => h9) rfl dX6_go_46 ?_
    refine lv_aload_n hx hb dX6_go_49 rfl (lv_at hl 0 rfl) ?_
    refine cf_get (v := .ref (ad 17 18)) (ci := 6) (C := RX6) (T := TX6) (N := 24) hx hb hts (fun _ h => List.mem_cons_of_mem _ (List.mem_append_right _ (h))) hown hT.1 hW cf_e6 rfl 18 (by decide) (hts (.fieldLink RX6 55 "GameCafeModel" "ofGroup" "[I") (List.mem_of_getElem? (i := 5) rfl)) (fun _ h9 => h9) rfl dX6_go_50 ?_
    refine lv_iload_n hx hb dX6_go_53 rfl (lv_at hl 1 rfl) ?_
    refine cf_ildN (t0 := 0) (n := 60) (f := (cf_s3 (cf_s3 (cf_s3 (cf_s3 S 6 0 23 0) 17 20 j 1) 17 8 (TB j) 0) 17 13 (CB j) 0) 17 18) (v := (nI (CB j))) hx hb hT.1 hW (cf_e17 (i := 18) (by decide)) rfl j hxj (by omega) (by decide) dX6_go_54 (by simp [cf_s3, cf_g2, upd, e3] : (cf_s3 (cf_s3 (cf_s3 (cf_s3 S 6 0 23 0) 17 20 j 1) 17 8 (TB j) 0) 17 13 (CB j) 0) 17 18 j = nI (CB j)) ?_
    refine cf_ildN (t0 := 0) (n := 15) (f := (cf_s3 (cf_s3 (cf_s3 (cf_s3 S 6 0 23 0) 17 20 j 1) 17 8 (TB j) 0) 17 13 (CB j) 0) 17 12) (v := (nI (P 0 (CB j) 0))) hx hb hT.1 hW (cf_e17 (i := 12) (by decide)) rfl (CB j) rfl (by omega) (by decide) dX6_go_55 (by simp [cf_s3, cf_g2, upd, e5] : (cf_s3 (cf_s3 (cf_s3 (cf_s3 S 6 0 23 0) 17 20 j 1) 17 8 (TB j) 0) 17 13 (CB j) 0) 17 12 (CB j) = nI (P 0 (CB j) 0)) ?_
    refine lv_dup2_11 hx hb dX6_go_56 rfl rfl ?_
    refine cf_ildN (t0 := 0) (n := 5) (f := (cf_s3 (cf_s3 (cf_s3 (cf_s3 S 6 0 23 0) 17 20 j 1) 17 8 (TB j) 0) 17 13 (CB j) 0) 17 6) (v := (S 17 6 (P 0 (CB j) 0))) hx hb hT.1 hW (cf_e17 (i := 6) (by decide)) rfl (P 0 (CB j) 0) rfl e6 (by decide) dX6_go_57 (by simp [cf_s3, cf_g2, upd] : (cf_s3 (cf_s3 (cf_s3 (cf_s3 S 6 0 23 0) 17 20 j 1) 17 8 (TB j) 0) 17 13 (CB j) 0) 17 6 (P 0 (CB j) 0) = S 17 6 (P 0 (CB j) 0)) ?_
    refine lv_iconst (v := 1) hx hb dX6_go_58 (by decide) ?_
    refine lv_iadd hx hb dX6_go_59 ?_
    refine cf_istN (t0 := 0) (n := 5) (f := (cf_s3 (cf_s3 (cf_s3 (cf_s3 S 6 0 23 0) 17 20 j 1) 17 8 (TB j) 0) 17 13 (CB j) 0) 17 6) hx hb hT.1 hW hS (cf_e17 (i := 6) (by decide)) rfl (P 0 (CB j) 0) rfl e6 (by decide) dX6_go_60 (E2 := (cf_E cT nc ng (cf_s3 (cf_s3 (cf_s3 (cf_s3 (cf_s3 S 6 0 23 0) 17 20 j 1) 17 8 (TB j) 0) 17 13 (CB j) 0) 17 6 (P 0 (CB j) 0) ((S 17 6 (P 0 (CB j) 0)) + 1)) P O ad)) (cf_upS 17 6 (upd ((cf_s3 (cf_s3 (cf_s3 (cf_s3 S 6 0 23 0) 17 20 j 1) 17 8 (TB j) 0) 17 13 (CB j) 0) 17 6) (P 0 (CB j) 0) ((S 17 6 (P 0 (CB j) 0)) + 1)) (cf_c17 (i := 6) (by decide))) (fun H locs hW hS => ?_)
    refine lv_aload_n hx hb dX6_go_61 rfl (lv_at hl 0 rfl) ?_
    refine cf_get (v := .int (S 6 0 0)) (ci := 6) (C := RX6) (T := TX6) (N := 24) hx hb hts (fun _ h => List.mem_cons_of_mem _ (List.mem_append_right _ (h))) hown hT.1 hW cf_e6 rfl 0 (by decide) (hts (.fieldLink RX6 98 "GameCafeModel" "minute" "I") (List.mem_of_getElem? (i := 8) rfl)) (fun _ h9 => h9) (congrArg (fun x => some (Value.int x)) (by simp [cf_s3, cf_g2, upd] : (cf_s3 (cf_s3 (cf_s3 (cf_s3 (cf_s3 S 6 0 23 0) 17 20 j 1) 17 8 (TB j) 0) 17 13 (CB j) 0) 17 6 (P 0 (CB j) 0) ((S 17 6 (P 0 (CB j) 0)) + 1)) 6 0 0 = S 6 0 0)) dX6_go_62 ?_
    refine lv_aload_n hx hb dX6_go_65 rfl (lv_at hl 0 rfl) ?_
    refine cf_get (v := .ref (ad 17 19)) (ci := 6) (C := RX6) (T := TX6) (N := 24) hx hb hts (fun _ h => List.mem_cons_of_mem _ (List.mem_append_right _ (h))) hown hT.1 hW cf_e6 rfl 19 (by decide) (hts (.fieldLink RX6 58 "GameCafeModel" "since" "[I") (List.mem_of_getElem? (i := 9) rfl)) (fun _ h9 => h9) rfl dX6_go_66 ?_
    refine lv_iload_n hx hb dX6_go_69 rfl (lv_at hl 1 rfl) ?_
    refine cf_ildN (t0 := 0) (n := 60) (f := (cf_s3 (cf_s3 (cf_s3 (cf_s3 (cf_s3 S 6 0 23 0) 17 20 j 1) 17 8 (TB j) 0) 17 13 (CB j) 0) 17 6 (P 0 (CB j) 0) ((S 17 6 (P 0 (CB j) 0)) + 1)) 17 19) (v := (S 17 19 j)) hx hb hT.1 hW (cf_e17 (i := 19) (by decide)) rfl j hxj (by omega) (by decide) dX6_go_70 (by simp [cf_s3, cf_g2, upd] : (cf_s3 (cf_s3 (cf_s3 (cf_s3 (cf_s3 S 6 0 23 0) 17 20 j 1) 17 8 (TB j) 0) 17 13 (CB j) 0) 17 6 (P 0 (CB j) 0) ((S 17 6 (P 0 (CB j) 0)) + 1)) 17 19 j = S 17 19 j) ?_
    refine lv_isub hx hb dX6_go_71 ?_
    exact W.iret (v := ((S 6 0 0) - (S 17 19 j))) hx hb hr (fun t9 ht9 hw9 => ⟨⟨((S 6 0 0) - (S 17 19 j)), (cf_s3 (cf_s3 (cf_s3 (cf_s3 (cf_s3 S 6 0 23 0) 17 20 j 1) 17 8 (TB j) 0) 17 13 (CB j) 0) 17 6 (P 0 (CB j) 0) ((S 17 6 (P 0 (CB j) 0)) + 1)), rfl, Or.inr ⟨j, hj, hxj, hg0, rfl, rfl⟩, cf_W.re ht9 hW⟩, hS.F ht9⟩) hS.2.2 dX6_go_72
  · subst hr0 hT0
    refine lv_if_ne (tgt := 10) hx hb dX6_go_5 (by decide) (fun c5_3 => (by first | exact absurd c5_3 (by decide) | exact absurd (by decide) c5_3)) (fun c5_3 => ?_)
    refine lv_iconst (v := 0) hx hb dX6_go_8 (by decide) ?_
    exact W.iret (v := 0) hx hb hr (fun t9 ht9 hw9 => ⟨⟨0, (cf_s3 S 6 0 23 1), rfl, Or.inl ⟨hlv, rfl⟩, cf_W.re ht9 hW⟩, hS.F ht9⟩) hS.2.2 dX6_go_9
