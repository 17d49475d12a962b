def cf_worthM (h : Nat → Int32) : Int32 := 0 + 100 * (0 + 1) * h 0 + 100 * (1 + 1) * h 1 + 100 * (2 + 1) * h 2 + 100 * (3 + 1) * h 3
set_option maxHeartbeats 4000000 in
set_option maxRecDepth 100000 in
/-- X6_setGame -/
theorem c_X6_setGame (l : Launch) (D : va_G) (cT : Nat → ClassId) (z : Nat) (ad : cf_Ad) (nc ng : Nat) (S : cf_S) (P : cf_Pt) (O : Nat → Int64) (x a1 a2 a3 : Int32) : Met l yX6_setGame wsX6_setGame ({ frames := 2, cells := 0, slots := 0, locals := 42 }) (va_Pc [.ref (ad 6 0), .int x, .int a1, .int a2, .int a3] (cf_P D cT z (cf_E cT nc ng S P O ad) ad)) (cf_Qv D z (fun (T : cf_S) => (¬ cf_ix x 5 ∧ T = (cf_s3 S 6 0 23 1)) ∨ (cf_ix x 5 ∧ ¬ (cf_rg a1 1 8 ∧ cf_rg a2 a1 8 ∧ cf_rg a3 1 60) ∧ T = (cf_s3 S 6 0 23 2)) ∨ ∃ j : Nat, j < 5 ∧ x = nI j ∧ (cf_rg a1 1 8 ∧ cf_rg a2 a1 8 ∧ cf_rg a3 1 60) ∧ T = cf_s3 (cf_s3 (cf_s3 (cf_s3 S 6 0 23 0) 17 1 j a1) 17 2 j a2) 17 3 j a3) (fun T => cf_E cT nc ng T P O ad) (fun _ => ad)) 0 0 (fun q => z ≤ q) := by
  refine Met.ofW (cc := cX6_setGame) (maxL := 5) (ret := none) (by decide) rfl ?_
  intro p e s m args below meth c s₁ B hml hv
  obtain ⟨rfl, hW, hT⟩ := hv
  have hx := B.exec
  have hb := B.bytes
  have hr := B.returns
  have hts := atoms_spec (ws := wsX6_setGame) B.pre
  have hown : s.vm.findClass RX6 = some m.cls := findClass_of_methodNamed B.named
  have hlocks := B.notSynchronized
  have hS : va_S (fun q => z ≤ q) s.heap s.heap [] := va_S.rf
  have hl := lv_entry ([.ref (ad 6 0), .int x, .int a1, .int a2, .int a3]) (n := 5) (Nat.le_of_ble_eq_true rfl)
  rw [lg_entry_eq]
  generalize (lg_sl ([.ref (ad 6 0), .int x, .int a1, .int a2, .int a3]) ++ List.replicate (5 - (lg_sl ([.ref (ad 6 0), .int x, .int a1, .int a2, .int a3])).length) Slot.unset).toArray = ls at hl ⊢
  have hl : lv_has ls 5 [(0, .ref (ad 6 0)), (1, .int x), (2, .int a1), (3, .int a2), (4, .int a3)] := hl
  skip
  refine lv_aload_n hx hb dX6_setGame_0 rfl (lv_at hl 0 rfl) ?_
  refine lv_iload_n hx hb dX6_setGame_1 rfl (lv_at hl 1 rfl) ?_
  refine va_calli (va_runS (As := [.int x]) (rest := [.ref (ad 6 0)]) ⟨hx, hb, hml, hown, hts⟩ (c_X6_isGame l D cT z ad _ x) (va_cwS 1 hts gX6_setGame_X6_isGame rfl rfl rfl (by decide +kernel) ⟨Nat.le_of_ble_eq_true rfl, Nat.le_of_ble_eq_true rfl⟩) (cf_preS hT hS hW) rfl rfl hl.1 rfl (lv_room (Nat.le_of_ble_eq_true rfl)) dX6_setGame_2 ⟨Nat.le_of_ble_eq_true rfl, Nat.le_of_ble_eq_true rfl⟩) hS (fun _ _ h => h) (fun _ h => h) (fun r1 ur1 t9 H locs ht hvm hw hW hz1 hk1 hS => ?_)
  have hW := cf_W.er ht hW
  have h0 := hw
  refine lv_if_ne (tgt := 12) hx hb dX6_setGame_5 (by decide) (fun c5_2 => ?_) (fun c5_2 => ?_)
  · have hA := h0.t c5_2
    refine lv_iload_n hx hb dX6_setGame_12 rfl (lv_at hl 2 rfl) ?_
    refine lv_iconst (v := 1) hx hb dX6_setGame_13 (by decide) ?_
    refine lv_bipush (v := 8) hx hb dX6_setGame_14 (by decide) ?_
    refine va_calli (va_runS (As := [.int a1, .int 1, .int 8]) (rest := [.ref (ad 6 0)]) ⟨hx, hb, hml, hown, hts⟩ (c_X6_in l D cT z ad _ a1 1 8) (va_cwS 3 hts gX6_setGame_X6_in rfl rfl rfl (by decide +kernel) ⟨Nat.le_of_ble_eq_true rfl, Nat.le_of_ble_eq_true rfl⟩) (cf_preS hT hS hW) rfl rfl hl.1 rfl (lv_room (Nat.le_of_ble_eq_true rfl)) dX6_setGame_16 ⟨Nat.le_of_ble_eq_true rfl, Nat.le_of_ble_eq_true rfl⟩) hS (fun _ _ h => h) (fun _ h => h) (fun r3 ur3 t9 H locs ht hvm hw hW hz1 hk1 hS => ?_)
    have hW := cf_W.er ht hW
    have k1 := hw
    refine lv_if_eq (tgt := 43) hx hb dX6_setGame_19 (by decide) (fun c19_4 => ?_) (fun c19_4 => ?_)
    · have b1 := k1.f c19_4
      refine lv_iconst (v := 2) hx hb dX6_setGame_43 (by decide) ?_
      refine lv_goto (tgt := 48) hx hb dX6_setGame_44 (by decide) ?_
      refine cf_putE (v := .int 2) (ty := .int) (ci := 6) (C := RX6) (T := TX6) (N := 24) hx hb hts (fun _ h => List.mem_cons_of_mem _ (List.mem_append_right _ (h))) tyX6 tyX6_ok nmX6 hown hT.1 hW hS cf_e6 rfl 23 (by decide) (hts (.fieldLink RX6 70 "GameCafeModel" "thrown" "I") (List.mem_of_getElem? (i := 1) rfl)) (fun _ h9 => h9) rfl (by decide +kernel) rfl rfl (Nat.le_of_ble_eq_true rfl) dX6_setGame_48 (E2 := (cf_E cT nc ng (cf_s3 S 6 0 23 2) P O ad)) (cf_upS 6 0 (upd (S 6 0) 23 2) rfl) (fun H locs hW hS => ?_)
      refine lv_aload_n hx hb dX6_setGame_51 rfl (lv_at hl 0 rfl) ?_
      refine cf_get (v := .int 2) (ci := 6) (C := RX6) (T := TX6) (N := 24) hx hb hts (fun _ h => List.mem_cons_of_mem _ (List.mem_append_right _ (h))) hown hT.1 hW cf_e6 rfl 23 (by decide) (hts (.fieldLink RX6 70 "GameCafeModel" "thrown" "I") (List.mem_of_getElem? (i := 1) rfl)) (fun _ h9 => h9) (congrArg (fun x => some (Value.int x)) (by simp [cf_s3, cf_g2, upd] : (cf_s3 S 6 0 23 2) 6 0 23 = 2)) dX6_setGame_52 ?_
      refine lv_if_ne (tgt := 80) hx hb dX6_setGame_55 (by decide) (fun c55_5 => ?_) (fun c55_5 => (by first | exact absurd (by decide) c55_5 | exact absurd c55_5 (by decide)))
      exact W.vret hx hb hr (fun t9 ht9 hw9 => ⟨⟨(cf_s3 S 6 0 23 2), rfl, Or.inr (Or.inl ⟨hA, fun q => b1 q.1, rfl⟩), cf_W.re ht9 hW⟩, hS.F ht9⟩) hS.2.2 dX6_setGame_80
    · have b1 := k1.t c19_4
      refine lv_iload_n hx hb dX6_setGame_22 rfl (lv_at hl 3 rfl) ?_
      refine lv_iload_n hx hb dX6_setGame_23 rfl (lv_at hl 2 rfl) ?_
      refine lv_bipush (v := 8) hx hb dX6_setGame_24 (by decide) ?_
      refine va_calli (va_runS (As := [.int a2, .int a1, .int 8]) (rest := [.ref (ad 6 0)]) ⟨hx, hb, hml, hown, hts⟩ (c_X6_in l D cT z ad _ a2 a1 8) (va_cwS 3 hts gX6_setGame_X6_in rfl rfl rfl (by decide +kernel) ⟨Nat.le_of_ble_eq_true rfl, Nat.le_of_ble_eq_true rfl⟩) (cf_preS hT hS hW) rfl rfl hl.1 rfl (lv_room (Nat.le_of_ble_eq_true rfl)) dX6_setGame_26 ⟨Nat.le_of_ble_eq_true rfl, Nat.le_of_ble_eq_true rfl⟩) hS (fun _ _ h => h) (fun _ h => h) (fun r6 ur6 t9 H locs ht hvm hw hW hz1 hk1 hS => ?_)
      have hW := cf_W.er ht hW
      have k2 := hw
      refine lv_if_eq (tgt := 43) hx hb dX6_setGame_29 (by decide) (fun c29_7 => ?_) (fun c29_7 => ?_)
      · have b2 := k2.f c29_7
        refine lv_iconst (v := 2) hx hb dX6_setGame_43 (by decide) ?_
        refine lv_goto (tgt := 48) hx hb dX6_setGame_44 (by decide) ?_
        refine cf_putE (v := .int 2) (ty := .int) (ci := 6) (C := RX6) (T := TX6) (N := 24) hx hb hts (fun _ h => List.mem_cons_of_mem _ (List.mem_append_right _ (h))) tyX6 tyX6_ok nmX6 hown hT.1 hW hS cf_e6 rfl 23 (by decide) (hts (.fieldLink RX6 70 "GameCafeModel" "thrown" "I") (List.mem_of_getElem? (i := 1) rfl)) (fun _ h9 => h9) rfl (by decide +kernel) rfl rfl (Nat.le_of_ble_eq_true rfl) dX6_setGame_48 (E2 := (cf_E cT nc ng (cf_s3 S 6 0 23 2) P O ad)) (cf_upS 6 0 (upd (S 6 0) 23 2) rfl) (fun H locs hW hS => ?_)
        refine lv_aload_n hx hb dX6_setGame_51 rfl (lv_at hl 0 rfl) ?_
        refine cf_get (v := .int 2) (ci := 6) (C := RX6) (T := TX6) (N := 24) hx hb hts (fun _ h => List.mem_cons_of_mem _ (List.mem_append_right _ (h))) hown hT.1 hW cf_e6 rfl 23 (by decide) (hts (.fieldLink RX6 70 "GameCafeModel" "thrown" "I") (List.mem_of_getElem? (i := 1) rfl)) (fun _ h9 => h9) (congrArg (fun x => some (Value.int x)) (by simp [cf_s3, cf_g2, upd] : (cf_s3 S 6 0 23 2) 6 0 23 = 2)) dX6_setGame_52 ?_
        refine lv_if_ne (tgt := 80) hx hb dX6_setGame_55 (by decide) (fun c55_8 => ?_) (fun c55_8 => (by first | exact absurd (by decide) c55_8 | exact absurd c55_8 (by decide)))
        exact W.vret hx hb hr (fun t9 ht9 hw9 => ⟨⟨(cf_s3 S 6 0 23 2), rfl, Or.inr (Or.inl ⟨hA, fun q => b2 q.2.1, rfl⟩), cf_W.re ht9 hW⟩, hS.F ht9⟩) hS.2.2 dX6_setGame_80
      · have b2 := k2.t c29_7
        refine lv_iload hx hb dX6_setGame_32 (lv_at hl 4 rfl) ?_
        refine lv_iconst (v := 1) hx hb dX6_setGame_34 (by decide) ?_
        refine lv_bipush (v := 60) hx hb dX6_setGame_35 (by decide) ?_
        refine va_calli (va_runS (As := [.int a3, .int 1, .int 60]) (rest := [.ref (ad 6 0)]) ⟨hx, hb, hml, hown, hts⟩ (c_X6_in l D cT z ad _ a3 1 60) (va_cwS 3 hts gX6_setGame_X6_in rfl rfl rfl (by decide +kernel) ⟨Nat.le_of_ble_eq_true rfl, Nat.le_of_ble_eq_true rfl⟩) (cf_preS hT hS hW) rfl rfl hl.1 rfl (lv_room (Nat.le_of_ble_eq_true rfl)) dX6_setGame_37 ⟨Nat.le_of_ble_eq_true rfl, Nat.le_of_ble_eq_true rfl⟩) hS (fun _ _ h => h) (fun _ h => h) (fun r9 ur9 t9 H locs ht hvm hw hW hz1 hk1 hS => ?_)
        have hW := cf_W.er ht hW
        have k3 := hw
        refine lv_if_ne (tgt := 47) hx hb dX6_setGame_40 (by decide) (fun c40_10 => ?_) (fun c40_10 => ?_)
        · have b3 := k3.t c40_10
          refine lv_iconst (v := 0) hx hb dX6_setGame_47 (by decide) ?_
          refine cf_putE (v := .int 0) (ty := .int) (ci := 6) (C := RX6) (T := TX6) (N := 24) hx hb hts (fun _ h => List.mem_cons_of_mem _ (List.mem_append_right _ (h))) tyX6 tyX6_ok nmX6 hown hT.1 hW hS cf_e6 rfl 23 (by decide) (hts (.fieldLink RX6 70 "GameCafeModel" "thrown" "I") (List.mem_of_getElem? (i := 1) rfl)) (fun _ h9 => h9) rfl (by decide +kernel) rfl rfl (Nat.le_of_ble_eq_true rfl) dX6_setGame_48 (E2 := (cf_E cT nc ng (cf_s3 S 6 0 23 0) P O ad)) (cf_upS 6 0 (upd (S 6 0) 23 0) rfl) (fun H locs hW hS => ?_)
          refine lv_aload_n hx hb dX6_setGame_51 rfl (lv_at hl 0 rfl) ?_
          refine cf_get (v := .int 0) (ci := 6) (C := RX6) (T := TX6) (N := 24) hx hb hts (fun _ h => List.mem_cons_of_mem _ (List.mem_append_right _ (h))) hown hT.1 hW cf_e6 rfl 23 (by decide) (hts (.fieldLink RX6 70 "GameCafeModel" "thrown" "I") (List.mem_of_getElem? (i := 1) rfl)) (fun _ h9 => h9) (congrArg (fun x => some (Value.int x)) (by simp [cf_s3, cf_g2, upd] : (cf_s3 S 6 0 23 0) 6 0 23 = 0)) dX6_setGame_52 ?_
          refine lv_if_ne (tgt := 80) hx hb dX6_setGame_55 (by decide) (fun c55_11 => (by first | exact absurd c55_11 (by decide) | exact absurd (by decide) c55_11)) (fun c55_11 => ?_)
          obtain ⟨j, hj, hxj⟩ := hA
          refine lv_aload_n hx hb dX6_setGame_58 rfl (lv_at hl 0 rfl) ?_
          refine cf_get (v := .ref (ad 17 1)) (ci := 6) (C := RX6) (T := TX6) (N := 24) hx hb hts (fun _ h => List.mem_cons_of_mem _ (List.mem_append_right _ (h))) hown hT.1 hW cf_e6 rfl 1 (by decide) (hts (.fieldLink RX6 7 "GameCafeModel" "leasts" "[I") (List.mem_of_getElem? (i := 2) rfl)) (fun _ h9 => h9) rfl dX6_setGame_59 ?_
          refine lv_iload_n hx hb dX6_setGame_62 rfl (lv_at hl 1 rfl) ?_
          refine lv_iload_n hx hb dX6_setGame_63 rfl (lv_at hl 2 rfl) ?_
          refine cf_istN (t0 := 0) (n := 5) (f := (cf_s3 S 6 0 23 0) 17 1) hx hb hT.1 hW hS (cf_e17 (i := 1) (by decide)) rfl j hxj hj (by decide) dX6_setGame_64 (E2 := (cf_E cT nc ng (cf_s3 (cf_s3 S 6 0 23 0) 17 1 j a1) P O ad)) (cf_upS 17 1 (upd ((cf_s3 S 6 0 23 0) 17 1) j a1) (cf_c17 (i := 1) (by decide))) (fun H locs hW hS => ?_)
          refine lv_aload_n hx hb dX6_setGame_65 rfl (lv_at hl 0 rfl) ?_
          refine cf_get (v := .ref (ad 17 2)) (ci := 6) (C := RX6) (T := TX6) (N := 24) hx hb hts (fun _ h => List.mem_cons_of_mem _ (List.mem_append_right _ (h))) hown hT.1 hW cf_e6 rfl 2 (by decide) (hts (.fieldLink RX6 13 "GameCafeModel" "mosts" "[I") (List.mem_of_getElem? (i := 3) rfl)) (fun _ h9 => h9) rfl dX6_setGame_66 ?_
          refine lv_iload_n hx hb dX6_setGame_69 rfl (lv_at hl 1 rfl) ?_
          refine lv_iload_n hx hb dX6_setGame_70 rfl (lv_at hl 3 rfl) ?_
          refine cf_istN (t0 := 0) (n := 5) (f := (cf_s3 (cf_s3 S 6 0 23 0) 17 1 j a1) 17 2) hx hb hT.1 hW hS (cf_e17 (i := 2) (by decide)) rfl j hxj hj (by decide) dX6_setGame_71 (E2 := (cf_E cT nc ng (cf_s3 (cf_s3 (cf_s3 S 6 0 23 0) 17 1 j a1) 17 2 j a2) P O ad)) (cf_upS 17 2 (upd ((cf_s3 (cf_s3 S 6 0 23 0) 17 1 j a1) 17 2) j a2) (cf_c17 (i := 2) (by decide))) (fun H locs hW hS => ?_)
          refine lv_aload_n hx hb dX6_setGame_72 rfl (lv_at hl 0 rfl) ?_
          refine cf_get (v := .ref (ad 17 3)) (ci := 6) (C := RX6) (T := TX6) (N := 24) hx hb hts (fun _ h => List.mem_cons_of_mem _ (List.mem_append_right _ (h))) hown hT.1 hW cf_e6 rfl 3 (by decide) (hts (.fieldLink RX6 16 "GameCafeModel" "minutes" "[I") (List.mem_of_getElem? (i := 4) rfl)) (fun _ h9 => h9) rfl dX6_setGame_73 ?_
          refine lv_iload_n hx hb dX6_setGame_76 rfl (lv_at hl 1 rfl) ?_
          refine lv_iload hx hb dX6_setGame_77 (lv_at hl 4 rfl) ?_
          refine cf_istN (t0 := 0) (n := 5) (f := (cf_s3 (cf_s3 (cf_s3 S 6 0 23 0) 17 1 j a1) 17 2 j a2) 17 3) hx hb hT.1 hW hS (cf_e17 (i := 3) (by decide)) rfl j hxj hj (by decide) dX6_setGame_79 (E2 := (cf_E cT nc ng (cf_s3 (cf_s3 (cf_s3 (cf_s3 S 6 0 23 0) 17 1 j a1) 17 2 j a2) 17 3 j a3) P O ad)) (cf_upS 17 3 (upd ((cf_s3 (cf_s3 (cf_s3 S 6 0 23 0) 17 1 j a1) 17 2 j a2) 17 3) j a3) (cf_c17 (i := 3) (by decide))) (fun H locs hW hS => ?_)
          exact W.vret hx hb hr (fun t9 ht9 hw9 => ⟨⟨(cf_s3 (cf_s3 (cf_s3 (cf_s3 S 6 0 23 0) 17 1 j a1) 17 2 j a2) 17 3 j a3), rfl, Or.inr (Or.inr ⟨j, hj, hxj, ⟨b1, b2, b3⟩, rfl⟩), cf_W.re ht9 hW⟩, hS.F ht9⟩) hS.2.2 dX6_setGame_80
        · have b3 := k3.f c40_10
          refine lv_iconst (v := 2) hx hb dX6_setGame_43 (by decide) ?_
          refine lv_goto (tgt := 48) hx hb dX6_setGame_44 (by decide) ?_
          refine cf_putE (v := .int 2) (ty := .int) (ci := 6) (C := RX6) (T := TX6) (N := 24) hx hb hts (fun _ h => List.mem_cons_of_mem _ (List.mem_append_right _ (h))) tyX6 tyX6_ok nmX6 hown hT.1 hW hS cf_e6 rfl 23 (by decide) (hts (.fieldLink RX6 70 "GameCafeModel" "thrown" "I") (List.mem_of_getElem? (i := 1) rfl)) (fun _ h9 => h9) rfl (by decide +kernel) rfl rfl (Nat.le_of_ble_eq_true rfl) dX6_setGame_48 (E2 := (cf_E cT nc ng (cf_s3 S 6 0 23 2) P O ad)) (cf_upS 6 0 (upd (S 6 0) 23 2) rfl) (fun H locs hW hS => ?_)
          refine lv_aload_n hx hb dX6_setGame_51 rfl (lv_at hl 0 rfl) ?_
          refine cf_get (v := .int 2) (ci := 6) (C := RX6) (T := TX6) (N := 24) hx hb hts (fun _ h => List.mem_cons_of_mem _ (List.mem_append_right _ (h))) hown hT.1 hW cf_e6 rfl 23 (by decide) (hts (.fieldLink RX6 70 "GameCafeModel" "thrown" "I") (List.mem_of_getElem? (i := 1) rfl)) (fun _ h9 => h9) (congrArg (fun x => some (Value.int x)) (by simp [cf_s3, cf_g2, upd] : (cf_s3 S 6 0 23 2) 6 0 23 = 2)) dX6_setGame_52 ?_
          refine lv_if_ne (tgt := 80) hx hb dX6_setGame_55 (by decide) (fun c55_12 => ?_) (fun c55_12 => (by first | exact absurd (by decide) c55_12 | exact absurd c55_12 (by decide)))
          exact W.vret hx hb hr (fun t9 ht9 hw9 => ⟨⟨(cf_s3 S 6 0 23 2), rfl, Or.inr (Or.inl ⟨hA, fun q => b3 q.2.2, rfl⟩), cf_W.re ht9 hW⟩, hS.F ht9⟩) hS.2.2 dX6_setGame_80
  · have hA := h0.f c5_2
    refine lv_iconst (v := 1) hx hb dX6_setGame_8 (by decide) ?_
    refine lv_goto (tgt := 48) hx hb dX6_setGame_9 (by decide) ?_
    refine cf_putE (v := .int 1) (ty := .int) (ci := 6) (C := RX6) (T := TX6) (N := 24) hx hb hts (fun _ h => List.mem_cons_of_mem _ (List.mem_append_right _ (h))) tyX6 tyX6_ok nmX6 hown hT.1 hW hS cf_e6 rfl 23 (by decide) (hts (.fieldLink RX6 70 "GameCafeModel" "thrown" "I") (List.mem_of_getElem? (i := 1) rfl)) (fun _ h9 => h9) rfl (by decide +kernel) rfl rfl (Nat.le_of_ble_eq_true rfl) dX6_setGame_48 (E2 := (cf_E cT nc ng (cf_s3 S 6 0 23 1) P O ad)) (cf_upS 6 0 (upd (S 6 0) 23 1) rfl) (fun H locs hW hS => ?_)
    refine lv_aload_n hx hb dX6_setGame_51 rfl (lv_at hl 0 rfl) ?_
    refine cf_get (v := .int 1) (ci := 6) (C := RX6) (T := TX6) (N := 24) hx hb hts (fun _ h => List.mem_cons_of_mem _ (List.mem_append_right _ (h))) hown hT.1 hW cf_e6 rfl 23 (by decide) (hts (.fieldLink RX6 70 "GameCafeModel" "thrown" "I") (List.mem_of_getElem? (i := 1) rfl)) (fun _ h9 => h9) (congrArg (fun x => some (Value.int x)) (by simp [cf_s3, cf_g2, upd] : (cf_s3 S 6 0 23 1) 6 0 23 = 1)) dX6_setGame_52 ?_
    refine lv_if_ne (tgt := 80) hx hb dX6_setGame_55 (by decide) (fun c55_13 => ?_) (fun c55_13 => (by first | exact absurd (by decide) c55_13 | exact absurd c55_13 (by decide)))
    exact W.vret hx hb hr (fun t9 ht9 hw9 => ⟨⟨(cf_s3 S 6 0 23 1), rfl, Or.inl ⟨hA, rfl⟩, cf_W.re ht9 hW⟩, hS.F ht9⟩) hS.2.2 dX6_setGame_80
set_option maxHeartbeats 4000000 in
set_option maxRecDepth 100000 in
/-- X6_setParts -/
theorem c_X6_setParts (l : Launch) (D : va_G) (cT : Nat → ClassId) (z : Nat) (ad : cf_Ad) (nc ng : Nat) (S : cf_S) (P : cf_Pt) (O : Nat → Int64) (x y a1 a2 : Int32) : Met l yX6_setParts wsX6_setParts ({ frames := 2, cells := 0, slots := 0, locals := 42 }) (va_Pc [.ref (ad 6 0), .int x, .int y, .int a1, .int a2] (cf_P D cT z (cf_E cT nc ng S P O ad) ad)) (cf_Qv D z (fun (T : cf_S) => (¬ (cf_ix x 5 ∧ cf_ix y 4) ∧ T = (cf_s3 S 6 0 23 1)) ∨ ((cf_ix x 5 ∧ cf_ix y 4) ∧ ¬ (cf_rg a1 0 20 ∧ cf_rg a2 0 a1) ∧ T = (cf_s3 S 6 0 23 2)) ∨ ∃ j k : Nat, j < 5 ∧ x = nI j ∧ k < 4 ∧ y = nI k ∧ (cf_rg a1 0 20 ∧ cf_rg a2 0 a1) ∧ T = cf_s3 (cf_s3 (cf_s3 S 6 0 23 0) 17 4 (4 * j + k) a1) 17 5 (4 * j + k) a2) (fun T => cf_E cT nc ng T P O ad) (fun _ => ad)) 0 0 (fun q => z ≤ q) := by
  refine Met.ofW (cc := cX6_setParts) (maxL := 5) (ret := none) (by decide) rfl ?_
  intro p e s m args below meth c s₁ B hml hv
  obtain ⟨rfl, hW, hT⟩ := hv
  have hx := B.exec
  have hb := B.bytes
  have hr := B.returns
  have hts := atoms_spec (ws := wsX6_setParts) B.pre
  have hown : s.vm.findClass RX6 = some m.cls := findClass_of_methodNamed B.named
  have hlocks := B.notSynchronized
  have hS : va_S (fun q => z ≤ q) s.heap s.heap [] := va_S.rf
  have hl := lv_entry ([.ref (ad 6 0), .int x, .int y, .int a1, .int a2]) (n := 5) (Nat.le_of_ble_eq_true rfl)
  rw [lg_entry_eq]
  generalize (lg_sl ([.ref (ad 6 0), .int x, .int y, .int a1, .int a2]) ++ List.replicate (5 - (lg_sl ([.ref (ad 6 0), .int x, .int y, .int a1, .int a2])).length) Slot.unset).toArray = ls at hl ⊢
  have hl : lv_has ls 5 [(0, .ref (ad 6 0)), (1, .int x), (2, .int y), (3, .int a1), (4, .int a2)] := hl
  skip
  refine lv_aload_n hx hb dX6_setParts_0 rfl (lv_at hl 0 rfl) ?_
  refine lv_iload_n hx hb dX6_setParts_1 rfl (lv_at hl 1 rfl) ?_
  refine va_calli (va_runS (As := [.int x]) (rest := [.ref (ad 6 0)]) ⟨hx, hb, hml, hown, hts⟩ (c_X6_isGame l D cT z ad _ x) (va_cwS 1 hts gX6_setParts_X6_isGame rfl rfl rfl (by decide +kernel) ⟨Nat.le_of_ble_eq_true rfl, Nat.le_of_ble_eq_true rfl⟩) (cf_preS hT hS hW) rfl rfl hl.1 rfl (lv_room (Nat.le_of_ble_eq_true rfl)) dX6_setParts_2 ⟨Nat.le_of_ble_eq_true rfl, Nat.le_of_ble_eq_true rfl⟩) hS (fun _ _ h => h) (fun _ h => h) (fun r1 ur1 t9 H locs ht hvm hw hW hz1 hk1 hS => ?_)
  have hW := cf_W.er ht hW
  have h0 := hw
  refine lv_if_eq (tgt := 17) hx hb dX6_setParts_5 (by decide) (fun c5_2 => ?_) (fun c5_2 => ?_)
  · have hi := h0.f c5_2
    refine lv_iconst (v := 1) hx hb dX6_setParts_17 (by decide) ?_
    refine lv_goto (tgt := 46) hx hb dX6_setParts_18 (by decide) ?_
    refine cf_putE (v := .int 1) (ty := .int) (ci := 6) (C := RX6) (T := TX6) (N := 24) hx hb hts (fun _ h => List.mem_cons_of_mem _ (List.mem_append_right _ (h))) tyX6 tyX6_ok nmX6 hown hT.1 hW hS cf_e6 rfl 23 (by decide) (hts (.fieldLink RX6 70 "GameCafeModel" "thrown" "I") (List.mem_of_getElem? (i := 1) rfl)) (fun _ h9 => h9) rfl (by decide +kernel) rfl rfl (Nat.le_of_ble_eq_true rfl) dX6_setParts_46 (E2 := (cf_E cT nc ng (cf_s3 S 6 0 23 1) P O ad)) (cf_upS 6 0 (upd (S 6 0) 23 1) rfl) (fun H locs hW hS => ?_)
    refine lv_aload_n hx hb dX6_setParts_49 rfl (lv_at hl 0 rfl) ?_
    refine cf_get (v := .int 1) (ci := 6) (C := RX6) (T := TX6) (N := 24) hx hb hts (fun _ h => List.mem_cons_of_mem _ (List.mem_append_right _ (h))) hown hT.1 hW cf_e6 rfl 23 (by decide) (hts (.fieldLink RX6 70 "GameCafeModel" "thrown" "I") (List.mem_of_getElem? (i := 1) rfl)) (fun _ h9 => h9) (congrArg (fun x => some (Value.int x)) (by simp [cf_s3, cf_g2, upd] : (cf_s3 S 6 0 23 1) 6 0 23 = 1)) dX6_setParts_50 ?_
    refine lv_if_ne (tgt := 79) hx hb dX6_setParts_53 (by decide) (fun c53_3 => ?_) (fun c53_3 => (by first | exact absurd (by decide) c53_3 | exact absurd c53_3 (by decide)))
    exact W.vret hx hb hr (fun t9 ht9 hw9 => ⟨⟨(cf_s3 S 6 0 23 1), rfl, Or.inl ⟨fun q => hi q.1, rfl⟩, cf_W.re ht9 hW⟩, hS.F ht9⟩) hS.2.2 dX6_setParts_79
  · have hi := h0.t c5_2
    refine lv_iload_n hx hb dX6_setParts_8 rfl (lv_at hl 2 rfl) ?_
    refine lv_iconst (v := 0) hx hb dX6_setParts_9 (by decide) ?_
    refine lv_iconst (v := 3) hx hb dX6_setParts_10 (by decide) ?_
    refine va_calli (va_runS (As := [.int y, .int 0, .int 3]) (rest := [.ref (ad 6 0)]) ⟨hx, hb, hml, hown, hts⟩ (c_X6_in l D cT z ad _ y 0 3) (va_cwS 3 hts gX6_setParts_X6_in rfl rfl rfl (by decide +kernel) ⟨Nat.le_of_ble_eq_true rfl, Nat.le_of_ble_eq_true rfl⟩) (cf_preS hT hS hW) rfl rfl hl.1 rfl (lv_room (Nat.le_of_ble_eq_true rfl)) dX6_setParts_11 ⟨Nat.le_of_ble_eq_true rfl, Nat.le_of_ble_eq_true rfl⟩) hS (fun _ _ h => h) (fun _ h => h) (fun r4 ur4 t9 H locs ht hvm hw hW hz1 hk1 hS => ?_)
    have hW := cf_W.er ht hW
    have k0 := hw
    have k0 := k0.iff (cf_rg_ix (n := 4) (by decide) rfl)
    refine lv_if_ne (tgt := 21) hx hb dX6_setParts_14 (by decide) (fun c14_5 => ?_) (fun c14_5 => ?_)
    · have hy := k0.t c14_5
      refine lv_iload_n hx hb dX6_setParts_21 rfl (lv_at hl 3 rfl) ?_
      refine lv_iconst (v := 0) hx hb dX6_setParts_22 (by decide) ?_
      refine lv_bipush (v := 20) hx hb dX6_setParts_23 (by decide) ?_
      refine va_calli (va_runS (As := [.int a1, .int 0, .int 20]) (rest := [.ref (ad 6 0)]) ⟨hx, hb, hml, hown, hts⟩ (c_X6_in l D cT z ad _ a1 0 20) (va_cwS 3 hts gX6_setParts_X6_in rfl rfl rfl (by decide +kernel) ⟨Nat.le_of_ble_eq_true rfl, Nat.le_of_ble_eq_true rfl⟩) (cf_preS hT hS hW) rfl rfl hl.1 rfl (lv_room (Nat.le_of_ble_eq_true rfl)) dX6_setParts_25 ⟨Nat.le_of_ble_eq_true rfl, Nat.le_of_ble_eq_true rfl⟩) hS (fun _ _ h => h) (fun _ h => h) (fun r6 ur6 t9 H locs ht hvm hw hW hz1 hk1 hS => ?_)
      have hW := cf_W.er ht hW
      have k1 := hw
      refine lv_if_eq (tgt := 41) hx hb dX6_setParts_28 (by decide) (fun c28_7 => ?_) (fun c28_7 => ?_)
      · have b1 := k1.f c28_7
        refine lv_iconst (v := 2) hx hb dX6_setParts_41 (by decide) ?_
        refine lv_goto (tgt := 46) hx hb dX6_setParts_42 (by decide) ?_
        refine cf_putE (v := .int 2) (ty := .int) (ci := 6) (C := RX6) (T := TX6) (N := 24) hx hb hts (fun _ h => List.mem_cons_of_mem _ (List.mem_append_right _ (h))) tyX6 tyX6_ok nmX6 hown hT.1 hW hS cf_e6 rfl 23 (by decide) (hts (.fieldLink RX6 70 "GameCafeModel" "thrown" "I") (List.mem_of_getElem? (i := 1) rfl)) (fun _ h9 => h9) rfl (by decide +kernel) rfl rfl (Nat.le_of_ble_eq_true rfl) dX6_setParts_46 (E2 := (cf_E cT nc ng (cf_s3 S 6 0 23 2) P O ad)) (cf_upS 6 0 (upd (S 6 0) 23 2) rfl) (fun H locs hW hS => ?_)
        refine lv_aload_n hx hb dX6_setParts_49 rfl (lv_at hl 0 rfl) ?_
        refine cf_get (v := .int 2) (ci := 6) (C := RX6) (T := TX6) (N := 24) hx hb hts (fun _ h => List.mem_cons_of_mem _ (List.mem_append_right _ (h))) hown hT.1 hW cf_e6 rfl 23 (by decide) (hts (.fieldLink RX6 70 "GameCafeModel" "thrown" "I") (List.mem_of_getElem? (i := 1) rfl)) (fun _ h9 => h9) (congrArg (fun x => some (Value.int x)) (by simp [cf_s3, cf_g2, upd] : (cf_s3 S 6 0 23 2) 6 0 23 = 2)) dX6_setParts_50 ?_
        refine lv_if_ne (tgt := 79) hx hb dX6_setParts_53 (by decide) (fun c53_8 => ?_) (fun c53_8 => (by first | exact absurd (by decide) c53_8 | exact absurd c53_8 (by decide)))
        exact W.vret hx hb hr (fun t9 ht9 hw9 => ⟨⟨(cf_s3 S 6 0 23 2), rfl, Or.inr (Or.inl ⟨⟨hi, hy⟩, fun q => b1 q.1, rfl⟩), cf_W.re ht9 hW⟩, hS.F ht9⟩) hS.2.2 dX6_setParts_79
      · have b1 := k1.t c28_7
        refine lv_iload hx hb dX6_setParts_31 (lv_at hl 4 rfl) ?_
        refine lv_iconst (v := 0) hx hb dX6_setParts_33 (by decide) ?_
        refine lv_iload_n hx hb dX6_setParts_34 rfl (lv_at hl 3 rfl) ?_
        refine va_calli (va_runS (As := [.int a2, .int 0, .int a1]) (rest := [.ref (ad 6 0)]) ⟨hx, hb, hml, hown, hts⟩ (c_X6_in l D cT z ad _ a2 0 a1) (va_cwS 3 hts gX6_setParts_X6_in rfl rfl rfl (by decide +kernel) ⟨Nat.le_of_ble_eq_true rfl, Nat.le_of_ble_eq_true rfl⟩) (cf_preS hT hS hW) rfl rfl hl.1 rfl (lv_room (Nat.le_of_ble_eq_true rfl)) dX6_setParts_35 ⟨Nat.le_of_ble_eq_true rfl, Nat.le_of_ble_eq_true rfl⟩) hS (fun _ _ h => h) (fun _ h => h) (fun r9 ur9 t9 H locs ht hvm hw hW hz1 hk1 hS => ?_)
        have hW := cf_W.er ht hW
        have k2 := hw
        refine lv_if_ne (tgt := 45) hx hb dX6_setParts_38 (by decide) (fun c38_10 => ?_) (fun c38_10 => ?_)
        · have b2 := k2.t c38_10
          refine lv_iconst (v := 0) hx hb dX6_setParts_45 (by decide) ?_
          refine cf_putE (v := .int 0) (ty := .int) (ci := 6) (C := RX6) (T := TX6) (N := 24) hx hb hts (fun _ h => List.mem_cons_of_mem _ (List.mem_append_right _ (h))) tyX6 tyX6_ok nmX6 hown hT.1 hW hS cf_e6 rfl 23 (by decide) (hts (.fieldLink RX6 70 "GameCafeModel" "thrown" "I") (List.mem_of_getElem? (i := 1) rfl)) (fun _ h9 => h9) rfl (by decide +kernel) rfl rfl (Nat.le_of_ble_eq_true rfl) dX6_setParts_46 (E2 := (cf_E cT nc ng (cf_s3 S 6 0 23 0) P O ad)) (cf_upS 6 0 (upd (S 6 0) 23 0) rfl) (fun H locs hW hS => ?_)
          refine lv_aload_n hx hb dX6_setParts_49 rfl (lv_at hl 0 rfl) ?_
          refine cf_get (v := .int 0) (ci := 6) (C := RX6) (T := TX6) (N := 24) hx hb hts (fun _ h => List.mem_cons_of_mem _ (List.mem_append_right _ (h))) hown hT.1 hW cf_e6 rfl 23 (by decide) (hts (.fieldLink RX6 70 "GameCafeModel" "thrown" "I") (List.mem_of_getElem? (i := 1) rfl)) (fun _ h9 => h9) (congrArg (fun x => some (Value.int x)) (by simp [cf_s3, cf_g2, upd] : (cf_s3 S 6 0 23 0) 6 0 23 = 0)) dX6_setParts_50 ?_
          refine lv_if_ne (tgt := 79) hx hb dX6_setParts_53 (by decide) (fun c53_11 => (by first | exact absurd c53_11 (by decide) | exact absurd (by decide) c53_11)) (fun c53_11 => ?_)
          obtain ⟨j, hj, hxj⟩ := hi
          obtain ⟨k, hk, hyk⟩ := hy
          refine lv_aload_n hx hb dX6_setParts_56 rfl (lv_at hl 0 rfl) ?_
          refine cf_get (v := .ref (ad 17 4)) (ci := 6) (C := RX6) (T := TX6) (N := 24) hx hb hts (fun _ h => List.mem_cons_of_mem _ (List.mem_append_right _ (h))) hown hT.1 hW cf_e6 rfl 4 (by decide) (hts (.fieldLink RX6 19 "GameCafeModel" "wholes" "[I") (List.mem_of_getElem? (i := 2) rfl)) (fun _ h9 => h9) rfl dX6_setParts_57 ?_
          refine lv_iconst (v := 4) hx hb dX6_setParts_60 (by decide) ?_
          refine lv_iload_n hx hb dX6_setParts_61 rfl (lv_at hl 1 rfl) ?_
          refine lv_imul hx hb dX6_setParts_62 ?_
          refine lv_iload_n hx hb dX6_setParts_63 rfl (lv_at hl 2 rfl) ?_
          refine lv_iadd hx hb dX6_setParts_64 ?_
          refine lv_iload_n hx hb dX6_setParts_65 rfl (lv_at hl 3 rfl) ?_
          refine cf_istN (t0 := 0) (n := 20) (f := (cf_s3 S 6 0 23 0) 17 4) hx hb hT.1 hW hS (cf_e17 (i := 4) (by decide)) rfl (4 * j + k) (cf_ix4 hxj hyk) (by omega) (by decide) dX6_setParts_66 (E2 := (cf_E cT nc ng (cf_s3 (cf_s3 S 6 0 23 0) 17 4 (4 * j + k) a1) P O ad)) (cf_upS 17 4 (upd ((cf_s3 S 6 0 23 0) 17 4) (4 * j + k) a1) (cf_c17 (i := 4) (by decide))) (fun H locs hW hS => ?_)
          refine lv_aload_n hx hb dX6_setParts_67 rfl (lv_at hl 0 rfl) ?_
          refine cf_get (v := .ref (ad 17 5)) (ci := 6) (C := RX6) (T := TX6) (N := 24) hx hb hts (fun _ h => List.mem_cons_of_mem _ (List.mem_append_right _ (h))) hown hT.1 hW cf_e6 rfl 5 (by decide) (hts (.fieldLink RX6 22 "GameCafeModel" "needs" "[I") (List.mem_of_getElem? (i := 3) rfl)) (fun _ h9 => h9) rfl dX6_setParts_68 ?_
          refine lv_iconst (v := 4) hx hb dX6_setParts_71 (by decide) ?_
          refine lv_iload_n hx hb dX6_setParts_72 rfl (lv_at hl 1 rfl) ?_
          refine lv_imul hx hb dX6_setParts_73 ?_
          refine lv_iload_n hx hb dX6_setParts_74 rfl (lv_at hl 2 rfl) ?_
          refine lv_iadd hx hb dX6_setParts_75 ?_
          refine lv_iload hx hb dX6_setParts_76 (lv_at hl 4 rfl) ?_
          refine cf_istN (t0 := 0) (n := 20) (f := (cf_s3 (cf_s3 S 6 0 23 0) 17 4 (4 * j + k) a1) 17 5) hx hb hT.1 hW hS (cf_e17 (i := 5) (by decide)) rfl (4 * j + k) (cf_ix4 hxj hyk) (by omega) (by decide) dX6_setParts_78 (E2 := (cf_E cT nc ng (cf_s3 (cf_s3 (cf_s3 S 6 0 23 0) 17 4 (4 * j + k) a1) 17 5 (4 * j + k) a2) P O ad)) (cf_upS 17 5 (upd ((cf_s3 (cf_s3 S 6 0 23 0) 17 4 (4 * j + k) a1) 17 5) (4 * j + k) a2) (cf_c17 (i := 5) (by decide))) (fun H locs hW hS => ?_)
          exact W.vret hx hb hr (fun t9 ht9 hw9 => ⟨⟨(cf_s3 (cf_s3 (cf_s3 S 6 0 23 0) 17 4 (4 * j + k) a1) 17 5 (4 * j + k) a2), rfl, Or.inr (Or.inr ⟨j, k, hj, hxj, hk, hyk, ⟨b1, b2⟩, rfl⟩), cf_W.re ht9 hW⟩, hS.F ht9⟩) hS.2.2 dX6_setParts_79
        · have b2 := k2.f c38_10
          refine lv_iconst (v := 2) hx hb dX6_setParts_41 (by decide) ?_
          refine lv_goto (tgt := 46) hx hb dX6_setParts_42 (by decide) ?_
          refine cf_putE (v := .int 2) (ty := .int) (ci := 6) (C := RX6) (T := TX6) (N := 24) hx hb hts (fun _ h => List.mem_cons_of_mem _ (List.mem_append_right _ (h))) tyX6 tyX6_ok nmX6 hown hT.1 hW hS cf_e6 rfl 23 (by decide) (hts (.fieldLink RX6 70 "GameCafeModel" "thrown" "I") (List.mem_of_getElem? (i := 1) rfl)) (fun _ h9 => h9) rfl (by decide +kernel) rfl rfl (Nat.le_of_ble_eq_true rfl) dX6_setParts_46 (E2 := (cf_E cT nc ng (cf_s3 S 6 0 23 2) P O ad)) (cf_upS 6 0 (upd (S 6 0) 23 2) rfl) (fun H locs hW hS => ?_)
          refine lv_aload_n hx hb dX6_setParts_49 rfl (lv_at hl 0 rfl) ?_
          refine cf_get (v := .int 2) (ci := 6) (C := RX6) (T := TX6) (N := 24) hx hb hts (fun _ h => List.mem_cons_of_mem _ (List.mem_append_right _ (h))) hown hT.1 hW cf_e6 rfl 23 (by decide) (hts (.fieldLink RX6 70 "GameCafeModel" "thrown" "I") (List.mem_of_getElem? (i := 1) rfl)) (fun _ h9 => h9) (congrArg (fun x => some (Value.int x)) (by simp [cf_s3, cf_g2, upd] : (cf_s3 S 6 0 23 2) 6 0 23 = 2)) dX6_setParts_50 ?_
          refine lv_if_ne (tgt := 79) hx hb dX6_setParts_53 (by decide) (fun c53_12 => ?_) (fun c53_12 => (by first | exact absurd (by decide) c53_12 | exact absurd c53_12 (by decide)))
          exact W.vret hx hb hr (fun t9 ht9 hw9 => ⟨⟨(cf_s3 S 6 0 23 2), rfl, Or.inr (Or.inl ⟨⟨hi, hy⟩, fun q => b2 q.2, rfl⟩), cf_W.re ht9 hW⟩, hS.F ht9⟩) hS.2.2 dX6_setParts_79
    · have hy := k0.f c14_5
      refine lv_iconst (v := 1) hx hb dX6_setParts_17 (by decide) ?_
      refine lv_goto (tgt := 46) hx hb dX6_setParts_18 (by decide) ?_
      refine cf_putE (v := .int 1) (ty := .int) (ci := 6) (C := RX6) (T := TX6) (N := 24) hx hb hts (fun _ h => List.mem_cons_of_mem _ (List.mem_append_right _ (h))) tyX6 tyX6_ok nmX6 hown hT.1 hW hS cf_e6 rfl 23 (by decide) (hts (.fieldLink RX6 70 "GameCafeModel" "thrown" "I") (List.mem_of_getElem? (i := 1) rfl)) (fun _ h9 => h9) rfl (by decide +kernel) rfl rfl (Nat.le_of_ble_eq_true rfl) dX6_setParts_46 (E2 := (cf_E cT nc ng (cf_s3 S 6 0 23 1) P O ad)) (cf_upS 6 0 (upd (S 6 0) 23 1) rfl) (fun H locs hW hS => ?_)
      refine lv_aload_n hx hb dX6_setParts_49 rfl (lv_at hl 0 rfl) ?_
      refine cf_get (v := .int 1) (ci := 6) (C := RX6) (T := TX6) (N := 24) hx hb hts (fun _ h => List.mem_cons_of_mem _ (List.mem_append_right _ (h))) hown hT.1 hW cf_e6 rfl 23 (by decide) (hts (.fieldLink RX6 70 "GameCafeModel" "thrown" "I") (List.mem_of_getElem? (i := 1) rfl)) (fun _ h9 => h9) (congrArg (fun x => some (Value.int x)) (by simp [cf_s3, cf_g2, upd] : (cf_s3 S 6 0 23 1) 6 0 23 = 1)) dX6_setParts_50 ?_
      refine lv_if_ne (tgt := 79) hx hb dX6_setParts_53 (by decide) (fun c53_13 => ?_) (fun c53_13 => (by first | exact absurd (by decide) c53_13 | exact absurd c53_13 (by decide)))
      exact W.vret hx hb hr (fun t9 ht9 hw9 => ⟨⟨(cf_s3 S 6 0 23 1), rfl, Or.inl ⟨fun q => hy q.2, rfl⟩, cf_W.re ht9 hW⟩, hS.F ht9⟩) hS.2.2 dX6_setParts_79
set_option maxHeartbeats 4000000 in
set_option maxRecDepth 100000 in
/-- X6_setSeats -/
theorem c_X6_setSeats (l : Launch) (D : va_G) (cT : Nat → ClassId) (z : Nat) (ad : cf_Ad) (nc ng : Nat) (S : cf_S) (P : cf_Pt) (O : Nat → Int64) (x a1 : Int32) : Met l yX6_setSeats wsX6_setSeats ({ frames := 1, cells := 0, slots := 0, locals := 22 }) (va_Pc [.ref (ad 6 0), .int x, .int a1] (cf_P D cT z (cf_E cT nc ng S P O ad) ad)) (cf_Qi D z (fun (r : Int32) (T : cf_S) => (¬ cf_ix x 6 ∧ T = (cf_s3 S 6 0 23 1)) ∨ (cf_ix x 6 ∧ ¬ cf_rg a1 1 8 ∧ T = (cf_s3 S 6 0 23 2)) ∨ ∃ j : Nat, j < 6 ∧ x = nI j ∧ cf_rg a1 1 8 ∧ ((0 < S 17 8 j ∧ T = (cf_s3 S 6 0 23 3)) ∨ (S 17 8 j ≤ 0 ∧ r = S 17 7 j ∧ T = cf_s3 (cf_s3 S 6 0 23 0) 17 7 j a1))) (fun T => cf_E cT nc ng T P O ad) (fun _ => ad)) 0 0 (fun q => z ≤ q) := by
  refine Met.ofW (cc := cX6_setSeats) (maxL := 4) (ret := (some .int)) (by decide) rfl ?_
  intro p e s m args below meth c s₁ B hml hv
  obtain ⟨rfl, hW, hT⟩ := hv
  have hx := B.exec
  have hb := B.bytes
  have hr := B.returns
  have hts := atoms_spec (ws := wsX6_setSeats) B.pre
  have hown : s.vm.findClass RX6 = some m.cls := findClass_of_methodNamed B.named
  have hlocks := B.notSynchronized
  have hS : va_S (fun q => z ≤ q) s.heap s.heap [] := va_S.rf
  have hl := lv_entry ([.ref (ad 6 0), .int x, .int a1]) (n := 4) (Nat.le_of_ble_eq_true rfl)
  rw [lg_entry_eq]
  generalize (lg_sl ([.ref (ad 6 0), .int x, .int a1]) ++ List.replicate (4 - (lg_sl ([.ref (ad 6 0), .int x, .int a1])).length) Slot.unset).toArray = ls at hl ⊢
  have hl : lv_has ls 4 [(0, .ref (ad 6 0)), (1, .int x), (2, .int a1)] := hl
  skip
  refine lv_aload_n hx hb dX6_setSeats_0 rfl (lv_at hl 0 rfl) ?_
  refine lv_iload_n hx hb dX6_setSeats_1 rfl (lv_at hl 1 rfl) ?_
  refine lv_iconst (v := 0) hx hb dX6_setSeats_2 (by decide) ?_
  refine lv_iconst (v := 5) hx hb dX6_setSeats_3 (by decide) ?_
  refine va_calli (va_runS (As := [.int x, .int 0, .int 5]) (rest := [.ref (ad 6 0)]) ⟨hx, hb, hml, hown, hts⟩ (c_X6_in l D cT z ad _ x 0 5) (va_cwS 3 hts gX6_setSeats_X6_in rfl rfl rfl (by decide +kernel) ⟨Nat.le_of_ble_eq_true rfl, Nat.le_of_ble_eq_true rfl⟩) (cf_preS hT hS hW) rfl rfl hl.1 rfl (lv_room (Nat.le_of_ble_eq_true rfl)) dX6_setSeats_4 ⟨Nat.le_of_ble_eq_true rfl, Nat.le_of_ble_eq_true rfl⟩) hS (fun _ _ h => h) (fun _ h => h) (fun r1 ur1 t9 H locs ht hvm hw hW hz1 hk1 hS => ?_)
  have hW := cf_W.er ht hW
  have h0 := hw
  have h0 := h0.iff (cf_rg_ix (n := 6) (by decide) rfl)
  refine lv_if_ne (tgt := 14) hx hb dX6_setSeats_7 (by decide) (fun c7_2 => ?_) (fun c7_2 => ?_)
  · have hA := h0.t c7_2
    refine lv_iload_n hx hb dX6_setSeats_14 rfl (lv_at hl 2 rfl) ?_
    refine lv_iconst (v := 1) hx hb dX6_setSeats_15 (by decide) ?_
    refine lv_bipush (v := 8) hx hb dX6_setSeats_16 (by decide) ?_
    refine va_calli (va_runS (As := [.int a1, .int 1, .int 8]) (rest := [.ref (ad 6 0)]) ⟨hx, hb, hml, hown, hts⟩ (c_X6_in l D cT z ad _ a1 1 8) (va_cwS 3 hts gX6_setSeats_X6_in rfl rfl rfl (by decide +kernel) ⟨Nat.le_of_ble_eq_true rfl, Nat.le_of_ble_eq_true rfl⟩) (cf_preS hT hS hW) rfl rfl hl.1 rfl (lv_room (Nat.le_of_ble_eq_true rfl)) dX6_setSeats_18 ⟨Nat.le_of_ble_eq_true rfl, Nat.le_of_ble_eq_true rfl⟩) hS (fun _ _ h => h) (fun _ h => h) (fun r3 ur3 t9 H locs ht hvm hw hW hz1 hk1 hS => ?_)
    have hW := cf_W.er ht hW
    have k1 := hw
    refine lv_if_ne (tgt := 28) hx hb dX6_setSeats_21 (by decide) (fun c21_4 => ?_) (fun c21_4 => ?_)
    · have b1 := k1.t c21_4
      have hA0 := hA
      obtain ⟨j, hj, hxj⟩ := hA
      refine lv_aload_n hx hb dX6_setSeats_28 rfl (lv_at hl 0 rfl) ?_
      refine cf_get (v := .ref (ad 17 8)) (ci := 6) (C := RX6) (T := TX6) (N := 24) hx hb hts (fun _ h => List.mem_cons_of_mem _ (List.mem_append_right _ (h))) hown hT.1 hW cf_e6 rfl 8 (by decide) (hts (.fieldLink RX6 31 "GameCafeModel" "taken" "[I") (List.mem_of_getElem? (i := 1) rfl)) (fun _ h9 => h9) rfl dX6_setSeats_29 ?_
      refine lv_iload_n hx hb dX6_setSeats_32 rfl (lv_at hl 1 rfl) ?_
      refine cf_ildN (t0 := 0) (n := 6) (f := S 17 8) (v := (S 17 8 j)) hx hb hT.1 hW (cf_e17 (i := 8) (by decide)) rfl j hxj hj (by decide) dX6_setSeats_33 rfl ?_
      refine lv_if_le (tgt := 41) hx hb dX6_setSeats_34 (by decide) (fun c34_5 => ?_) (fun c34_5 => ?_)
      · refine lv_iconst (v := 0) hx hb dX6_setSeats_41 (by decide) ?_
        refine cf_putE (v := .int 0) (ty := .int) (ci := 6) (C := RX6) (T := TX6) (N := 24) hx hb hts (fun _ h => List.mem_cons_of_mem _ (List.mem_append_right _ (h))) tyX6 tyX6_ok nmX6 hown hT.1 hW hS cf_e6 rfl 23 (by decide) (hts (.fieldLink RX6 70 "GameCafeModel" "thrown" "I") (List.mem_of_getElem? (i := 2) rfl)) (fun _ h9 => h9) rfl (by decide +kernel) rfl rfl (Nat.le_of_ble_eq_true rfl) dX6_setSeats_42 (E2 := (cf_E cT nc ng (cf_s3 S 6 0 23 0) P O ad)) (cf_upS 6 0 (upd (S 6 0) 23 0) rfl) (fun H locs hW hS => ?_)
        refine lv_aload_n hx hb dX6_setSeats_45 rfl (lv_at hl 0 rfl) ?_
        refine cf_get (v := .int 0) (ci := 6) (C := RX6) (T := TX6) (N := 24) hx hb hts (fun _ h => List.mem_cons_of_mem _ (List.mem_append_right _ (h))) hown hT.1 hW cf_e6 rfl 23 (by decide) (hts (.fieldLink RX6 70 "GameCafeModel" "thrown" "I") (List.mem_of_getElem? (i := 2) rfl)) (fun _ h9 => h9) (congrArg (fun x => some (Value.int x)) (by simp [cf_s3, cf_g2, upd] : (cf_s3 S 6 0 23 0) 6 0 23 = 0)) dX6_setSeats_46 ?_
        refine lv_if_le (tgt := 54) hx hb dX6_setSeats_49 (by decide) (fun c49_6 => ?_) (fun c49_6 => (by first | exact absurd (by decide) c49_6 | exact absurd c49_6 (by decide)))
        refine lv_aload_n hx hb dX6_setSeats_54 rfl (lv_at hl 0 rfl) ?_
        refine cf_get (v := .ref (ad 17 7)) (ci := 6) (C := RX6) (T := TX6) (N := 24) hx hb hts (fun _ h => List.mem_cons_of_mem _ (List.mem_append_right _ (h))) hown hT.1 hW cf_e6 rfl 7 (by decide) (hts (.fieldLink RX6 28 "GameCafeModel" "seats" "[I") (List.mem_of_getElem? (i := 3) rfl)) (fun _ h9 => h9) rfl dX6_setSeats_55 ?_
        refine lv_iload_n hx hb dX6_setSeats_58 rfl (lv_at hl 1 rfl) ?_
        refine cf_ildN (t0 := 0) (n := 6) (f := (cf_s3 S 6 0 23 0) 17 7) (v := (S 17 7 j)) hx hb hT.1 hW (cf_e17 (i := 7) (by decide)) rfl j hxj hj (by decide) dX6_setSeats_59 (by simp [cf_s3, cf_g2, upd] : (cf_s3 S 6 0 23 0) 17 7 j = S 17 7 j) ?_
        refine lv_istore_n (lv' := [(3, .int (S 17 7 j)), (0, .ref (ad 6 0)), (1, .int x), (2, .int a1)]) hx hb dX6_setSeats_60 rfl hl (by decide) rfl (fun ls hl => ?_)
        refine lv_aload_n hx hb dX6_setSeats_61 rfl (lv_at hl 1 rfl) ?_
        refine cf_get (v := .ref (ad 17 7)) (ci := 6) (C := RX6) (T := TX6) (N := 24) hx hb hts (fun _ h => List.mem_cons_of_mem _ (List.mem_append_right _ (h))) hown hT.1 hW cf_e6 rfl 7 (by decide) (hts (.fieldLink RX6 28 "GameCafeModel" "seats" "[I") (List.mem_of_getElem? (i := 3) rfl)) (fun _ h9 => h9) rfl dX6_setSeats_62 ?_
        refine lv_iload_n hx hb dX6_setSeats_65 rfl (lv_at hl 2 rfl) ?_
        refine lv_iload_n hx hb dX6_setSeats_66 rfl (lv_at hl 3 rfl) ?_
        refine cf_istN (t0 := 0) (n := 6) (f := (cf_s3 S 6 0 23 0) 17 7) hx hb hT.1 hW hS (cf_e17 (i := 7) (by decide)) rfl j hxj hj (by decide) dX6_setSeats_67 (E2 := (cf_E cT nc ng (cf_s3 (cf_s3 S 6 0 23 0) 17 7 j a1) P O ad)) (cf_upS 17 7 (upd ((cf_s3 S 6 0 23 0) 17 7) j a1) (cf_c17 (i := 7) (by decide))) (fun H locs hW hS => ?_)
        refine lv_iload_n hx hb dX6_setSeats_68 rfl (lv_at hl 0 rfl) ?_
        exact W.iret (v := (S 17 7 j)) hx hb hr (fun t9 ht9 hw9 => ⟨⟨(S 17 7 j), (cf_s3 (cf_s3 S 6 0 23 0) 17 7 j a1), rfl, Or.inr (Or.inr ⟨j, hj, hxj, b1, Or.inr ⟨c34_5, rfl, rfl⟩⟩), cf_W.re ht9 hW⟩, hS.F ht9⟩) hS.2.2 dX6_setSeats_69
      · refine lv_iconst (v := 3) hx hb dX6_setSeats_37 (by decide) ?_
        refine lv_goto (tgt := 42) hx hb dX6_setSeats_38 (by decide) ?_
        refine cf_putE (v := .int 3) (ty := .int) (ci := 6) (C := RX6) (T := TX6) (N := 24) hx hb hts (fun _ h => List.mem_cons_of_mem _ (List.mem_append_right _ (h))) tyX6 tyX6_ok nmX6 hown hT.1 hW hS cf_e6 rfl 23 (by decide) (hts (.fieldLink RX6 70 "GameCafeModel" "thrown" "I") (List.mem_of_getElem? (i := 2) rfl)) (fun _ h9 => h9) rfl (by decide +kernel) rfl rfl (Nat.le_of_ble_eq_true rfl) dX6_setSeats_42 (E2 := (cf_E cT nc ng (cf_s3 S 6 0 23 3) P O ad)) (cf_upS 6 0 (upd (S 6 0) 23 3) rfl) (fun H locs hW hS => ?_)
        refine lv_aload_n hx hb dX6_setSeats_45 rfl (lv_at hl 0 rfl) ?_
        refine cf_get (v := .int 3) (ci := 6) (C := RX6) (T := TX6) (N := 24) hx hb hts (fun _ h => List.mem_cons_of_mem _ (List.mem_append_right _ (h))) hown hT.1 hW cf_e6 rfl 23 (by decide) (hts (.fieldLink RX6 70 "GameCafeModel" "thrown" "I") (List.mem_of_getElem? (i := 2) rfl)) (fun _ h9 => h9) (congrArg (fun x => some (Value.int x)) (by simp [cf_s3, cf_g2, upd] : (cf_s3 S 6 0 23 3) 6 0 23 = 3)) dX6_setSeats_46 ?_
        refine lv_if_le (tgt := 54) hx hb dX6_setSeats_49 (by decide) (fun c49_7 => (by first | exact absurd c49_7 (by decide) | exact absurd (by decide) c49_7)) (fun c49_7 => ?_)
        refine lv_iconst (v := 0) hx hb dX6_setSeats_52 (by decide) ?_
        exact W.iret (v := 0) hx hb hr (fun t9 ht9 hw9 => ⟨⟨0, (cf_s3 S 6 0 23 3), rfl, Or.inr (Or.inr ⟨j, hj, hxj, b1, Or.inl ⟨Int32.not_le.mp c34_5, rfl⟩⟩), cf_W.re ht9 hW⟩, hS.F ht9⟩) hS.2.2 dX6_setSeats_53
    · have b1 := k1.f c21_4
      refine lv_iconst (v := 2) hx hb dX6_setSeats_24 (by decide) ?_
      refine lv_goto (tgt := 42) hx hb dX6_setSeats_25 (by decide) ?_
      refine cf_putE (v := .int 2) (ty := .int) (ci := 6) (C := RX6) (T := TX6) (N := 24) hx hb hts (fun _ h => List.mem_cons_of_mem _ (List.mem_append_right _ (h))) tyX6 tyX6_ok nmX6 hown hT.1 hW hS cf_e6 rfl 23 (by decide) (hts (.fieldLink RX6 70 "GameCafeModel" "thrown" "I") (List.mem_of_getElem? (i := 2) rfl)) (fun _ h9 => h9) rfl (by decide +kernel) rfl rfl (Nat.le_of_ble_eq_true rfl) dX6_setSeats_42 (E2 := (cf_E cT nc ng (cf_s3 S 6 0 23 2) P O ad)) (cf_upS 6 0 (upd (S 6 0) 23 2) rfl) (fun H locs hW hS => ?_)
      refine lv_aload_n hx hb dX6_setSeats_45 rfl (lv_at hl 0 rfl) ?_
      refine cf_get (v := .int 2) (ci := 6) (C := RX6) (T := TX6) (N := 24) hx hb hts (fun _ h => List.mem_cons_of_mem _ (List.mem_append_right _ (h))) hown hT.1 hW cf_e6 rfl 23 (by decide) (hts (.fieldLink RX6 70 "GameCafeModel" "thrown" "I") (List.mem_of_getElem? (i := 2) rfl)) (fun _ h9 => h9) (congrArg (fun x => some (Value.int x)) (by simp [cf_s3, cf_g2, upd] : (cf_s3 S 6 0 23 2) 6 0 23 = 2)) dX6_setSeats_46 ?_
      refine lv_if_le (tgt := 54) hx hb dX6_setSeats_49 (by decide) (fun c49_8 => (by first | exact absurd c49_8 (by decide) | exact absurd (by decide) c49_8)) (fun c49_8 => ?_)
      refine lv_iconst (v := 0) hx hb dX6_setSeats_52 (by decide) ?_
      exact W.iret (v := 0) hx hb hr (fun t9 ht9 hw9 => ⟨⟨0, (cf_s3 S 6 0 23 2), rfl, Or.inr (Or.inl ⟨hA, b1, rfl⟩), cf_W.re ht9 hW⟩, hS.F ht9⟩) hS.2.2 dX6_setSeats_53
  · have hA := h0.f c7_2
    refine lv_iconst (v := 1) hx hb dX6_setSeats_10 (by decide) ?_
    refine lv_goto (tgt := 42) hx hb dX6_setSeats_11 (by decide) ?_
    refine cf_putE (v := .int 1) (ty := .int) (ci := 6) (C := RX6) (T := TX6) (N := 24) hx hb hts (fun _ h => List.mem_cons_of_mem _ (List.mem_append_right _ (h))) tyX6 tyX6_ok nmX6 hown hT.1 hW hS cf_e6 rfl 23 (by decide) (hts (.fieldLink RX6 70 "GameCafeModel" "thrown" "I") (List.mem_of_getElem? (i := 2) rfl)) (fun _ h9 => h9) rfl (by decide +kernel) rfl rfl (Nat.le_of_ble_eq_true rfl) dX6_setSeats_42 (E2 := (cf_E cT nc ng (cf_s3 S 6 0 23 1) P O ad)) (cf_upS 6 0 (upd (S 6 0) 23 1) rfl) (fun H locs hW hS => ?_)
    refine lv_aload_n hx hb dX6_setSeats_45 rfl (lv_at hl 0 rfl) ?_
    refine cf_get (v := .int 1) (ci := 6) (C := RX6) (T := TX6) (N := 24) hx hb hts (fun _ h => List.mem_cons_of_mem _ (List.mem_append_right _ (h))) hown hT.1 hW cf_e6 rfl 23 (by decide) (hts (.fieldLink RX6 70 "GameCafeModel" "thrown" "I") (List.mem_of_getElem? (i := 2) rfl)) (fun _ h9 => h9) (congrArg (fun x => some (Value.int x)) (by simp [cf_s3, cf_g2, upd] : (cf_s3 S 6 0 23 1) 6 0 23 = 1)) dX6_setSeats_46 ?_
    refine lv_if_le (tgt := 54) hx hb dX6_setSeats_49 (by decide) (fun c49_9 => (by first | exact absurd c49_9 (by decide) | exact absurd (by decide) c49_9)) (fun c49_9 => ?_)
    refine lv_iconst (v := 0) hx hb dX6_setSeats_52 (by decide) ?_
    exact W.iret (v := 0) hx hb hr (fun t9 ht9 hw9 => ⟨⟨0, (cf_s3 S 6 0 23 1), rfl, Or.inl ⟨hA, rfl⟩, cf_W.re ht9 hW⟩, hS.F ht9⟩) hS.2.2 dX6_setSeats_53
set_option maxHeartbeats 4000000 in
set_option maxRecDepth 100000 in
/-- X6_teach -/
theorem c_X6_teach (l : Launch) (D : va_G) (cT : Nat → ClassId) (z : Nat) (ad : cf_Ad) (nc ng : Nat) (S : cf_S) (P : cf_Pt) (O : Nat → Int64) (x y b1 : Int32) : Met l yX6_teach wsX6_teach ({ frames := 2, cells := 0, slots := 0, locals := 42 }) (va_Pc [.ref (ad 6 0), .int x, .int y, .int b1] (cf_P D cT z (cf_E cT nc ng S P O ad) ad)) (cf_Qi D z (fun (r : Int32) (T : cf_S) => (¬ (cf_ix x 3 ∧ cf_ix y 5) ∧ T = (cf_s3 S 6 0 23 1)) ∨ ∃ j k : Nat, j < 3 ∧ x = nI j ∧ k < 5 ∧ y = nI k ∧ cf_B r (S 17 9 (5 * j + k) = 0) ∧ ∃ v : Int32, ((b1 = 0 ∧ v = 1) ∨ (¬ b1 = 0 ∧ v = 0)) ∧ T = cf_s3 (cf_s3 S 6 0 23 0) 17 9 (5 * j + k) v) (fun T => cf_E cT nc ng T P O ad) (fun _ => ad)) 0 0 (fun q => z ≤ q) := by
  refine Met.ofW (cc := cX6_teach) (maxL := 5) (ret := (some .boolean)) (by decide) rfl ?_
  intro p e s m args below meth c s₁ B hml hv
  obtain ⟨rfl, hW, hT⟩ := hv
  have hx := B.exec
  have hb := B.bytes
  have hr := B.returns
  have hts := atoms_spec (ws := wsX6_teach) B.pre
  have hown : s.vm.findClass RX6 = some m.cls := findClass_of_methodNamed B.named
  have hlocks := B.notSynchronized
  have hS : va_S (fun q => z ≤ q) s.heap s.heap [] := va_S.rf
  have hl := lv_entry ([.ref (ad 6 0), .int x, .int y, .int b1]) (n := 5) (Nat.le_of_ble_eq_true rfl)
  rw [lg_entry_eq]
  generalize (lg_sl ([.ref (ad 6 0), .int x, .int y, .int b1]) ++ List.replicate (5 - (lg_sl ([.ref (ad 6 0), .int x, .int y, .int b1])).length) Slot.unset).toArray = ls at hl ⊢
  have hl : lv_has ls 5 [(0, .ref (ad 6 0)), (1, .int x), (2, .int y), (3, .int b1)] := hl
  skip
  refine lv_aload_n hx hb dX6_teach_0 rfl (lv_at hl 0 rfl) ?_
  refine lv_iload_n hx hb dX6_teach_1 rfl (lv_at hl 1 rfl) ?_
  refine lv_iconst (v := 0) hx hb dX6_teach_2 (by decide) ?_
  refine lv_iconst (v := 2) hx hb dX6_teach_3 (by decide) ?_
  refine va_calli (va_runS (As := [.int x, .int 0, .int 2]) (rest := [.ref (ad 6 0)]) ⟨hx, hb, hml, hown, hts⟩ (c_X6_in l D cT z ad _ x 0 2) (va_cwS 3 hts gX6_teach_X6_in rfl rfl rfl (by decide +kernel) ⟨Nat.le_of_ble_eq_true rfl, Nat.le_of_ble_eq_true rfl⟩) (cf_preS hT hS hW) rfl rfl hl.1 rfl (lv_room (Nat.le_of_ble_eq_true rfl)) dX6_teach_4 ⟨Nat.le_of_ble_eq_true rfl, Nat.le_of_ble_eq_true rfl⟩) hS (fun _ _ h => h) (fun _ h => h) (fun r1 ur1 t9 H locs ht hvm hw hW hz1 hk1 hS => ?_)
  have hW := cf_W.er ht hW
  have h0 := hw
  have h0 := h0.iff (cf_rg_ix (n := 3) (by decide) rfl)
  refine lv_if_eq (tgt := 21) hx hb dX6_teach_7 (by decide) (fun c7_2 => ?_) (fun c7_2 => ?_)
  · have hi := h0.f c7_2
    refine lv_iconst (v := 1) hx hb dX6_teach_21 (by decide) ?_
    refine cf_putE (v := .int 1) (ty := .int) (ci := 6) (C := RX6) (T := TX6) (N := 24) hx hb hts (fun _ h => List.mem_cons_of_mem _ (List.mem_append_right _ (h))) tyX6 tyX6_ok nmX6 hown hT.1 hW hS cf_e6 rfl 23 (by decide) (hts (.fieldLink RX6 70 "GameCafeModel" "thrown" "I") (List.mem_of_getElem? (i := 1) rfl)) (fun _ h9 => h9) rfl (by decide +kernel) rfl rfl (Nat.le_of_ble_eq_true rfl) dX6_teach_22 (E2 := (cf_E cT nc ng (cf_s3 S 6 0 23 1) P O ad)) (cf_upS 6 0 (upd (S 6 0) 23 1) rfl) (fun H locs hW hS => ?_)
    refine lv_aload_n hx hb dX6_teach_25 rfl (lv_at hl 0 rfl) ?_
    refine cf_get (v := .int 1) (ci := 6) (C := RX6) (T := TX6) (N := 24) hx hb hts (fun _ h => List.mem_cons_of_mem _ (List.mem_append_right _ (h))) hown hT.1 hW cf_e6 rfl 23 (by decide) (hts (.fieldLink RX6 70 "GameCafeModel" "thrown" "I") (List.mem_of_getElem? (i := 1) rfl)) (fun _ h9 => h9) (congrArg (fun x => some (Value.int x)) (by simp [cf_s3, cf_g2, upd] : (cf_s3 S 6 0 23 1) 6 0 23 = 1)) dX6_teach_26 ?_
    refine lv_if_le (tgt := 34) hx hb dX6_teach_29 (by decide) (fun c29_3 => (by first | exact absurd c29_3 (by decide) | exact absurd (by decide) c29_3)) (fun c29_3 => ?_)
    refine lv_iconst (v := 0) hx hb dX6_teach_32 (by decide) ?_
    exact W.zret (v := 0) (ty := .boolean) hx hb hr (by rfl) (fun t9 ht9 hw9 => ⟨⟨0, (cf_s3 S 6 0 23 1), rfl, Or.inl ⟨fun q => hi q.1, rfl⟩, cf_W.re ht9 hW⟩, hS.F ht9⟩) hS.2.2 dX6_teach_33
  · have hi := h0.t c7_2
    refine lv_iload_n hx hb dX6_teach_10 rfl (lv_at hl 2 rfl) ?_
    refine va_calli (va_runS (As := [.int y]) (rest := [.ref (ad 6 0)]) ⟨hx, hb, hml, hown, hts⟩ (c_X6_isGame l D cT z ad _ y) (va_cwS 1 hts gX6_teach_X6_isGame rfl rfl rfl (by decide +kernel) ⟨Nat.le_of_ble_eq_true rfl, Nat.le_of_ble_eq_true rfl⟩) (cf_preS hT hS hW) rfl rfl hl.1 rfl (lv_room (Nat.le_of_ble_eq_true rfl)) dX6_teach_11 ⟨Nat.le_of_ble_eq_true rfl, Nat.le_of_ble_eq_true rfl⟩) hS (fun _ _ h => h) (fun _ h => h) (fun r4 ur4 t9 H locs ht hvm hw hW hz1 hk1 hS => ?_)
    have hW := cf_W.er ht hW
    have k1 := hw
    refine lv_if_eq (tgt := 21) hx hb dX6_teach_14 (by decide) (fun c14_5 => ?_) (fun c14_5 => ?_)
    · have hy := k1.f c14_5
      refine lv_iconst (v := 1) hx hb dX6_teach_21 (by decide) ?_
      refine cf_putE (v := .int 1) (ty := .int) (ci := 6) (C := RX6) (T := TX6) (N := 24) hx hb hts (fun _ h => List.mem_cons_of_mem _ (List.mem_append_right _ (h))) tyX6 tyX6_ok nmX6 hown hT.1 hW hS cf_e6 rfl 23 (by decide) (hts (.fieldLink RX6 70 "GameCafeModel" "thrown" "I") (List.mem_of_getElem? (i := 1) rfl)) (fun _ h9 => h9) rfl (by decide +kernel) rfl rfl (Nat.le_of_ble_eq_true rfl) dX6_teach_22 (E2 := (cf_E cT nc ng (cf_s3 S 6 0 23 1) P O ad)) (cf_upS 6 0 (upd (S 6 0) 23 1) rfl) (fun H locs hW hS => ?_)
      refine lv_aload_n hx hb dX6_teach_25 rfl (lv_at hl 0 rfl) ?_
      refine cf_get (v := .int 1) (ci := 6) (C := RX6) (T := TX6) (N := 24) hx hb hts (fun _ h => List.mem_cons_of_mem _ (List.mem_append_right _ (h))) hown hT.1 hW cf_e6 rfl 23 (by decide) (hts (.fieldLink RX6 70 "GameCafeModel" "thrown" "I") (List.mem_of_getElem? (i := 1) rfl)) (fun _ h9 => h9) (congrArg (fun x => some (Value.int x)) (by simp [cf_s3, cf_g2, upd] : (cf_s3 S 6 0 23 1) 6 0 23 = 1)) dX6_teach_26 ?_
      refine lv_if_le (tgt := 34) hx hb dX6_teach_29 (by decide) (fun c29_6 => (by first | exact absurd c29_6 (by decide) | exact absurd (by decide) c29_6)) (fun c29_6 => ?_)
      refine lv_iconst (v := 0) hx hb dX6_teach_32 (by decide) ?_
      exact W.zret (v := 0) (ty := .boolean) hx hb hr (by rfl) (fun t9 ht9 hw9 => ⟨⟨0, (cf_s3 S 6 0 23 1), rfl, Or.inl ⟨fun q => hy q.2, rfl⟩, cf_W.re ht9 hW⟩, hS.F ht9⟩) hS.2.2 dX6_teach_33
    · have hy := k1.t c14_5
      refine lv_iconst (v := 0) hx hb dX6_teach_17 (by decide) ?_
      refine lv_goto (tgt := 22) hx hb dX6_teach_18 (by decide) ?_
      refine cf_putE (v := .int 0) (ty := .int) (ci := 6) (C := RX6) (T := TX6) (N := 24) hx hb hts (fun _ h => List.mem_cons_of_mem _ (List.mem_append_right _ (h))) tyX6 tyX6_ok nmX6 hown hT.1 hW hS cf_e6 rfl 23 (by decide) (hts (.fieldLink RX6 70 "GameCafeModel" "thrown" "I") (List.mem_of_getElem? (i := 1) rfl)) (fun _ h9 => h9) rfl (by decide +kernel) rfl rfl (Nat.le_of_ble_eq_true rfl) dX6_teach_22 (E2 := (cf_E cT nc ng (cf_s3 S 6 0 23 0) P O ad)) (cf_upS 6 0 (upd (S 6 0) 23 0) rfl) (fun H locs hW hS => ?_)
      refine lv_aload_n hx hb dX6_teach_25 rfl (lv_at hl 0 rfl) ?_
      refine cf_get (v := .int 0) (ci := 6) (C := RX6) (T := TX6) (N := 24) hx hb hts (fun _ h => List.mem_cons_of_mem _ (List.mem_append_right _ (h))) hown hT.1 hW cf_e6 rfl 23 (by decide) (hts (.fieldLink RX6 70 "GameCafeModel" "thrown" "I") (List.mem_of_getElem? (i := 1) rfl)) (fun _ h9 => h9) (congrArg (fun x => some (Value.int x)) (by simp [cf_s3, cf_g2, upd] : (cf_s3 S 6 0 23 0) 6 0 23 = 0)) dX6_teach_26 ?_
      refine lv_if_le (tgt := 34) hx hb dX6_teach_29 (by decide) (fun c29_7 => ?_) (fun c29_7 => (by first | exact absurd (by decide) c29_7 | exact absurd c29_7 (by decide)))
      obtain ⟨j, hj, hxj⟩ := hi
      obtain ⟨k, hk, hyk⟩ := hy
      refine lv_aload_n hx hb dX6_teach_34 rfl (lv_at hl 0 rfl) ?_
      refine cf_get (v := .ref (ad 17 9)) (ci := 6) (C := RX6) (T := TX6) (N := 24) hx hb hts (fun _ h => List.mem_cons_of_mem _ (List.mem_append_right _ (h))) hown hT.1 hW cf_e6 rfl 9 (by decide) (hts (.fieldLink RX6 34 "GameCafeModel" "ignorant" "[I") (List.mem_of_getElem? (i := 2) rfl)) (fun _ h9 => h9) rfl dX6_teach_35 ?_
      refine lv_iconst (v := 5) hx hb dX6_teach_38 (by decide) ?_
      refine lv_iload_n hx hb dX6_teach_39 rfl (lv_at hl 1 rfl) ?_
      refine lv_imul hx hb dX6_teach_40 ?_
      refine lv_iload_n hx hb dX6_teach_41 rfl (lv_at hl 2 rfl) ?_
      refine lv_iadd hx hb dX6_teach_42 ?_
      refine cf_ildN (t0 := 0) (n := 15) (f := (cf_s3 S 6 0 23 0) 17 9) (v := (S 17 9 (5 * j + k))) hx hb hT.1 hW (cf_e17 (i := 9) (by decide)) rfl (5 * j + k) (cf_ix5 hxj hyk) (by omega) (by decide) dX6_teach_43 (by simp [cf_s3, cf_g2, upd] : (cf_s3 S 6 0 23 0) 17 9 (5 * j + k) = S 17 9 (5 * j + k)) ?_
      refine lv_if_ne (tgt := 51) hx hb dX6_teach_44 (by decide) (fun c44_8 => ?_) (fun c44_8 => ?_)
      · refine lv_iconst (v := 0) hx hb dX6_teach_51 (by decide) ?_
        refine lv_istore (lv' := [(4, .int 0), (0, .ref (ad 6 0)), (1, .int x), (2, .int y), (3, .int b1)]) hx hb dX6_teach_52 hl (by decide) rfl (fun ls hl => ?_)
        refine lv_aload_n hx hb dX6_teach_54 rfl (lv_at hl 1 rfl) ?_
        refine cf_get (v := .ref (ad 17 9)) (ci := 6) (C := RX6) (T := TX6) (N := 24) hx hb hts (fun _ h => List.mem_cons_of_mem _ (List.mem_append_right _ (h))) hown hT.1 hW cf_e6 rfl 9 (by decide) (hts (.fieldLink RX6 34 "GameCafeModel" "ignorant" "[I") (List.mem_of_getElem? (i := 2) rfl)) (fun _ h9 => h9) rfl dX6_teach_55 ?_
        refine lv_iconst (v := 5) hx hb dX6_teach_58 (by decide) ?_
        refine lv_iload_n hx hb dX6_teach_59 rfl (lv_at hl 2 rfl) ?_
        refine lv_imul hx hb dX6_teach_60 ?_
        refine lv_iload_n hx hb dX6_teach_61 rfl (lv_at hl 3 rfl) ?_
        refine lv_iadd hx hb dX6_teach_62 ?_
        refine lv_iload_n hx hb dX6_teach_63 rfl (lv_at hl 4 rfl) ?_
        refine lv_if_eq (tgt := 71) hx hb dX6_teach_64 (by decide) (fun c64_9 => ?_) (fun c64_9 => ?_)
        · refine lv_iconst (v := 1) hx hb dX6_teach_71 (by decide) ?_
          refine cf_istN (t0 := 0) (n := 15) (f := (cf_s3 S 6 0 23 0) 17 9) hx hb hT.1 hW hS (cf_e17 (i := 9) (by decide)) rfl (5 * j + k) (cf_ix5 hxj hyk) (by omega) (by decide) dX6_teach_72 (E2 := (cf_E cT nc ng (cf_s3 (cf_s3 S 6 0 23 0) 17 9 (5 * j + k) 1) P O ad)) (cf_upS 17 9 (upd ((cf_s3 S 6 0 23 0) 17 9) (5 * j + k) 1) (cf_c17 (i := 9) (by decide))) (fun H locs hW hS => ?_)
          refine lv_iload hx hb dX6_teach_73 (lv_at hl 0 rfl) ?_
          exact W.zret (v := 0) (ty := .boolean) hx hb hr (by rfl) (fun t9 ht9 hw9 => ⟨⟨0, (cf_s3 (cf_s3 S 6 0 23 0) 17 9 (5 * j + k) 1), rfl, Or.inr ⟨j, k, hj, hxj, hk, hyk, Or.inr ⟨rfl, c44_8⟩, 1, Or.inl ⟨c64_9, rfl⟩, rfl⟩, cf_W.re ht9 hW⟩, hS.F ht9⟩) hS.2.2 dX6_teach_75
        · refine lv_iconst (v := 0) hx hb dX6_teach_67 (by decide) ?_
          refine lv_goto (tgt := 72) hx hb dX6_teach_68 (by decide) ?_
          refine cf_istN (t0 := 0) (n := 15) (f := (cf_s3 S 6 0 23 0) 17 9) hx hb hT.1 hW hS (cf_e17 (i := 9) (by decide)) rfl (5 * j + k) (cf_ix5 hxj hyk) (by omega) (by decide) dX6_teach_72 (E2 := (cf_E cT nc ng (cf_s3 (cf_s3 S 6 0 23 0) 17 9 (5 * j + k) 0) P O ad)) (cf_upS 17 9 (upd ((cf_s3 S 6 0 23 0) 17 9) (5 * j + k) 0) (cf_c17 (i := 9) (by decide))) (fun H locs hW hS => ?_)
          refine lv_iload hx hb dX6_teach_73 (lv_at hl 0 rfl) ?_
          exact W.zret (v := 0) (ty := .boolean) hx hb hr (by rfl) (fun t9 ht9 hw9 => ⟨⟨0, (cf_s3 (cf_s3 S 6 0 23 0) 17 9 (5 * j + k) 0), rfl, Or.inr ⟨j, k, hj, hxj, hk, hyk, Or.inr ⟨rfl, c44_8⟩, 0, Or.inr ⟨c64_9, rfl⟩, rfl⟩, cf_W.re ht9 hW⟩, hS.F ht9⟩) hS.2.2 dX6_teach_75
      · refine lv_iconst (v := 1) hx hb dX6_teach_47 (by decide) ?_
        refine lv_goto (tgt := 52) hx hb dX6_teach_48 (by decide) ?_
        refine lv_istore (lv' := [(4, .int 1), (0, .ref (ad 6 0)), (1, .int x), (2, .int y), (3, .int b1)]) hx hb dX6_teach_52 hl (by decide) rfl (fun ls hl => ?_)
        refine lv_aload_n hx hb dX6_teach_54 rfl (lv_at hl 1 rfl) ?_
        refine cf_get (v := .ref (ad 17 9)) (ci := 6) (C := RX6) (T := TX6) (N := 24) hx hb hts (fun _ h => List.mem_cons_of_mem _ (List.mem_append_right _ (h))) hown hT.1 hW cf_e6 rfl 9 (by decide) (hts (.fieldLink RX6 34 "GameCafeModel" "ignorant" "[I") (List.mem_of_getElem? (i := 2) rfl)) (fun _ h9 => h9) rfl dX6_teach_55 ?_
        refine lv_iconst (v := 5) hx hb dX6_teach_58 (by decide) ?_
        refine lv_iload_n hx hb dX6_teach_59 rfl (lv_at hl 2 rfl) ?_
        refine lv_imul hx hb dX6_teach_60 ?_
        refine lv_iload_n hx hb dX6_teach_61 rfl (lv_at hl 3 rfl) ?_
        refine lv_iadd hx hb dX6_teach_62 ?_
        refine lv_iload_n hx hb dX6_teach_63 rfl (lv_at hl 4 rfl) ?_
        refine lv_if_eq (tgt := 71) hx hb dX6_teach_64 (by decide) (fun c64_10 => ?_) (fun c64_10 => ?_)
        · refine lv_iconst (v := 1) hx hb dX6_teach_71 (by decide) ?_
          refine cf_istN (t0 := 0) (n := 15) (f := (cf_s3 S 6 0 23 0) 17 9) hx hb hT.1 hW hS (cf_e17 (i := 9) (by decide)) rfl (5 * j + k) (cf_ix5 hxj hyk) (by omega) (by decide) dX6_teach_72 (E2 := (cf_E cT nc ng (cf_s3 (cf_s3 S 6 0 23 0) 17 9 (5 * j + k) 1) P O ad)) (cf_upS 17 9 (upd ((cf_s3 S 6 0 23 0) 17 9) (5 * j + k) 1) (cf_c17 (i := 9) (by decide))) (fun H locs hW hS => ?_)
          refine lv_iload hx hb dX6_teach_73 (lv_at hl 0 rfl) ?_
          exact W.zret (v := 1) (ty := .boolean) hx hb hr (by rfl) (fun t9 ht9 hw9 => ⟨⟨1, (cf_s3 (cf_s3 S 6 0 23 0) 17 9 (5 * j + k) 1), rfl, Or.inr ⟨j, k, hj, hxj, hk, hyk, Or.inl ⟨rfl, c44_8⟩, 1, Or.inl ⟨c64_10, rfl⟩, rfl⟩, cf_W.re ht9 hW⟩, hS.F ht9⟩) hS.2.2 dX6_teach_75
        · refine lv_iconst (v := 0) hx hb dX6_teach_67 (by decide) ?_
          refine lv_goto (tgt := 72) hx hb dX6_teach_68 (by decide) ?_
          refine cf_istN (t0 := 0) (n := 15) (f := (cf_s3 S 6 0 23 0) 17 9) hx hb hT.1 hW hS (cf_e17 (i := 9) (by decide)) rfl (5 * j + k) (cf_ix5 hxj hyk) (by omega) (by decide) dX6_teach_72 (E2 := (cf_E cT nc ng (cf_s3 (cf_s3 S 6 0 23 0) 17 9 (5 * j + k) 0) P O ad)) (cf_upS 17 9 (upd ((cf_s3 S 6 0 23 0) 17 9) (5 * j + k) 0) (cf_c17 (i := 9) (by decide))) (fun H locs hW hS => ?_)
          refine lv_iload hx hb dX6_teach_73 (lv_at hl 0 rfl) ?_
          exact W.zret (v := 1) (ty := .boolean) hx hb hr (by rfl) (fun t9 ht9 hw9 => ⟨⟨1, (cf_s3 (cf_s3 S 6 0 23 0) 17 9 (5 * j + k) 0), rfl, Or.inr ⟨j, k, hj, hxj, hk, hyk, Or.inl ⟨rfl, c44_8⟩, 0, Or.inr ⟨c64_10, rfl⟩, rfl⟩, cf_W.re ht9 hW⟩, hS.F ht9⟩) hS.2.2 dX6_teach_75
set_option maxHeartbeats 4000000 in
set_option maxRecDepth 100000 in
/-- X6_count -/
theorem c_X6_count (l : Launch) (D : va_G) (cT : Nat → ClassId) (z : Nat) (ad : cf_Ad) (nc ng : Nat) (S : cf_S) (P : cf_Pt) (O : Nat → Int64) (x y a1 : Int32) (hn : S 6 0 11 = nI nc) (hnc : nc ≤ 15) : Met l yX6_count wsX6_count ({ frames := 2, cells := 0, slots := 0, locals := 43 }) (va_Pc [.ref (ad 6 0), .int x, .int y, .int a1] (cf_P D cT z (cf_E cT nc ng S P O ad) ad)) (cf_Qi D z (fun (r : Int32) (T : cf_S) => (¬ (cf_ix x nc ∧ cf_ix y 4) ∧ T = (cf_s3 S 6 0 23 1)) ∨ ((cf_ix x nc ∧ cf_ix y 4) ∧ ¬ (cf_rg a1 (-20) 20) ∧ T = (cf_s3 S 6 0 23 2)) ∨ ∃ cp k : Nat, cp < nc ∧ x = nI cp ∧ k < 4 ∧ y = nI k ∧ (cf_rg a1 (-20) 20) ∧ ((¬ (¬ S 17 13 cp = 2 ∧ cf_rg (S 17 14 (4 * cp + k) + a1) 0 40) ∧ T = cf_s3 (cf_s3 S 6 0 23 0) 6 0 23 3) ∨ (¬ S 17 13 cp = 2 ∧ cf_rg (S 17 14 (4 * cp + k) + a1) 0 40 ∧ r = S 17 14 (4 * cp + k) + a1 ∧ T = cf_s3 (cf_s3 S 6 0 23 0) 17 14 (4 * cp + k) (S 17 14 (4 * cp + k) + a1)))) (fun T => cf_E cT nc ng T P O ad) (fun _ => ad)) 0 0 (fun q => z ≤ q) := by
  refine Met.ofW (cc := cX6_count) (maxL := 5) (ret := (some .int)) (by decide) rfl ?_
  intro p e s m args below meth c s₁ B hml hv
  obtain ⟨rfl, hW, hT⟩ := hv
  have hx := B.exec
  have hb := B.bytes
  have hr := B.returns
  have hts := atoms_spec (ws := wsX6_count) B.pre
  have hown : s.vm.findClass RX6 = some m.cls := findClass_of_methodNamed B.named
  have hlocks := B.notSynchronized
  have hS : va_S (fun q => z ≤ q) s.heap s.heap [] := va_S.rf
  have hl := lv_entry ([.ref (ad 6 0), .int x, .int y, .int a1]) (n := 5) (Nat.le_of_ble_eq_true rfl)
  rw [lg_entry_eq]
  generalize (lg_sl ([.ref (ad 6 0), .int x, .int y, .int a1]) ++ List.replicate (5 - (lg_sl ([.ref (ad 6 0), .int x, .int y, .int a1])).length) Slot.unset).toArray = ls at hl ⊢
  have hl : lv_has ls 5 [(0, .ref (ad 6 0)), (1, .int x), (2, .int y), (3, .int a1)] := hl
  skip
  refine lv_aload_n hx hb dX6_count_0 rfl (lv_at hl 0 rfl) ?_
  refine lv_aload_n hx hb dX6_count_1 rfl (lv_at hl 0 rfl) ?_
  refine lv_iload_n hx hb dX6_count_2 rfl (lv_at hl 1 rfl) ?_
  refine va_calli (va_runV (As := [.int x]) (rest := [.ref (ad 6 0)]) ⟨hx, hb, hml, hown, hts⟩ (c_X6_isCopy l D cT z ad nc ng S P O x hn hnc) (cwV 1 hts gX6_count_X6_isCopy rfl rfl rfl (by decide +kernel) ⟨Nat.le_of_ble_eq_true rfl, Nat.le_of_ble_eq_true rfl⟩) (cf_preV (T := TX6) (N := 24) hT hS hW cf_e6 rfl) rfl rfl hl.1 rfl (lv_room (Nat.le_of_ble_eq_true rfl)) dX6_count_3 ⟨Nat.le_of_ble_eq_true rfl, Nat.le_of_ble_eq_true rfl⟩) hS (fun _ _ h => h) (fun _ h => h) (fun r1 ur1 t9 H locs ht hvm hw hW hz1 hk1 hS => ?_)
  have hW := cf_W.er ht hW
  have h0 := hw
  refine lv_if_eq (tgt := 18) hx hb dX6_count_6 (by decide) (fun c6_2 => ?_) (fun c6_2 => ?_)
  · have hi := h0.f c6_2
    refine lv_iconst (v := 1) hx hb dX6_count_18 (by decide) ?_
    refine lv_goto (tgt := 38) hx hb dX6_count_19 (by decide) ?_
    refine cf_putE (v := .int 1) (ty := .int) (ci := 6) (C := RX6) (T := TX6) (N := 24) hx hb hts (fun _ h => List.mem_cons_of_mem _ (List.mem_append_right _ (h))) tyX6 tyX6_ok nmX6 hown hT.1 hW hS cf_e6 rfl 23 (by decide) (hts (.fieldLink RX6 70 "GameCafeModel" "thrown" "I") (List.mem_of_getElem? (i := 1) rfl)) (fun _ h9 => h9) rfl (by decide +kernel) rfl rfl (Nat.le_of_ble_eq_true rfl) dX6_count_38 (E2 := (cf_E cT nc ng (cf_s3 S 6 0 23 1) P O ad)) (cf_upS 6 0 (upd (S 6 0) 23 1) rfl) (fun H locs hW hS => ?_)
    refine lv_aload_n hx hb dX6_count_41 rfl (lv_at hl 0 rfl) ?_
    refine cf_get (v := .int 1) (ci := 6) (C := RX6) (T := TX6) (N := 24) hx hb hts (fun _ h => List.mem_cons_of_mem _ (List.mem_append_right _ (h))) hown hT.1 hW cf_e6 rfl 23 (by decide) (hts (.fieldLink RX6 70 "GameCafeModel" "thrown" "I") (List.mem_of_getElem? (i := 1) rfl)) (fun _ h9 => h9) (congrArg (fun x => some (Value.int x)) (by simp [cf_s3, cf_g2, upd] : (cf_s3 S 6 0 23 1) 6 0 23 = 1)) dX6_count_42 ?_
    refine lv_if_le (tgt := 50) hx hb dX6_count_45 (by decide) (fun c45_3 => (by first | exact absurd c45_3 (by decide) | exact absurd (by decide) c45_3)) (fun c45_3 => ?_)
    refine lv_iconst (v := 0) hx hb dX6_count_48 (by decide) ?_
    exact W.iret (v := 0) hx hb hr (fun t9 ht9 hw9 => ⟨⟨0, (cf_s3 S 6 0 23 1), rfl, Or.inl ⟨fun q => hi q.1, rfl⟩, cf_W.re ht9 hW⟩, hS.F ht9⟩) hS.2.2 dX6_count_49
  · have hi := h0.t c6_2
    refine lv_iload_n hx hb dX6_count_9 rfl (lv_at hl 2 rfl) ?_
    refine lv_iconst (v := 0) hx hb dX6_count_10 (by decide) ?_
    refine lv_iconst (v := 3) hx hb dX6_count_11 (by decide) ?_
    refine va_calli (va_runS (As := [.int y, .int 0, .int 3]) (rest := [.ref (ad 6 0)]) ⟨hx, hb, hml, hown, hts⟩ (c_X6_in l D cT z ad _ y 0 3) (va_cwS 3 hts gX6_count_X6_in rfl rfl rfl (by decide +kernel) ⟨Nat.le_of_ble_eq_true rfl, Nat.le_of_ble_eq_true rfl⟩) (cf_preS hT hS hW) rfl rfl hl.1 rfl (lv_room (Nat.le_of_ble_eq_true rfl)) dX6_count_12 ⟨Nat.le_of_ble_eq_true rfl, Nat.le_of_ble_eq_true rfl⟩) hS (fun _ _ h => h) (fun _ h => h) (fun r4 ur4 t9 H locs ht hvm hw hW hz1 hk1 hS => ?_)
    have hW := cf_W.er ht hW
    have k0 := hw
    have k0 := k0.iff (cf_rg_ix (n := 4) (by decide) rfl)
    refine lv_if_ne (tgt := 22) hx hb dX6_count_15 (by decide) (fun c15_5 => ?_) (fun c15_5 => ?_)
    · have hy := k0.t c15_5
      refine lv_iload_n hx hb dX6_count_22 rfl (lv_at hl 3 rfl) ?_
      refine lv_bipush (v := (-20)) hx hb dX6_count_23 (by decide) ?_
      refine lv_bipush (v := 20) hx hb dX6_count_25 (by decide) ?_
      refine va_calli (va_runS (As := [.int a1, .int (-20), .int 20]) (rest := [.ref (ad 6 0)]) ⟨hx, hb, hml, hown, hts⟩ (c_X6_in l D cT z ad _ a1 (-20) 20) (va_cwS 3 hts gX6_count_X6_in rfl rfl rfl (by decide +kernel) ⟨Nat.le_of_ble_eq_true rfl, Nat.le_of_ble_eq_true rfl⟩) (cf_preS hT hS hW) rfl rfl hl.1 rfl (lv_room (Nat.le_of_ble_eq_true rfl)) dX6_count_27 ⟨Nat.le_of_ble_eq_true rfl, Nat.le_of_ble_eq_true rfl⟩) hS (fun _ _ h => h) (fun _ h => h) (fun r6 ur6 t9 H locs ht hvm hw hW hz1 hk1 hS => ?_)
      have hW := cf_W.er ht hW
      have k1 := hw
      refine lv_if_ne (tgt := 37) hx hb dX6_count_30 (by decide) (fun c30_7 => ?_) (fun c30_7 => ?_)
      · have b1 := k1.t c30_7
        refine lv_iconst (v := 0) hx hb dX6_count_37 (by decide) ?_
        refine cf_putE (v := .int 0) (ty := .int) (ci := 6) (C := RX6) (T := TX6) (N := 24) hx hb hts (fun _ h => List.mem_cons_of_mem _ (List.mem_append_right _ (h))) tyX6 tyX6_ok nmX6 hown hT.1 hW hS cf_e6 rfl 23 (by decide) (hts (.fieldLink RX6 70 "GameCafeModel" "thrown" "I") (List.mem_of_getElem? (i := 1) rfl)) (fun _ h9 => h9) rfl (by decide +kernel) rfl rfl (Nat.le_of_ble_eq_true rfl) dX6_count_38 (E2 := (cf_E cT nc ng (cf_s3 S 6 0 23 0) P O ad)) (cf_upS 6 0 (upd (S 6 0) 23 0) rfl) (fun H locs hW hS => ?_)
        refine lv_aload_n hx hb dX6_count_41 rfl (lv_at hl 0 rfl) ?_
        refine cf_get (v := .int 0) (ci := 6) (C := RX6) (T := TX6) (N := 24) hx hb hts (fun _ h => List.mem_cons_of_mem _ (List.mem_append_right _ (h))) hown hT.1 hW cf_e6 rfl 23 (by decide) (hts (.fieldLink RX6 70 "GameCafeModel" "thrown" "I") (List.mem_of_getElem? (i := 1) rfl)) (fun _ h9 => h9) (congrArg (fun x => some (Value.int x)) (by simp [cf_s3, cf_g2, upd] : (cf_s3 S 6 0 23 0) 6 0 23 = 0)) dX6_count_42 ?_
        refine lv_if_le (tgt := 50) hx hb dX6_count_45 (by decide) (fun c45_8 => ?_) (fun c45_8 => (by first | exact absurd (by decide) c45_8 | exact absurd c45_8 (by decide)))
        obtain ⟨cp, hc, hxc⟩ := hi
        obtain ⟨k, hk, hyk⟩ := hy
        refine lv_aload_n hx hb dX6_count_50 rfl (lv_at hl 0 rfl) ?_
        refine cf_get (v := .ref (ad 17 14)) (ci := 6) (C := RX6) (T := TX6) (N := 24) hx hb hts (fun _ h => List.mem_cons_of_mem _ (List.mem_append_right _ (h))) hown hT.1 hW cf_e6 rfl 14 (by decide) (hts (.fieldLink RX6 46 "GameCafeModel" "parts" "[I") (List.mem_of_getElem? (i := 2) rfl)) (fun _ h9 => h9) rfl dX6_count_51 ?_
        refine lv_iconst (v := 4) hx hb dX6_count_54 (by decide) ?_
        refine lv_iload_n hx hb dX6_count_55 rfl (lv_at hl 1 rfl) ?_
        refine lv_imul hx hb dX6_count_56 ?_
        refine lv_iload_n hx hb dX6_count_57 rfl (lv_at hl 2 rfl) ?_
        refine lv_iadd hx hb dX6_count_58 ?_
        refine cf_ildN (t0 := 0) (n := 60) (f := (cf_s3 S 6 0 23 0) 17 14) (v := (S 17 14 (4 * cp + k))) hx hb hT.1 hW (cf_e17 (i := 14) (by decide)) rfl (4 * cp + k) (cf_ix4 hxc hyk) (by omega) (by decide) dX6_count_59 (by simp [cf_s3, cf_g2, upd] : (cf_s3 S 6 0 23 0) 17 14 (4 * cp + k) = S 17 14 (4 * cp + k)) ?_
        refine lv_iload_n hx hb dX6_count_60 rfl (lv_at hl 3 rfl) ?_
        refine lv_iadd hx hb dX6_count_61 ?_
        refine lv_istore (lv' := [(4, .int ((S 17 14 (4 * cp + k)) + a1)), (0, .ref (ad 6 0)), (1, .int x), (2, .int y), (3, .int a1)]) hx hb dX6_count_62 hl (by decide) rfl (fun ls hl => ?_)
        refine lv_aload_n hx hb dX6_count_64 rfl (lv_at hl 1 rfl) ?_
        refine cf_get (v := .ref (ad 17 13)) (ci := 6) (C := RX6) (T := TX6) (N := 24) hx hb hts (fun _ h => List.mem_cons_of_mem _ (List.mem_append_right _ (h))) hown hT.1 hW cf_e6 rfl 13 (by decide) (hts (.fieldLink RX6 43 "GameCafeModel" "places" "[I") (List.mem_of_getElem? (i := 3) rfl)) (fun _ h9 => h9) rfl dX6_count_65 ?_
        refine lv_iload_n hx hb dX6_count_68 rfl (lv_at hl 2 rfl) ?_
        refine cf_ildN (t0 := 0) (n := 15) (f := (cf_s3 S 6 0 23 0) 17 13) (v := (S 17 13 cp)) hx hb hT.1 hW (cf_e17 (i := 13) (by decide)) rfl cp hxc (by omega) (by decide) dX6_count_69 (by simp [cf_s3, cf_g2, upd] : (cf_s3 S 6 0 23 0) 17 13 cp = S 17 13 cp) ?_
        refine lv_iconst (v := 2) hx hb dX6_count_70 (by decide) ?_
        refine lv_icmp_eq (tgt := 85) hx hb dX6_count_71 (by decide) (fun c71_9 => ?_) (fun c71_9 => ?_)
        · refine lv_aload_n hx hb dX6_count_85 rfl (lv_at hl 1 rfl) ?_
          refine lv_iconst (v := 3) hx hb dX6_count_86 (by decide) ?_
          refine va_calli (va_runV (As := [.int 3]) (rest := []) ⟨hx, hb, hml, hown, hts⟩ (c_X6_fails l D cT z ad nc ng (cf_s3 S 6 0 23 0) P O 3) (cwV 1 hts gX6_count_X6_fails rfl rfl rfl (by decide +kernel) ⟨Nat.le_of_ble_eq_true rfl, Nat.le_of_ble_eq_true rfl⟩) (cf_preV (T := TX6) (N := 24) hT hS hW cf_e6 rfl) rfl rfl hl.1 rfl (lv_room (Nat.le_of_ble_eq_true rfl)) dX6_count_87 ⟨Nat.le_of_ble_eq_true rfl, Nat.le_of_ble_eq_true rfl⟩) hS (fun _ _ h => h) (fun _ h => h) (fun r10 ur10 t9 H locs ht hvm hw hW hz1 hk1 hS => ?_)
          have hW := cf_W.er ht hW
          obtain ⟨hr0, hT0⟩ := hw
          subst hT0
          exact W.iret (v := r10) hx hb hr (fun t9 ht9 hw9 => ⟨⟨r10, (cf_s3 (cf_s3 S 6 0 23 0) 6 0 23 3), rfl, Or.inr (Or.inr ⟨cp, k, hc, hxc, hk, hyk, b1, Or.inl ⟨fun q => q.1 c71_9, rfl⟩⟩), cf_W.re ht9 hW⟩, hS.F ht9⟩) hS.2.2 dX6_count_90
        · refine lv_iload hx hb dX6_count_74 (lv_at hl 0 rfl) ?_
          refine lv_iconst (v := 0) hx hb dX6_count_76 (by decide) ?_
          refine lv_bipush (v := 40) hx hb dX6_count_77 (by decide) ?_
          refine va_calli (va_runS (As := [.int ((S 17 14 (4 * cp + k)) + a1), .int 0, .int 40]) (rest := []) ⟨hx, hb, hml, hown, hts⟩ (c_X6_in l D cT z ad _ ((S 17 14 (4 * cp + k)) + a1) 0 40) (va_cwS 3 hts gX6_count_X6_in rfl rfl rfl (by decide +kernel) ⟨Nat.le_of_ble_eq_true rfl, Nat.le_of_ble_eq_true rfl⟩) (cf_preS hT hS hW) rfl rfl hl.1 rfl (lv_room (Nat.le_of_ble_eq_true rfl)) dX6_count_79 ⟨Nat.le_of_ble_eq_true rfl, Nat.le_of_ble_eq_true rfl⟩) hS (fun _ _ h => h) (fun _ h => h) (fun r11 ur11 t9 H locs ht hvm hw hW hz1 hk1 hS => ?_)
          have hW := cf_W.er ht hW
          have k3 := hw
          refine lv_if_ne (tgt := 91) hx hb dX6_count_82 (by decide) (fun c82_12 => ?_) (fun c82_12 => ?_)
          · have b3 := k3.t c82_12
            refine lv_aload_n hx hb dX6_count_91 rfl (lv_at hl 1 rfl) ?_
            refine cf_get (v := .ref (ad 17 14)) (ci := 6) (C := RX6) (T := TX6) (N := 24) hx hb hts (fun _ h => List.mem_cons_of_mem _ (List.mem_append_right _ (h))) hown hT.1 hW cf_e6 rfl 14 (by decide) (hts (.fieldLink RX6 46 "GameCafeModel" "parts" "[I") (List.mem_of_getElem? (i := 2) rfl)) (fun _ h9 => h9) rfl dX6_count_92 ?_
            refine lv_iconst (v := 4) hx hb dX6_count_95 (by decide) ?_
            refine lv_iload_n hx hb dX6_count_96 rfl (lv_at hl 2 rfl) ?_
            refine lv_imul hx hb dX6_count_97 ?_
            refine lv_iload_n hx hb dX6_count_98 rfl (lv_at hl 3 rfl) ?_
            refine lv_iadd hx hb dX6_count_99 ?_
            refine lv_iload hx hb dX6_count_100 (lv_at hl 0 rfl) ?_
            refine cf_istN (t0 := 0) (n := 60) (f := (cf_s3 S 6 0 23 0) 17 14) hx hb hT.1 hW hS (cf_e17 (i := 14) (by decide)) rfl (4 * cp + k) (cf_ix4 hxc hyk) (by omega) (by decide) dX6_count_102 (E2 := (cf_E cT nc ng (cf_s3 (cf_s3 S 6 0 23 0) 17 14 (4 * cp + k) ((S 17 14 (4 * cp + k)) + a1)) P O ad)) (cf_upS 17 14 (upd ((cf_s3 S 6 0 23 0) 17 14) (4 * cp + k) ((S 17 14 (4 * cp + k)) + a1)) (cf_c17 (i := 14) (by decide))) (fun H locs hW hS => ?_)
            refine lv_iload hx hb dX6_count_103 (lv_at hl 0 rfl) ?_
            exact W.iret (v := ((S 17 14 (4 * cp + k)) + a1)) hx hb hr (fun t9 ht9 hw9 => ⟨⟨((S 17 14 (4 * cp + k)) + a1), (cf_s3 (cf_s3 S 6 0 23 0) 17 14 (4 * cp + k) ((S 17 14 (4 * cp + k)) + a1)), rfl, Or.inr (Or.inr ⟨cp, k, hc, hxc, hk, hyk, b1, Or.inr ⟨c71_9, b3, rfl, rfl⟩⟩), cf_W.re ht9 hW⟩, hS.F ht9⟩) hS.2.2 dX6_count_105
          · have b3 := k3.f c82_12
            refine lv_aload_n hx hb dX6_count_85 rfl (lv_at hl 1 rfl) ?_
            refine lv_iconst (v := 3) hx hb dX6_count_86 (by decide) ?_
            refine va_calli (va_runV (As := [.int 3]) (rest := []) ⟨hx, hb, hml, hown, hts⟩ (c_X6_fails l D cT z ad nc ng (cf_s3 S 6 0 23 0) P O 3) (cwV 1 hts gX6_count_X6_fails rfl rfl rfl (by decide +kernel) ⟨Nat.le_of_ble_eq_true rfl, Nat.le_of_ble_eq_true rfl⟩) (cf_preV (T := TX6) (N := 24) hT hS hW cf_e6 rfl) rfl rfl hl.1 rfl (lv_room (Nat.le_of_ble_eq_true rfl)) dX6_count_87 ⟨Nat.le_of_ble_eq_true rfl, Nat.le_of_ble_eq_true rfl⟩) hS (fun _ _ h => h) (fun _ h => h) (fun r13 ur13 t9 H locs ht hvm hw hW hz1 hk1 hS => ?_)
            have hW := cf_W.er ht hW
            obtain ⟨hr0, hT0⟩ := hw
            subst hT0
            exact W.iret (v := r13) hx hb hr (fun t9 ht9 hw9 => ⟨⟨r13, (cf_s3 (cf_s3 S 6 0 23 0) 6 0 23 3), rfl, Or.inr (Or.inr ⟨cp, k, hc, hxc, hk, hyk, b1, Or.inl ⟨fun q => b3 q.2, rfl⟩⟩), cf_W.re ht9 hW⟩, hS.F ht9⟩) hS.2.2 dX6_count_90
      · have b1 := k1.f c30_7
        refine lv_iconst (v := 2) hx hb dX6_count_33 (by decide) ?_
        refine lv_goto (tgt := 38) hx hb dX6_count_34 (by decide) ?_
        refine cf_putE (v := .int 2) (ty := .int) (ci := 6) (C := RX6) (T := TX6) (N := 24) hx hb hts (fun _ h => List.mem_cons_of_mem _ (List.mem_append_right _ (h))) tyX6 tyX6_ok nmX6 hown hT.1 hW hS cf_e6 rfl 23 (by decide) (hts (.fieldLink RX6 70 "GameCafeModel" "thrown" "I") (List.mem_of_getElem? (i := 1) rfl)) (fun _ h9 => h9) rfl (by decide +kernel) rfl rfl (Nat.le_of_ble_eq_true rfl) dX6_count_38 (E2 := (cf_E cT nc ng (cf_s3 S 6 0 23 2) P O ad)) (cf_upS 6 0 (upd (S 6 0) 23 2) rfl) (fun H locs hW hS => ?_)
        refine lv_aload_n hx hb dX6_count_41 rfl (lv_at hl 0 rfl) ?_
        refine cf_get (v := .int 2) (ci := 6) (C := RX6) (T := TX6) (N := 24) hx hb hts (fun _ h => List.mem_cons_of_mem _ (List.mem_append_right _ (h))) hown hT.1 hW cf_e6 rfl 23 (by decide) (hts (.fieldLink RX6 70 "GameCafeModel" "thrown" "I") (List.mem_of_getElem? (i := 1) rfl)) (fun _ h9 => h9) (congrArg (fun x => some (Value.int x)) (by simp [cf_s3, cf_g2, upd] : (cf_s3 S 6 0 23 2) 6 0 23 = 2)) dX6_count_42 ?_
        refine lv_if_le (tgt := 50) hx hb dX6_count_45 (by decide) (fun c45_14 => (by first | exact absurd c45_14 (by decide) | exact absurd (by decide) c45_14)) (fun c45_14 => ?_)
        refine lv_iconst (v := 0) hx hb dX6_count_48 (by decide) ?_
        exact W.iret (v := 0) hx hb hr (fun t9 ht9 hw9 => ⟨⟨0, (cf_s3 S 6 0 23 2), rfl, Or.inr (Or.inl ⟨⟨hi, hy⟩, b1, rfl⟩), cf_W.re ht9 hW⟩, hS.F ht9⟩) hS.2.2 dX6_count_49
    · have hy := k0.f c15_5
      refine lv_iconst (v := 1) hx hb dX6_count_18 (by decide) ?_
      refine lv_goto (tgt := 38) hx hb dX6_count_19 (by decide) ?_
      refine cf_putE (v := .int 1) (ty := .int) (ci := 6) (C := RX6) (T := TX6) (N := 24) hx hb hts (fun _ h => List.mem_cons_of_mem _ (List.mem_append_right _ (h))) tyX6 tyX6_ok nmX6 hown hT.1 hW hS cf_e6 rfl 23 (by decide) (hts (.fieldLink RX6 70 "GameCafeModel" "thrown" "I") (List.mem_of_getElem? (i := 1) rfl)) (fun _ h9 => h9) rfl (by decide +kernel) rfl rfl (Nat.le_of_ble_eq_true rfl) dX6_count_38 (E2 := (cf_E cT nc ng (cf_s3 S 6 0 23 1) P O ad)) (cf_upS 6 0 (upd (S 6 0) 23 1) rfl) (fun H locs hW hS => ?_)
      refine lv_aload_n hx hb dX6_count_41 rfl (lv_at hl 0 rfl) ?_
      refine cf_get (v := .int 1) (ci := 6) (C := RX6) (T := TX6) (N := 24) hx hb hts (fun _ h => List.mem_cons_of_mem _ (List.mem_append_right _ (h))) hown hT.1 hW cf_e6 rfl 23 (by decide) (hts (.fieldLink RX6 70 "GameCafeModel" "thrown" "I") (List.mem_of_getElem? (i := 1) rfl)) (fun _ h9 => h9) (congrArg (fun x => some (Value.int x)) (by simp [cf_s3, cf_g2, upd] : (cf_s3 S 6 0 23 1) 6 0 23 = 1)) dX6_count_42 ?_
      refine lv_if_le (tgt := 50) hx hb dX6_count_45 (by decide) (fun c45_15 => (by first | exact absurd c45_15 (by decide) | exact absurd (by decide) c45_15)) (fun c45_15 => ?_)
      refine lv_iconst (v := 0) hx hb dX6_count_48 (by decide) ?_
      exact W.iret (v := 0) hx hb hr (fun t9 ht9 hw9 => ⟨⟨0, (cf_s3 S 6 0 23 1), rfl, Or.inl ⟨fun q => hy q.2, rfl⟩, cf_W.re ht9 hW⟩, hS.F ht9⟩) hS.2.2 dX6_count_49
set_option maxHeartbeats 4000000 in
set_option maxRecDepth 100000 in
/-- X6_advance -/
theorem c_X6_advance (l : Launch) (D : va_G) (cT : Nat → ClassId) (z : Nat) (ad : cf_Ad) (nc ng : Nat) (S : cf_S) (P : cf_Pt) (O : Nat → Int64) (x : Int32) : Met l yX6_advance wsX6_advance ({ frames := 1, cells := 0, slots := 0, locals := 22 }) (va_Pc [.ref (ad 6 0), .int x] (cf_P D cT z (cf_E cT nc ng S P O ad) ad)) (cf_Qi D z (fun (r : Int32) (T : cf_S) => (¬ cf_rg x 1 1000 ∧ T = cf_s3 (cf_s3 S 6 0 23 1) 6 0 0 (S 6 0 0 + 0)) ∨ (cf_rg x 1 1000 ∧ ¬ (S 6 0 0 + x ≤ 100000) ∧ T = cf_s3 (cf_s3 S 6 0 23 2) 6 0 0 (S 6 0 0 + 0)) ∨ (cf_rg x 1 1000 ∧ (S 6 0 0 + x ≤ 100000) ∧ r = S 6 0 0 + x ∧ T = cf_s3 (cf_s3 S 6 0 23 0) 6 0 0 (S 6 0 0 + x))) (fun T => cf_E cT nc ng T P O ad) (fun _ => ad)) 0 0 (fun q => z ≤ q) := by
  refine Met.ofW (cc := cX6_advance) (maxL := 2) (ret := (some .int)) (by decide) rfl ?_
  intro p e s m args below meth c s₁ B hml hv
  obtain ⟨rfl, hW, hT⟩ := hv
  have hx := B.exec
  have hb := B.bytes
  have hr := B.returns
  have hts := atoms_spec (ws := wsX6_advance) B.pre
  have hown : s.vm.findClass RX6 = some m.cls := findClass_of_methodNamed B.named
  have hlocks := B.notSynchronized
  have hS : va_S (fun q => z ≤ q) s.heap s.heap [] := va_S.rf
  have hl := lv_entry ([.ref (ad 6 0), .int x]) (n := 2) (Nat.le_of_ble_eq_true rfl)
  rw [lg_entry_eq]
  generalize (lg_sl ([.ref (ad 6 0), .int x]) ++ List.replicate (2 - (lg_sl ([.ref (ad 6 0), .int x])).length) Slot.unset).toArray = ls at hl ⊢
  have hl : lv_has ls 2 [(0, .ref (ad 6 0)), (1, .int x)] := hl
  skip
  refine lv_aload_n hx hb dX6_advance_0 rfl (lv_at hl 0 rfl) ?_
  refine lv_iload_n hx hb dX6_advance_1 rfl (lv_at hl 1 rfl) ?_
  refine lv_iconst (v := 1) hx hb dX6_advance_2 (by decide) ?_
  refine lv_sipush (v := 1000) hx hb dX6_advance_3 (by decide) ?_
  refine va_calli (va_runS (As := [.int x, .int 1, .int 1000]) (rest := [.ref (ad 6 0)]) ⟨hx, hb, hml, hown, hts⟩ (c_X6_in l D cT z ad _ x 1 1000) (va_cwS 3 hts gX6_advance_X6_in rfl rfl rfl (by decide +kernel) ⟨Nat.le_of_ble_eq_true rfl, Nat.le_of_ble_eq_true rfl⟩) (cf_preS hT hS hW) rfl rfl hl.1 rfl (lv_room (Nat.le_of_ble_eq_true rfl)) dX6_advance_6 ⟨Nat.le_of_ble_eq_true rfl, Nat.le_of_ble_eq_true rfl⟩) hS (fun _ _ h => h) (fun _ h => h) (fun r1 ur1 t9 H locs ht hvm hw hW hz1 hk1 hS => ?_)
  have hW := cf_W.er ht hW
  have h0 := hw
  refine lv_if_ne (tgt := 16) hx hb dX6_advance_9 (by decide) (fun c9_2 => ?_) (fun c9_2 => ?_)
  · have hA := h0.t c9_2
    refine lv_aload_n hx hb dX6_advance_16 rfl (lv_at hl 0 rfl) ?_
    refine cf_get (v := .int (S 6 0 0)) (ci := 6) (C := RX6) (T := TX6) (N := 24) hx hb hts (fun _ h => List.mem_cons_of_mem _ (List.mem_append_right _ (h))) hown hT.1 hW cf_e6 rfl 0 (by decide) (hts (.fieldLink RX6 98 "GameCafeModel" "minute" "I") (List.mem_of_getElem? (i := 1) rfl)) (fun _ h9 => h9) rfl dX6_advance_17 ?_
    refine lv_iload_n hx hb dX6_advance_20 rfl (lv_at hl 1 rfl) ?_
    refine lv_iadd hx hb dX6_advance_21 ?_
    refine lv_ldc hx hb hown (hts (.constant RX6 113 (100000)) (List.mem_of_getElem? (i := 2) rfl)) dX6_advance_22 ?_
    refine lv_icmp_le (tgt := 31) hx hb dX6_advance_24 (by decide) (fun c24_3 => ?_) (fun c24_3 => ?_)
    · refine lv_iconst (v := 0) hx hb dX6_advance_31 (by decide) ?_
      refine cf_putE (v := .int 0) (ty := .int) (ci := 6) (C := RX6) (T := TX6) (N := 24) hx hb hts (fun _ h => List.mem_cons_of_mem _ (List.mem_append_right _ (h))) tyX6 tyX6_ok nmX6 hown hT.1 hW hS cf_e6 rfl 23 (by decide) (hts (.fieldLink RX6 70 "GameCafeModel" "thrown" "I") (List.mem_of_getElem? (i := 3) rfl)) (fun _ h9 => h9) rfl (by decide +kernel) rfl rfl (Nat.le_of_ble_eq_true rfl) dX6_advance_32 (E2 := (cf_E cT nc ng (cf_s3 S 6 0 23 0) P O ad)) (cf_upS 6 0 (upd (S 6 0) 23 0) rfl) (fun H locs hW hS => ?_)
      refine lv_aload_n hx hb dX6_advance_35 rfl (lv_at hl 0 rfl) ?_
      refine lv_dup hx hb dX6_advance_36 rfl ?_
      refine cf_get (v := .int (S 6 0 0)) (ci := 6) (C := RX6) (T := TX6) (N := 24) hx hb hts (fun _ h => List.mem_cons_of_mem _ (List.mem_append_right _ (h))) hown hT.1 hW cf_e6 rfl 0 (by decide) (hts (.fieldLink RX6 98 "GameCafeModel" "minute" "I") (List.mem_of_getElem? (i := 1) rfl)) (fun _ h9 => h9) (congrArg (fun x => some (Value.int x)) (by simp [cf_s3, cf_g2, upd] : (cf_s3 S 6 0 23 0) 6 0 0 = S 6 0 0)) dX6_advance_37 ?_
      refine lv_aload_n hx hb dX6_advance_40 rfl (lv_at hl 0 rfl) ?_
      refine cf_get (v := .int 0) (ci := 6) (C := RX6) (T := TX6) (N := 24) hx hb hts (fun _ h => List.mem_cons_of_mem _ (List.mem_append_right _ (h))) hown hT.1 hW cf_e6 rfl 23 (by decide) (hts (.fieldLink RX6 70 "GameCafeModel" "thrown" "I") (List.mem_of_getElem? (i := 3) rfl)) (fun _ h9 => h9) (congrArg (fun x => some (Value.int x)) (by simp [cf_s3, cf_g2, upd] : (cf_s3 S 6 0 23 0) 6 0 23 = 0)) dX6_advance_41 ?_
      refine lv_if_ne (tgt := 51) hx hb dX6_advance_44 (by decide) (fun c44_4 => (by first | exact absurd c44_4 (by decide) | exact absurd (by decide) c44_4)) (fun c44_4 => ?_)
      refine lv_iload_n hx hb dX6_advance_47 rfl (lv_at hl 1 rfl) ?_
      refine lv_goto (tgt := 52) hx hb dX6_advance_48 (by decide) ?_
      refine lv_iadd hx hb dX6_advance_52 ?_
      refine cf_putE (v := .int ((S 6 0 0) + x)) (ty := .int) (ci := 6) (C := RX6) (T := TX6) (N := 24) hx hb hts (fun _ h => List.mem_cons_of_mem _ (List.mem_append_right _ (h))) tyX6 tyX6_ok nmX6 hown hT.1 hW hS cf_e6 rfl 0 (by decide) (hts (.fieldLink RX6 98 "GameCafeModel" "minute" "I") (List.mem_of_getElem? (i := 1) rfl)) (fun _ h9 => h9) rfl (by decide +kernel) rfl rfl (Nat.le_of_ble_eq_true rfl) dX6_advance_53 (E2 := (cf_E cT nc ng (cf_s3 (cf_s3 S 6 0 23 0) 6 0 0 ((S 6 0 0) + x)) P O ad)) (cf_upS 6 0 (upd ((cf_s3 S 6 0 23 0) 6 0) 0 ((S 6 0 0) + x)) rfl) (fun H locs hW hS => ?_)
      refine lv_aload_n hx hb dX6_advance_56 rfl (lv_at hl 0 rfl) ?_
      refine cf_get (v := .int 0) (ci := 6) (C := RX6) (T := TX6) (N := 24) hx hb hts (fun _ h => List.mem_cons_of_mem _ (List.mem_append_right _ (h))) hown hT.1 hW cf_e6 rfl 23 (by decide) (hts (.fieldLink RX6 70 "GameCafeModel" "thrown" "I") (List.mem_of_getElem? (i := 3) rfl)) (fun _ h9 => h9) (congrArg (fun x => some (Value.int x)) (by simp [cf_s3, cf_g2, upd] : (cf_s3 (cf_s3 S 6 0 23 0) 6 0 0 ((S 6 0 0) + x)) 6 0 23 = 0)) dX6_advance_57 ?_
      refine lv_if_ne (tgt := 70) hx hb dX6_advance_60 (by decide) (fun c60_5 => (by first | exact absurd c60_5 (by decide) | exact absurd (by decide) c60_5)) (fun c60_5 => ?_)
      refine lv_aload_n hx hb dX6_advance_63 rfl (lv_at hl 0 rfl) ?_
      refine cf_get (v := .int ((S 6 0 0) + x)) (ci := 6) (C := RX6) (T := TX6) (N := 24) hx hb hts (fun _ h => List.mem_cons_of_mem _ (List.mem_append_right _ (h))) hown hT.1 hW cf_e6 rfl 0 (by decide) (hts (.fieldLink RX6 98 "GameCafeModel" "minute" "I") (List.mem_of_getElem? (i := 1) rfl)) (fun _ h9 => h9) (congrArg (fun x => some (Value.int x)) (by simp [cf_s3, cf_g2, upd] : (cf_s3 (cf_s3 S 6 0 23 0) 6 0 0 ((S 6 0 0) + x)) 6 0 0 = ((S 6 0 0) + x))) dX6_advance_64 ?_
      refine lv_goto (tgt := 71) hx hb dX6_advance_67 (by decide) ?_
      exact W.iret (v := ((S 6 0 0) + x)) hx hb hr (fun t9 ht9 hw9 => ⟨⟨((S 6 0 0) + x), (cf_s3 (cf_s3 S 6 0 23 0) 6 0 0 ((S 6 0 0) + x)), rfl, Or.inr (Or.inr ⟨hA, c24_3, rfl, rfl⟩), cf_W.re ht9 hW⟩, hS.F ht9⟩) hS.2.2 dX6_advance_71
    · refine lv_iconst (v := 2) hx hb dX6_advance_27 (by decide) ?_
      refine lv_goto (tgt := 32) hx hb dX6_advance_28 (by decide) ?_
      refine cf_putE (v := .int 2) (ty := .int) (ci := 6) (C := RX6) (T := TX6) (N := 24) hx hb hts (fun _ h => List.mem_cons_of_mem _ (List.mem_append_right _ (h))) tyX6 tyX6_ok nmX6 hown hT.1 hW hS cf_e6 rfl 23 (by decide) (hts (.fieldLink RX6 70 "GameCafeModel" "thrown" "I") (List.mem_of_getElem? (i := 3) rfl)) (fun _ h9 => h9) rfl (by decide +kernel) rfl rfl (Nat.le_of_ble_eq_true rfl) dX6_advance_32 (E2 := (cf_E cT nc ng (cf_s3 S 6 0 23 2) P O ad)) (cf_upS 6 0 (upd (S 6 0) 23 2) rfl) (fun H locs hW hS => ?_)
      refine lv_aload_n hx hb dX6_advance_35 rfl (lv_at hl 0 rfl) ?_
      refine lv_dup hx hb dX6_advance_36 rfl ?_
      refine cf_get (v := .int (S 6 0 0)) (ci := 6) (C := RX6) (T := TX6) (N := 24) hx hb hts (fun _ h => List.mem_cons_of_mem _ (List.mem_append_right _ (h))) hown hT.1 hW cf_e6 rfl 0 (by decide) (hts (.fieldLink RX6 98 "GameCafeModel" "minute" "I") (List.mem_of_getElem? (i := 1) rfl)) (fun _ h9 => h9) (congrArg (fun x => some (Value.int x)) (by simp [cf_s3, cf_g2, upd] : (cf_s3 S 6 0 23 2) 6 0 0 = S 6 0 0)) dX6_advance_37 ?_
      refine lv_aload_n hx hb dX6_advance_40 rfl (lv_at hl 0 rfl) ?_
      refine cf_get (v := .int 2) (ci := 6) (C := RX6) (T := TX6) (N := 24) hx hb hts (fun _ h => List.mem_cons_of_mem _ (List.mem_append_right _ (h))) hown hT.1 hW cf_e6 rfl 23 (by decide) (hts (.fieldLink RX6 70 "GameCafeModel" "thrown" "I") (List.mem_of_getElem? (i := 3) rfl)) (fun _ h9 => h9) (congrArg (fun x => some (Value.int x)) (by simp [cf_s3, cf_g2, upd] : (cf_s3 S 6 0 23 2) 6 0 23 = 2)) dX6_advance_41 ?_
      refine lv_if_ne (tgt := 51) hx hb dX6_advance_44 (by decide) (fun c44_6 => ?_) (fun c44_6 => (by first | exact absurd (by decide) c44_6 | exact absurd c44_6 (by decide)))
      refine lv_iconst (v := 0) hx hb dX6_advance_51 (by decide) ?_
      refine lv_iadd hx hb dX6_advance_52 ?_
      refine cf_putE (v := .int ((S 6 0 0) + 0)) (ty := .int) (ci := 6) (C := RX6) (T := TX6) (N := 24) hx hb hts (fun _ h => List.mem_cons_of_mem _ (List.mem_append_right _ (h))) tyX6 tyX6_ok nmX6 hown hT.1 hW hS cf_e6 rfl 0 (by decide) (hts (.fieldLink RX6 98 "GameCafeModel" "minute" "I") (List.mem_of_getElem? (i := 1) rfl)) (fun _ h9 => h9) rfl (by decide +kernel) rfl rfl (Nat.le_of_ble_eq_true rfl) dX6_advance_53 (E2 := (cf_E cT nc ng (cf_s3 (cf_s3 S 6 0 23 2) 6 0 0 ((S 6 0 0) + 0)) P O ad)) (cf_upS 6 0 (upd ((cf_s3 S 6 0 23 2) 6 0) 0 ((S 6 0 0) + 0)) rfl) (fun H locs hW hS => ?_)
      refine lv_aload_n hx hb dX6_advance_56 rfl (lv_at hl 0 rfl) ?_
      refine cf_get (v := .int 2) (ci := 6) (C := RX6) (T := TX6) (N := 24) hx hb hts (fun _ h => List.mem_cons_of_mem _ (List.mem_append_right _ (h))) hown hT.1 hW cf_e6 rfl 23 (by decide) (hts (.fieldLink RX6 70 "GameCafeModel" "thrown" "I") (List.mem_of_getElem? (i := 3) rfl)) (fun _ h9 => h9) (congrArg (fun x => some (Value.int x)) (by simp [cf_s3, cf_g2, upd] : (cf_s3 (cf_s3 S 6 0 23 2) 6 0 0 ((S 6 0 0) + 0)) 6 0 23 = 2)) dX6_advance_57 ?_
      refine lv_if_ne (tgt := 70) hx hb dX6_advance_60 (by decide) (fun c60_7 => ?_) (fun c60_7 => (by first | exact absurd (by decide) c60_7 | exact absurd c60_7 (by decide)))
      refine lv_iconst (v := 0) hx hb dX6_advance_70 (by decide) ?_
      exact W.iret (v := 0) hx hb hr (fun t9 ht9 hw9 => ⟨⟨0, (cf_s3 (cf_s3 S 6 0 23 2) 6 0 0 ((S 6 0 0) + 0)), rfl, Or.inr (Or.inl ⟨hA, c24_3, rfl⟩), cf_W.re ht9 hW⟩, hS.F ht9⟩) hS.2.2 dX6_advance_71
  · have hA := h0.f c9_2
    refine lv_iconst (v := 1) hx hb dX6_advance_12 (by decide) ?_
    refine lv_goto (tgt := 32) hx hb dX6_advance_13 (by decide) ?_
    refine cf_putE (v := .int 1) (ty := .int) (ci := 6) (C := RX6) (T := TX6) (N := 24) hx hb hts (fun _ h => List.mem_cons_of_mem _ (List.mem_append_right _ (h))) tyX6 tyX6_ok nmX6 hown hT.1 hW hS cf_e6 rfl 23 (by decide) (hts (.fieldLink RX6 70 "GameCafeModel" "thrown" "I") (List.mem_of_getElem? (i := 3) rfl)) (fun _ h9 => h9) rfl (by decide +kernel) rfl rfl (Nat.le_of_ble_eq_true rfl) dX6_advance_32 (E2 := (cf_E cT nc ng (cf_s3 S 6 0 23 1) P O ad)) (cf_upS 6 0 (upd (S 6 0) 23 1) rfl) (fun H locs hW hS => ?_)
    refine lv_aload_n hx hb dX6_advance_35 rfl (lv_at hl 0 rfl) ?_
    refine lv_dup hx hb dX6_advance_36 rfl ?_
    refine cf_get (v := .int (S 6 0 0)) (ci := 6) (C := RX6) (T := TX6) (N := 24) hx hb hts (fun _ h => List.mem_cons_of_mem _ (List.mem_append_right _ (h))) hown hT.1 hW cf_e6 rfl 0 (by decide) (hts (.fieldLink RX6 98 "GameCafeModel" "minute" "I") (List.mem_of_getElem? (i := 1) rfl)) (fun _ h9 => h9) (congrArg (fun x => some (Value.int x)) (by simp [cf_s3, cf_g2, upd] : (cf_s3 S 6 0 23 1) 6 0 0 = S 6 0 0)) dX6_advance_37 ?_
    refine lv_aload_n hx hb dX6_advance_40 rfl (lv_at hl 0 rfl) ?_
    refine cf_get (v := .int 1) (ci := 6) (C := RX6) (T := TX6) (N := 24) hx hb hts (fun _ h => List.mem_cons_of_mem _ (List.mem_append_right _ (h))) hown hT.1 hW cf_e6 rfl 23 (by decide) (hts (.fieldLink RX6 70 "GameCafeModel" "thrown" "I") (List.mem_of_getElem? (i := 3) rfl)) (fun _ h9 => h9) (congrArg (fun x => some (Value.int x)) (by simp [cf_s3, cf_g2, upd] : (cf_s3 S 6 0 23 1) 6 0 23 = 1)) dX6_advance_41 ?_
    refine lv_if_ne (tgt := 51) hx hb dX6_advance_44 (by decide) (fun c44_8 => ?_) (fun c44_8 => (by first | exact absurd (by decide) c44_8 | exact absurd c44_8 (by decide)))
    refine lv_iconst (v := 0) hx hb dX6_advance_51 (by decide) ?_
    refine lv_iadd hx hb dX6_advance_52 ?_
    refine cf_putE (v := .int ((S 6 0 0) + 0)) (ty := .int) (ci := 6) (C := RX6) (T := TX6) (N := 24) hx hb hts (fun _ h => List.mem_cons_of_mem _ (List.mem_append_right _ (h))) tyX6 tyX6_ok nmX6 hown hT.1 hW hS cf_e6 rfl 0 (by decide) (hts (.fieldLink RX6 98 "GameCafeModel" "minute" "I") (List.mem_of_getElem? (i := 1) rfl)) (fun _ h9 => h9) rfl (by decide +kernel) rfl rfl (Nat.le_of_ble_eq_true rfl) dX6_advance_53 (E2 := (cf_E cT nc ng (cf_s3 (cf_s3 S 6 0 23 1) 6 0 0 ((S 6 0 0) + 0)) P O ad)) (cf_upS 6 0 (upd ((cf_s3 S 6 0 23 1) 6 0) 0 ((S 6 0 0) + 0)) rfl) (fun H locs hW hS => ?_)
    refine lv_aload_n hx hb dX6_advance_56 rfl (lv_at hl 0 rfl) ?_
    refine cf_get (v := .int 1) (ci := 6) (C := RX6) (T := TX6) (N := 24) hx hb hts (fun _ h => List.mem_cons_of_mem _ (List.mem_append_right _ (h))) hown hT.1 hW cf_e6 rfl 23 (by decide) (hts (.fieldLink RX6 70 "GameCafeModel" "thrown" "I") (List.mem_of_getElem? (i := 3) rfl)) (fun _ h9 => h9) (congrArg (fun x => some (Value.int x)) (by simp [cf_s3, cf_g2, upd] : (cf_s3 (cf_s3 S 6 0 23 1) 6 0 0 ((S 6 0 0) + 0)) 6 0 23 = 1)) dX6_advance_57 ?_
    refine lv_if_ne (tgt := 70) hx hb dX6_advance_60 (by decide) (fun c60_9 => ?_) (fun c60_9 => (by first | exact absurd (by decide) c60_9 | exact absurd c60_9 (by decide)))
    refine lv_iconst (v := 0) hx hb dX6_advance_70 (by decide) ?_
    exact W.iret (v := 0) hx hb hr (fun t9 ht9 hw9 => ⟨⟨0, (cf_s3 (cf_s3 S 6 0 23 1) 6 0 0 ((S 6 0 0) + 0)), rfl, Or.inl ⟨hA, rfl⟩, cf_W.re ht9 hW⟩, hS.F ht9⟩) hS.2.2 dX6_advance_71
set_option maxHeartbeats 4000000 in
set_option maxRecDepth 100000 in
/-- X6_lend -/
theorem c_X6_lend (l : Launch) (D : va_G) (cT : Nat → ClassId) (z : Nat) (ad : cf_Ad) (nc ng : Nat) (S : cf_S) (P : cf_Pt) (O : Nat → Int64) (x y : Int32) (hn : S 6 0 11 = nI nc) (hnc : nc ≤ 15) : Met l yX6_lend wsX6_lend ({ frames := 2, cells := 0, slots := 0, locals := 43 }) (va_Pc [.ref (ad 6 0), .int x, .int y] (cf_P D cT z (cf_E cT nc ng S P O ad) ad)) (cf_Qi D z (fun (r : Int32) (T : cf_S) => (¬ (cf_ix x nc ∧ cf_ix y 6) ∧ T = (cf_s3 S 6 0 23 1)) ∨ ∃ cp b : Nat, cp < nc ∧ x = nI cp ∧ b < 6 ∧ y = nI b ∧ ((¬ (S 17 13 cp = 0 ∧ S 17 21 b ≤ 0) ∧ T = (cf_s3 S 6 0 23 2)) ∨ (S 17 13 cp = 0 ∧ S 17 21 b ≤ 0 ∧ r = (cf_worthM (fun k => S 17 14 (4 * cp + k))) ∧ T = cf_s3 (cf_s3 (cf_s3 (cf_s3 S 6 0 23 0) 17 13 cp 2) 17 21 b (x + 1)) 17 22 b (cf_worthM (fun k => S 17 14 (4 * cp + k)))))) (fun T => cf_E cT nc ng T P O ad) (fun _ => ad)) 0 0 (fun q => z ≤ q) := by
  refine Met.ofW (cc := cX6_lend) (maxL := 5) (ret := (some .int)) (by decide) rfl ?_
  intro p e s m args below meth c s₁ B hml hv
  obtain ⟨rfl, hW, hT⟩ := hv
  have hx := B.exec
  have hb := B.bytes
  have hr := B.returns
  have hts := atoms_spec (ws := wsX6_lend) B.pre
  have hown : s.vm.findClass RX6 = some m.cls := findClass_of_methodNamed B.named
  have hlocks := B.notSynchronized
  have hS : va_S (fun q => z ≤ q) s.heap s.heap [] := va_S.rf
  have hl := lv_entry ([.ref (ad 6 0), .int x, .int y]) (n := 5) (Nat.le_of_ble_eq_true rfl)
  rw [lg_entry_eq]
  generalize (lg_sl ([.ref (ad 6 0), .int x, .int y]) ++ List.replicate (5 - (lg_sl ([.ref (ad 6 0), .int x, .int y])).length) Slot.unset).toArray = ls at hl ⊢
  have hl : lv_has ls 5 [(0, .ref (ad 6 0)), (1, .int x), (2, .int y)] := hl
  skip
  refine lv_aload_n hx hb dX6_lend_0 rfl (lv_at hl 0 rfl) ?_
  refine lv_aload_n hx hb dX6_lend_1 rfl (lv_at hl 0 rfl) ?_
  refine lv_iload_n hx hb dX6_lend_2 rfl (lv_at hl 1 rfl) ?_
  refine va_calli (va_runV (As := [.int x]) (rest := [.ref (ad 6 0)]) ⟨hx, hb, hml, hown, hts⟩ (c_X6_isCopy l D cT z ad nc ng S P O x hn hnc) (cwV 1 hts gX6_lend_X6_isCopy rfl rfl rfl (by decide +kernel) ⟨Nat.le_of_ble_eq_true rfl, Nat.le_of_ble_eq_true rfl⟩) (cf_preV (T := TX6) (N := 24) hT hS hW cf_e6 rfl) rfl rfl hl.1 rfl (lv_room (Nat.le_of_ble_eq_true rfl)) dX6_lend_3 ⟨Nat.le_of_ble_eq_true rfl, Nat.le_of_ble_eq_true rfl⟩) hS (fun _ _ h => h) (fun _ h => h) (fun r1 ur1 t9 H locs ht hvm hw hW hz1 hk1 hS => ?_)
  have hW := cf_W.er ht hW
  have h0 := hw
  refine lv_if_eq (tgt := 18) hx hb dX6_lend_6 (by decide) (fun c6_2 => ?_) (fun c6_2 => ?_)
  · have hi := h0.f c6_2
    refine lv_iconst (v := 1) hx hb dX6_lend_18 (by decide) ?_
    refine lv_goto (tgt := 45) hx hb dX6_lend_19 (by decide) ?_
    refine cf_putE (v := .int 1) (ty := .int) (ci := 6) (C := RX6) (T := TX6) (N := 24) hx hb hts (fun _ h => List.mem_cons_of_mem _ (List.mem_append_right _ (h))) tyX6 tyX6_ok nmX6 hown hT.1 hW hS cf_e6 rfl 23 (by decide) (hts (.fieldLink RX6 70 "GameCafeModel" "thrown" "I") (List.mem_of_getElem? (i := 3) rfl)) (fun _ h9 => h9) rfl (by decide +kernel) rfl rfl (Nat.le_of_ble_eq_true rfl) dX6_lend_45 (E2 := (cf_E cT nc ng (cf_s3 S 6 0 23 1) P O ad)) (cf_upS 6 0 (upd (S 6 0) 23 1) rfl) (fun H locs hW hS => ?_)
    refine lv_aload_n hx hb dX6_lend_48 rfl (lv_at hl 0 rfl) ?_
    refine cf_get (v := .int 1) (ci := 6) (C := RX6) (T := TX6) (N := 24) hx hb hts (fun _ h => List.mem_cons_of_mem _ (List.mem_append_right _ (h))) hown hT.1 hW cf_e6 rfl 23 (by decide) (hts (.fieldLink RX6 70 "GameCafeModel" "thrown" "I") (List.mem_of_getElem? (i := 3) rfl)) (fun _ h9 => h9) (congrArg (fun x => some (Value.int x)) (by simp [cf_s3, cf_g2, upd] : (cf_s3 S 6 0 23 1) 6 0 23 = 1)) dX6_lend_49 ?_
    refine lv_if_le (tgt := 57) hx hb dX6_lend_52 (by decide) (fun c52_3 => (by first | exact absurd c52_3 (by decide) | exact absurd (by decide) c52_3)) (fun c52_3 => ?_)
    refine lv_iconst (v := 0) hx hb dX6_lend_55 (by decide) ?_
    exact W.iret (v := 0) hx hb hr (fun t9 ht9 hw9 => ⟨⟨0, (cf_s3 S 6 0 23 1), rfl, Or.inl ⟨fun q => hi q.1, rfl⟩, cf_W.re ht9 hW⟩, hS.F ht9⟩) hS.2.2 dX6_lend_56
  · have hi := h0.t c6_2
    refine lv_iload_n hx hb dX6_lend_9 rfl (lv_at hl 2 rfl) ?_
    refine lv_iconst (v := 0) hx hb dX6_lend_10 (by decide) ?_
    refine lv_iconst (v := 5) hx hb dX6_lend_11 (by decide) ?_
    refine va_calli (va_runS (As := [.int y, .int 0, .int 5]) (rest := [.ref (ad 6 0)]) ⟨hx, hb, hml, hown, hts⟩ (c_X6_in l D cT z ad _ y 0 5) (va_cwS 3 hts gX6_lend_X6_in rfl rfl rfl (by decide +kernel) ⟨Nat.le_of_ble_eq_true rfl, Nat.le_of_ble_eq_true rfl⟩) (cf_preS hT hS hW) rfl rfl hl.1 rfl (lv_room (Nat.le_of_ble_eq_true rfl)) dX6_lend_12 ⟨Nat.le_of_ble_eq_true rfl, Nat.le_of_ble_eq_true rfl⟩) hS (fun _ _ h => h) (fun _ h => h) (fun r4 ur4 t9 H locs ht hvm hw hW hz1 hk1 hS => ?_)
    have hW := cf_W.er ht hW
    have k0 := hw
    have k0 := k0.iff (cf_rg_ix (n := 6) (by decide) rfl)
    refine lv_if_ne (tgt := 22) hx hb dX6_lend_15 (by decide) (fun c15_5 => ?_) (fun c15_5 => ?_)
    · have hy := k0.t c15_5
      have hA : cf_ix x nc ∧ cf_ix y 6 := ⟨hi, hy⟩
      obtain ⟨cp, hc, hxc⟩ := hi
      obtain ⟨b0, hb0, hyb⟩ := hy
      refine lv_aload_n hx hb dX6_lend_22 rfl (lv_at hl 0 rfl) ?_
      refine cf_get (v := .ref (ad 17 13)) (ci := 6) (C := RX6) (T := TX6) (N := 24) hx hb hts (fun _ h => List.mem_cons_of_mem _ (List.mem_append_right _ (h))) hown hT.1 hW cf_e6 rfl 13 (by decide) (hts (.fieldLink RX6 43 "GameCafeModel" "places" "[I") (List.mem_of_getElem? (i := 1) rfl)) (fun _ h9 => h9) rfl dX6_lend_23 ?_
      refine lv_iload_n hx hb dX6_lend_26 rfl (lv_at hl 1 rfl) ?_
      refine cf_ildN (t0 := 0) (n := 15) (f := S 17 13) (v := (S 17 13 cp)) hx hb hT.1 hW (cf_e17 (i := 13) (by decide)) rfl cp hxc (by omega) (by decide) dX6_lend_27 rfl ?_
      refine lv_if_ne (tgt := 40) hx hb dX6_lend_28 (by decide) (fun c28_6 => ?_) (fun c28_6 => ?_)
      · refine lv_iconst (v := 2) hx hb dX6_lend_40 (by decide) ?_
        refine lv_goto (tgt := 45) hx hb dX6_lend_41 (by decide) ?_
        refine cf_putE (v := .int 2) (ty := .int) (ci := 6) (C := RX6) (T := TX6) (N := 24) hx hb hts (fun _ h => List.mem_cons_of_mem _ (List.mem_append_right _ (h))) tyX6 tyX6_ok nmX6 hown hT.1 hW hS cf_e6 rfl 23 (by decide) (hts (.fieldLink RX6 70 "GameCafeModel" "thrown" "I") (List.mem_of_getElem? (i := 3) rfl)) (fun _ h9 => h9) rfl (by decide +kernel) rfl rfl (Nat.le_of_ble_eq_true rfl) dX6_lend_45 (E2 := (cf_E cT nc ng (cf_s3 S 6 0 23 2) P O ad)) (cf_upS 6 0 (upd (S 6 0) 23 2) rfl) (fun H locs hW hS => ?_)
        refine lv_aload_n hx hb dX6_lend_48 rfl (lv_at hl 0 rfl) ?_
        refine cf_get (v := .int 2) (ci := 6) (C := RX6) (T := TX6) (N := 24) hx hb hts (fun _ h => List.mem_cons_of_mem _ (List.mem_append_right _ (h))) hown hT.1 hW cf_e6 rfl 23 (by decide) (hts (.fieldLink RX6 70 "GameCafeModel" "thrown" "I") (List.mem_of_getElem? (i := 3) rfl)) (fun _ h9 => h9) (congrArg (fun x => some (Value.int x)) (by simp [cf_s3, cf_g2, upd] : (cf_s3 S 6 0 23 2) 6 0 23 = 2)) dX6_lend_49 ?_
        refine lv_if_le (tgt := 57) hx hb dX6_lend_52 (by decide) (fun c52_7 => (by first | exact absurd c52_7 (by decide) | exact absurd (by decide) c52_7)) (fun c52_7 => ?_)
        refine lv_iconst (v := 0) hx hb dX6_lend_55 (by decide) ?_
        exact W.iret (v := 0) hx hb hr (fun t9 ht9 hw9 => ⟨⟨0, (cf_s3 S 6 0 23 2), rfl, Or.inr ⟨cp, b0, hc, hxc, hb0, hyb, Or.inl ⟨fun q => c28_6 q.1, rfl⟩⟩, cf_W.re ht9 hW⟩, hS.F ht9⟩) hS.2.2 dX6_lend_56
      · refine lv_aload_n hx hb dX6_lend_31 rfl (lv_at hl 0 rfl) ?_
        refine cf_get (v := .ref (ad 17 21)) (ci := 6) (C := RX6) (T := TX6) (N := 24) hx hb hts (fun _ h => List.mem_cons_of_mem _ (List.mem_append_right _ (h))) hown hT.1 hW cf_e6 rfl 21 (by decide) (hts (.fieldLink RX6 64 "GameCafeModel" "lent" "[I") (List.mem_of_getElem? (i := 2) rfl)) (fun _ h9 => h9) rfl dX6_lend_32 ?_
        refine lv_iload_n hx hb dX6_lend_35 rfl (lv_at hl 2 rfl) ?_
        refine cf_ildN (t0 := 0) (n := 6) (f := S 17 21) (v := (S 17 21 b0)) hx hb hT.1 hW (cf_e17 (i := 21) (by decide)) rfl b0 hyb hb0 (by decide) dX6_lend_36 rfl ?_
        refine lv_if_le (tgt := 44) hx hb dX6_lend_37 (by decide) (fun c37_8 => ?_) (fun c37_8 => ?_)
        · refine lv_iconst (v := 0) hx hb dX6_lend_44 (by decide) ?_
          refine cf_putE (v := .int 0) (ty := .int) (ci := 6) (C := RX6) (T := TX6) (N := 24) hx hb hts (fun _ h => List.mem_cons_of_mem _ (List.mem_append_right _ (h))) tyX6 tyX6_ok nmX6 hown hT.1 hW hS cf_e6 rfl 23 (by decide) (hts (.fieldLink RX6 70 "GameCafeModel" "thrown" "I") (List.mem_of_getElem? (i := 3) rfl)) (fun _ h9 => h9) rfl (by decide +kernel) rfl rfl (Nat.le_of_ble_eq_true rfl) dX6_lend_45 (E2 := (cf_E cT nc ng (cf_s3 S 6 0 23 0) P O ad)) (cf_upS 6 0 (upd (S 6 0) 23 0) rfl) (fun H locs hW hS => ?_)
          refine lv_aload_n hx hb dX6_lend_48 rfl (lv_at hl 0 rfl) ?_
          refine cf_get (v := .int 0) (ci := 6) (C := RX6) (T := TX6) (N := 24) hx hb hts (fun _ h => List.mem_cons_of_mem _ (List.mem_append_right _ (h))) hown hT.1 hW cf_e6 rfl 23 (by decide) (hts (.fieldLink RX6 70 "GameCafeModel" "thrown" "I") (List.mem_of_getElem? (i := 3) rfl)) (fun _ h9 => h9) (congrArg (fun x => some (Value.int x)) (by simp [cf_s3, cf_g2, upd] : (cf_s3 S 6 0 23 0) 6 0 23 = 0)) dX6_lend_49 ?_
          refine lv_if_le (tgt := 57) hx hb dX6_lend_52 (by decide) (fun c52_9 => ?_) (fun c52_9 => (by first | exact absurd (by decide) c52_9 | exact absurd c52_9 (by decide)))
          refine lv_iconst (v := 0) hx hb dX6_lend_57 (by decide) ?_
          refine lv_istore_n (lv' := [(3, .int 0), (0, .ref (ad 6 0)), (1, .int x), (2, .int y)]) hx hb dX6_lend_58 rfl hl (by decide) rfl (fun ls hl => ?_)
          refine lv_iconst (v := 0) hx hb dX6_lend_59 (by decide) ?_
          refine lv_istore (lv' := [(4, .int 0), (3, .int 0), (0, .ref (ad 6 0)), (1, .int x), (2, .int y)]) hx hb dX6_lend_60 hl (by decide) rfl (fun ls hl => ?_)
          refine lv_iload hx hb dX6_lend_62 (lv_at hl 0 rfl) ?_
          refine lv_iconst (v := 4) hx hb dX6_lend_64 (by decide) ?_
          refine lv_icmp_ge (tgt := 96) hx hb dX6_lend_65 (by decide) (fun c65_10 => (by first | exact absurd c65_10 (by decide) | exact absurd (by decide) c65_10)) (fun c65_10 => ?_)
          refine lv_iload_n hx hb dX6_lend_68 rfl (lv_at hl 1 rfl) ?_
          refine lv_bipush (v := 100) hx hb dX6_lend_69 (by decide) ?_
          refine lv_iload hx hb dX6_lend_71 (lv_at hl 0 rfl) ?_
          refine lv_iconst (v := 1) hx hb dX6_lend_73 (by decide) ?_
          refine lv_iadd hx hb dX6_lend_74 ?_
          refine lv_imul hx hb dX6_lend_75 ?_
          refine lv_aload_n hx hb dX6_lend_76 rfl (lv_at hl 2 rfl) ?_
          refine cf_get (v := .ref (ad 17 14)) (ci := 6) (C := RX6) (T := TX6) (N := 24) hx hb hts (fun _ h => List.mem_cons_of_mem _ (List.mem_append_right _ (h))) hown hT.1 hW cf_e6 rfl 14 (by decide) (hts (.fieldLink RX6 46 "GameCafeModel" "parts" "[I") (List.mem_of_getElem? (i := 4) rfl)) (fun _ h9 => h9) rfl dX6_lend_77 ?_
          refine lv_iconst (v := 4) hx hb dX6_lend_80 (by decide) ?_
          refine lv_iload_n hx hb dX6_lend_81 rfl (lv_at hl 3 rfl) ?_
          refine lv_imul hx hb dX6_lend_82 ?_
          refine lv_iload hx hb dX6_lend_83 (lv_at hl 0 rfl) ?_
          refine lv_iadd hx hb dX6_lend_85 ?_
          refine cf_ildN (t0 := 0) (n := 60) (f := (cf_s3 S 6 0 23 0) 17 14) (v := (S 17 14 (4 * cp + 0))) hx hb hT.1 hW (cf_e17 (i := 14) (by decide)) rfl (4 * cp + 0) (cf_ix4 hxc rfl) (by omega) (by decide) dX6_lend_86 (by simp [cf_s3, cf_g2, upd] : (cf_s3 S 6 0 23 0) 17 14 (4 * cp + 0) = S 17 14 (4 * cp + 0)) ?_
          refine lv_imul hx hb dX6_lend_87 ?_
          refine lv_iadd hx hb dX6_lend_88 ?_
          refine lv_istore_n (lv' := [(3, .int (0 + ((100 * (0 + 1)) * (S 17 14 (4 * cp + 0))))), (4, .int 0), (0, .ref (ad 6 0)), (1, .int x), (2, .int y)]) hx hb dX6_lend_89 rfl hl (by decide) rfl (fun ls hl => ?_)
          refine lv_iinc (v := 1) (lv' := [(4, .int 1), (3, .int (0 + ((100 * (0 + 1)) * (S 17 14 (4 * cp + 0))))), (0, .ref (ad 6 0)), (1, .int x), (2, .int y)]) hx hb dX6_lend_90 hl (k := 1) rfl (by decide) (by decide) rfl (fun ls hl => ?_)
          refine lv_goto (tgt := 62) hx hb dX6_lend_93 (by decide) ?_
          refine lv_iload hx hb dX6_lend_62 (lv_at hl 0 rfl) ?_
          refine lv_iconst (v := 4) hx hb dX6_lend_64 (by decide) ?_
          refine lv_icmp_ge (tgt := 96) hx hb dX6_lend_65 (by decide) (fun c65_11 => (by first | exact absurd c65_11 (by decide) | exact absurd (by decide) c65_11)) (fun c65_11 => ?_)
          refine lv_iload_n hx hb dX6_lend_68 rfl (lv_at hl 1 rfl) ?_
          refine lv_bipush (v := 100) hx hb dX6_lend_69 (by decide) ?_
          refine lv_iload hx hb dX6_lend_71 (lv_at hl 0 rfl) ?_
          refine lv_iconst (v := 1) hx hb dX6_lend_73 (by decide) ?_
          refine lv_iadd hx hb dX6_lend_74 ?_
          refine lv_imul hx hb dX6_lend_75 ?_
          refine lv_aload_n hx hb dX6_lend_76 rfl (lv_at hl 2 rfl) ?_
          refine cf_get (v := .ref (ad 17 14)) (ci := 6) (C := RX6) (T := TX6) (N := 24) hx hb hts (fun _ h => List.mem_cons_of_mem _ (List.mem_append_right _ (h))) hown hT.1 hW cf_e6 rfl 14 (by decide) (hts (.fieldLink RX6 46 "GameCafeModel" "parts" "[I") (List.mem_of_getElem? (i := 4) rfl)) (fun _ h9 => h9) rfl dX6_lend_77 ?_
          refine lv_iconst (v := 4) hx hb dX6_lend_80 (by decide) ?_
          refine lv_iload_n hx hb dX6_lend_81 rfl (lv_at hl 3 rfl) ?_
          refine lv_imul hx hb dX6_lend_82 ?_
          refine lv_iload hx hb dX6_lend_83 (lv_at hl 0 rfl) ?_
          refine lv_iadd hx hb dX6_lend_85 ?_
          refine cf_ildN (t0 := 0) (n := 60) (f := (cf_s3 S 6 0 23 0) 17 14) (v := (S 17 14 (4 * cp + 1))) hx hb hT.1 hW (cf_e17 (i := 14) (by decide)) rfl (4 * cp + 1) (cf_ix4 hxc rfl) (by omega) (by decide) dX6_lend_86 (by simp [cf_s3, cf_g2, upd] : (cf_s3 S 6 0 23 0) 17 14 (4 * cp + 1) = S 17 14 (4 * cp + 1)) ?_
          refine lv_imul hx hb dX6_lend_87 ?_
          refine lv_iadd hx hb dX6_lend_88 ?_
          refine lv_istore_n (lv' := [(3, .int ((0 + ((100 * (0 + 1)) * (S 17 14 (4 * cp + 0)))) + ((100 * (1 + 1)) * (S 17 14 (4 * cp + 1))))), (4, .int 1), (0, .ref (ad 6 0)), (1, .int x), (2, .int y)]) hx hb dX6_lend_89 rfl hl (by decide) rfl (fun ls hl => ?_)
          refine lv_iinc (v := 2) (lv' := [(4, .int 2), (3, .int ((0 + ((100 * (0 + 1)) * (S 17 14 (4 * cp + 0)))) + ((100 * (1 + 1)) * (S 17 14 (4 * cp + 1))))), (0, .ref (ad 6 0)), (1, .int x), (2, .int y)]) hx hb dX6_lend_90 hl (k := 1) rfl (by decide) (by decide) rfl (fun ls hl => ?_)
          refine lv_goto (tgt := 62) hx hb dX6_lend_93 (by decide) ?_
          refine lv_iload hx hb dX6_lend_62 (lv_at hl 0 rfl) ?_
          refine lv_iconst (v := 4) hx hb dX6_lend_64 (by decide) ?_
          refine lv_icmp_ge (tgt := 96) hx hb dX6_lend_65 (by decide) (fun c65_12 => (by first | exact absurd c65_12 (by decide) | exact absurd (by decide) c65_12)) (fun c65_12 => ?_)
          refine lv_iload_n hx hb dX6_lend_68 rfl (lv_at hl 1 rfl) ?_
          refine lv_bipush (v := 100) hx hb dX6_lend_69 (by decide) ?_
          refine lv_iload hx hb dX6_lend_71 (lv_at hl 0 rfl) ?_
          refine lv_iconst (v := 1) hx hb dX6_lend_73 (by decide) ?_
          refine lv_iadd hx hb dX6_lend_74 ?_
          refine lv_imul hx hb dX6_lend_75 ?_
          refine lv_aload_n hx hb dX6_lend_76 rfl (lv_at hl 2 rfl) ?_
          refine cf_get (v := .ref (ad 17 14)) (ci := 6) (C := RX6) (T := TX6) (N := 24) hx hb hts (fun _ h => List.mem_cons_of_mem _ (List.mem_append_right _ (h))) hown hT.1 hW cf_e6 rfl 14 (by decide) (hts (.fieldLink RX6 46 "GameCafeModel" "parts" "[I") (List.mem_of_getElem? (i := 4) rfl)) (fun _ h9 => h9) rfl dX6_lend_77 ?_
          refine lv_iconst (v := 4) hx hb dX6_lend_80 (by decide) ?_
          refine lv_iload_n hx hb dX6_lend_81 rfl (lv_at hl 3 rfl) ?_
          refine lv_imul hx hb dX6_lend_82 ?_
          refine lv_iload hx hb dX6_lend_83 (lv_at hl 0 rfl) ?_
          refine lv_iadd hx hb dX6_lend_85 ?_
          refine cf_ildN (t0 := 0) (n := 60) (f := (cf_s3 S 6 0 23 0) 17 14) (v := (S 17 14 (4 * cp + 2))) hx hb hT.1 hW (cf_e17 (i := 14) (by decide)) rfl (4 * cp + 2) (cf_ix4 hxc rfl) (by omega) (by decide) dX6_lend_86 (by simp [cf_s3, cf_g2, upd] : (cf_s3 S 6 0 23 0) 17 14 (4 * cp + 2) = S 17 14 (4 * cp + 2)) ?_
          refine lv_imul hx hb dX6_lend_87 ?_
          refine lv_iadd hx hb dX6_lend_88 ?_
          refine lv_istore_n (lv' := [(3, .int (((0 + ((100 * (0 + 1)) * (S 17 14 (4 * cp + 0)))) + ((100 * (1 + 1)) * (S 17 14 (4 * cp + 1)))) + ((100 * (2 + 1)) * (S 17 14 (4 * cp + 2))))), (4, .int 2), (0, .ref (ad 6 0)), (1, .int x), (2, .int y)]) hx hb dX6_lend_89 rfl hl (by decide) rfl (fun ls hl => ?_)
          refine lv_iinc (v := 3) (lv' := [(4, .int 3), (3, .int (((0 + ((100 * (0 + 1)) * (S 17 14 (4 * cp + 0)))) + ((100 * (1 + 1)) * (S 17 14 (4 * cp + 1)))) + ((100 * (2 + 1)) * (S 17 14 (4 * cp + 2))))), (0, .ref (ad 6 0)), (1, .int x), (2, .int y)]) hx hb dX6_lend_90 hl (k := 1) rfl (by decide) (by decide) rfl (fun ls hl => ?_)
          refine lv_goto (tgt := 62) hx hb dX6_lend_93 (by decide) ?_
          refine lv_iload hx hb dX6_lend_62 (lv_at hl 0 rfl) ?_
          refine lv_iconst (v := 4) hx hb dX6_lend_64 (by decide) ?_
          refine lv_icmp_ge (tgt := 96) hx hb dX6_lend_65 (by decide) (fun c65_13 => (by first | exact absurd c65_13 (by decide) | exact absurd (by decide) c65_13)) (fun c65_13 => ?_)
          refine lv_iload_n hx hb dX6_lend_68 rfl (lv_at hl 1 rfl) ?_
          refine lv_bipush (v := 100) hx hb dX6_lend_69 (by decide) ?_
          refine lv_iload hx hb dX6_lend_71 (lv_at hl 0 rfl) ?_
          refine lv_iconst (v := 1) hx hb dX6_lend_73 (by decide) ?_
          refine lv_iadd hx hb dX6_lend_74 ?_
          refine lv_imul hx hb dX6_lend_75 ?_
          refine lv_aload_n hx hb dX6_lend_76 rfl (lv_at hl 2 rfl) ?_
          refine cf_get (v := .ref (ad 17 14)) (ci := 6) (C := RX6) (T := TX6) (N := 24) hx hb hts (fun _ h => List.mem_cons_of_mem _ (List.mem_append_right _ (h))) hown hT.1 hW cf_e6 rfl 14 (by decide) (hts (.fieldLink RX6 46 "GameCafeModel" "parts" "[I") (List.mem_of_getElem? (i := 4) rfl)) (fun _ h9 => h9) rfl dX6_lend_77 ?_
          refine lv_iconst (v := 4) hx hb dX6_lend_80 (by decide) ?_
          refine lv_iload_n hx hb dX6_lend_81 rfl (lv_at hl 3 rfl) ?_
          refine lv_imul hx hb dX6_lend_82 ?_
          refine lv_iload hx hb dX6_lend_83 (lv_at hl 0 rfl) ?_
          refine lv_iadd hx hb dX6_lend_85 ?_
          refine cf_ildN (t0 := 0) (n := 60) (f := (cf_s3 S 6 0 23 0) 17 14) (v := (S 17 14 (4 * cp + 3))) hx hb hT.1 hW (cf_e17 (i := 14) (by decide)) rfl (4 * cp + 3) (cf_ix4 hxc rfl) (by omega) (by decide) dX6_lend_86 (by simp [cf_s3, cf_g2, upd] : (cf_s3 S 6 0 23 0) 17 14 (4 * cp + 3) = S 17 14 (4 * cp + 3)) ?_
          refine lv_imul hx hb dX6_lend_87 ?_
          refine lv_iadd hx hb dX6_lend_88 ?_
          refine lv_istore_n (lv' := [(3, .int ((((0 + ((100 * (0 + 1)) * (S 17 14 (4 * cp + 0)))) + ((100 * (1 + 1)) * (S 17 14 (4 * cp + 1)))) + ((100 * (2 + 1)) * (S 17 14 (4 * cp + 2)))) + ((100 * (3 + 1)) * (S 17 14 (4 * cp + 3))))), (4, .int 3), (0, .ref (ad 6 0)), (1, .int x), (2, .int y)]) hx hb dX6_lend_89 rfl hl (by decide) rfl (fun ls hl => ?_)
          refine lv_iinc (v := 4) (lv' := [(4, .int 4), (3, .int ((((0 + ((100 * (0 + 1)) * (S 17 14 (4 * cp + 0)))) + ((100 * (1 + 1)) * (S 17 14 (4 * cp + 1)))) + ((100 * (2 + 1)) * (S 17 14 (4 * cp + 2)))) + ((100 * (3 + 1)) * (S 17 14 (4 * cp + 3))))), (0, .ref (ad 6 0)), (1, .int x), (2, .int y)]) hx hb dX6_lend_90 hl (k := 1) rfl (by decide) (by decide) rfl (fun ls hl => ?_)
          refine lv_goto (tgt := 62) hx hb dX6_lend_93 (by decide) ?_
          refine lv_iload hx hb dX6_lend_62 (lv_at hl 0 rfl) ?_
          refine lv_iconst (v := 4) hx hb dX6_lend_64 (by decide) ?_
          refine lv_icmp_ge (tgt := 96) hx hb dX6_lend_65 (by decide) (fun c65_14 => ?_) (fun c65_14 => (by first | exact absurd (by decide) c65_14 | exact absurd c65_14 (by decide)))
          refine lv_aload_n hx hb dX6_lend_96 rfl (lv_at hl 2 rfl) ?_
          refine cf_get (v := .ref (ad 17 13)) (ci := 6) (C := RX6) (T := TX6) (N := 24) hx hb hts (fun _ h => List.mem_cons_of_mem _ (List.mem_append_right _ (h))) hown hT.1 hW cf_e6 rfl 13 (by decide) (hts (.fieldLink RX6 43 "GameCafeModel" "places" "[I") (List.mem_of_getElem? (i := 1) rfl)) (fun _ h9 => h9) rfl dX6_lend_97 ?_
          refine lv_iload_n hx hb dX6_lend_100 rfl (lv_at hl 3 rfl) ?_
          refine lv_iconst (v := 2) hx hb dX6_lend_101 (by decide) ?_
          refine cf_istN (t0 := 0) (n := 15) (f := (cf_s3 S 6 0 23 0) 17 13) hx hb hT.1 hW hS (cf_e17 (i := 13) (by decide)) rfl cp hxc (by omega) (by decide) dX6_lend_102 (E2 := (cf_E cT nc ng (cf_s3 (cf_s3 S 6 0 23 0) 17 13 cp 2) P O ad)) (cf_upS 17 13 (upd ((cf_s3 S 6 0 23 0) 17 13) cp 2) (cf_c17 (i := 13) (by decide))) (fun H locs hW hS => ?_)
          refine lv_aload_n hx hb dX6_lend_103 rfl (lv_at hl 2 rfl) ?_
          refine cf_get (v := .ref (ad 17 21)) (ci := 6) (C := RX6) (T := TX6) (N := 24) hx hb hts (fun _ h => List.mem_cons_of_mem _ (List.mem_append_right _ (h))) hown hT.1 hW cf_e6 rfl 21 (by decide) (hts (.fieldLink RX6 64 "GameCafeModel" "lent" "[I") (List.mem_of_getElem? (i := 2) rfl)) (fun _ h9 => h9) rfl dX6_lend_104 ?_
          refine lv_iload_n hx hb dX6_lend_107 rfl (lv_at hl 4 rfl) ?_
          refine lv_iload_n hx hb dX6_lend_108 rfl (lv_at hl 3 rfl) ?_
          refine lv_iconst (v := 1) hx hb dX6_lend_109 (by decide) ?_
          refine lv_iadd hx hb dX6_lend_110 ?_
          refine cf_istN (t0 := 0) (n := 6) (f := (cf_s3 (cf_s3 S 6 0 23 0) 17 13 cp 2) 17 21) hx hb hT.1 hW hS (cf_e17 (i := 21) (by decide)) rfl b0 hyb hb0 (by decide) dX6_lend_111 (E2 := (cf_E cT nc ng (cf_s3 (cf_s3 (cf_s3 S 6 0 23 0) 17 13 cp 2) 17 21 b0 (x + 1)) P O ad)) (cf_upS 17 21 (upd ((cf_s3 (cf_s3 S 6 0 23 0) 17 13 cp 2) 17 21) b0 (x + 1)) (cf_c17 (i := 21) (by decide))) (fun H locs hW hS => ?_)
          refine lv_aload_n hx hb dX6_lend_112 rfl (lv_at hl 2 rfl) ?_
          refine cf_get (v := .ref (ad 17 22)) (ci := 6) (C := RX6) (T := TX6) (N := 24) hx hb hts (fun _ h => List.mem_cons_of_mem _ (List.mem_append_right _ (h))) hown hT.1 hW cf_e6 rfl 22 (by decide) (hts (.fieldLink RX6 67 "GameCafeModel" "deposits" "[I") (List.mem_of_getElem? (i := 5) rfl)) (fun _ h9 => h9) rfl dX6_lend_113 ?_
          refine lv_iload_n hx hb dX6_lend_116 rfl (lv_at hl 4 rfl) ?_
          refine lv_iload_n hx hb dX6_lend_117 rfl (lv_at hl 1 rfl) ?_
          refine cf_istN (t0 := 0) (n := 6) (f := (cf_s3 (cf_s3 (cf_s3 S 6 0 23 0) 17 13 cp 2) 17 21 b0 (x + 1)) 17 22) hx hb hT.1 hW hS (cf_e17 (i := 22) (by decide)) rfl b0 hyb hb0 (by decide) dX6_lend_118 (E2 := (cf_E cT nc ng (cf_s3 (cf_s3 (cf_s3 (cf_s3 S 6 0 23 0) 17 13 cp 2) 17 21 b0 (x + 1)) 17 22 b0 ((((0 + ((100 * (0 + 1)) * (S 17 14 (4 * cp + 0)))) + ((100 * (1 + 1)) * (S 17 14 (4 * cp + 1)))) + ((100 * (2 + 1)) * (S 17 14 (4 * cp + 2)))) + ((100 * (3 + 1)) * (S 17 14 (4 * cp + 3))))) P O ad)) (cf_upS 17 22 (upd ((cf_s3 (cf_s3 (cf_s3 S 6 0 23 0) 17 13 cp 2) 17 21 b0 (x + 1)) 17 22) b0 ((((0 + ((100 * (0 + 1)) * (S 17 14 (4 * cp + 0)))) + ((100 * (1 + 1)) * (S 17 14 (4 * cp + 1)))) + ((100 * (2 + 1)) * (S 17 14 (4 * cp + 2)))) + ((100 * (3 + 1)) * (S 17 14 (4 * cp + 3))))) (cf_c17 (i := 22) (by decide))) (fun H locs hW hS => ?_)
          refine lv_iload_n hx hb dX6_lend_119 rfl (lv_at hl 1 rfl) ?_
          exact W.iret (v := ((((0 + ((100 * (0 + 1)) * (S 17 14 (4 * cp + 0)))) + ((100 * (1 + 1)) * (S 17 14 (4 * cp + 1)))) + ((100 * (2 + 1)) * (S 17 14 (4 * cp + 2)))) + ((100 * (3 + 1)) * (S 17 14 (4 * cp + 3))))) hx hb hr (fun t9 ht9 hw9 => ⟨⟨((((0 + ((100 * (0 + 1)) * (S 17 14 (4 * cp + 0)))) + ((100 * (1 + 1)) * (S 17 14 (4 * cp + 1)))) + ((100 * (2 + 1)) * (S 17 14 (4 * cp + 2)))) + ((100 * (3 + 1)) * (S 17 14 (4 * cp + 3)))), (cf_s3 (cf_s3 (cf_s3 (cf_s3 S 6 0 23 0) 17 13 cp 2) 17 21 b0 (x + 1)) 17 22 b0 ((((0 + ((100 * (0 + 1)) * (S 17 14 (4 * cp + 0)))) + ((100 * (1 + 1)) * (S 17 14 (4 * cp + 1)))) + ((100 * (2 + 1)) * (S 17 14 (4 * cp + 2)))) + ((100 * (3 + 1)) * (S 17 14 (4 * cp + 3))))), rfl, Or.inr ⟨cp, b0, hc, hxc, hb0, hyb, Or.inr ⟨c28_6, c37_8, rfl, rfl⟩⟩, cf_W.re ht9 hW⟩, hS.F ht9⟩) hS.2.2 dX6_lend_120
        · refine lv_iconst (v := 2) hx hb dX6_lend_40 (by decide) ?_
          refine lv_goto (tgt := 45) hx hb dX6_lend_41 (by decide) ?_
          refine cf_putE (v := .int 2) (ty := .int) (ci := 6) (C := RX6) (T := TX6) (N := 24) hx hb hts (fun _ h => List.mem_cons_of_mem _ (List.mem_append_right _ (h))) tyX6 tyX6_ok nmX6 hown hT.1 hW hS cf_e6 rfl 23 (by decide) (hts (.fieldLink RX6 70 "GameCafeModel" "thrown" "I") (List.mem_of_getElem? (i := 3) rfl)) (fun _ h9 => h9) rfl (by decide +kernel) rfl rfl (Nat.le_of_ble_eq_true rfl) dX6_lend_45 (E2 := (cf_E cT nc ng (cf_s3 S 6 0 23 2) P O ad)) (cf_upS 6 0 (upd (S 6 0) 23 2) rfl) (fun H locs hW hS => ?_)
          refine lv_aload_n hx hb dX6_lend_48 rfl (lv_at hl 0 rfl) ?_
          refine cf_get (v := .int 2) (ci := 6) (C := RX6) (T := TX6) (N := 24) hx hb hts (fun _ h => List.mem_cons_of_mem _ (List.mem_append_right _ (h))) hown hT.1 hW cf_e6 rfl 23 (by decide) (hts (.fieldLink RX6 70 "GameCafeModel" "thrown" "I") (List.mem_of_getElem? (i := 3) rfl)) (fun _ h9 => h9) (congrArg (fun x => some (Value.int x)) (by simp [cf_s3, cf_g2, upd] : (cf_s3 S 6 0 23 2) 6 0 23 = 2)) dX6_lend_49 ?_
          refine lv_if_le (tgt := 57) hx hb dX6_lend_52 (by decide) (fun c52_15 => (by first | exact absurd c52_15 (by decide) | exact absurd (by decide) c52_15)) (fun c52_15 => ?_)
          refine lv_iconst (v := 0) hx hb dX6_lend_55 (by decide) ?_
          exact W.iret (v := 0) hx hb hr (fun t9 ht9 hw9 => ⟨⟨0, (cf_s3 S 6 0 23 2), rfl, Or.inr ⟨cp, b0, hc, hxc, hb0, hyb, Or.inl ⟨fun q => c37_8 q.2, rfl⟩⟩, cf_W.re ht9 hW⟩, hS.F ht9⟩) hS.2.2 dX6_lend_56
    · have hy := k0.f c15_5
      refine lv_iconst (v := 1) hx hb dX6_lend_18 (by decide) ?_
      refine lv_goto (tgt := 45) hx hb dX6_lend_19 (by decide) ?_
      refine cf_putE (v := .int 1) (ty := .int) (ci := 6) (C := RX6) (T := TX6) (N := 24) hx hb hts (fun _ h => List.mem_cons_of_mem _ (List.mem_append_right _ (h))) tyX6 tyX6_ok nmX6 hown hT.1 hW hS cf_e6 rfl 23 (by decide) (hts (.fieldLink RX6 70 "GameCafeModel" "thrown" "I") (List.mem_of_getElem? (i := 3) rfl)) (fun _ h9 => h9) rfl (by decide +kernel) rfl rfl (Nat.le_of_ble_eq_true rfl) dX6_lend_45 (E2 := (cf_E cT nc ng (cf_s3 S 6 0 23 1) P O ad)) (cf_upS 6 0 (upd (S 6 0) 23 1) rfl) (fun H locs hW hS => ?_)
      refine lv_aload_n hx hb dX6_lend_48 rfl (lv_at hl 0 rfl) ?_
      refine cf_get (v := .int 1) (ci := 6) (C := RX6) (T := TX6) (N := 24) hx hb hts (fun _ h => List.mem_cons_of_mem _ (List.mem_append_right _ (h))) hown hT.1 hW cf_e6 rfl 23 (by decide) (hts (.fieldLink RX6 70 "GameCafeModel" "thrown" "I") (List.mem_of_getElem? (i := 3) rfl)) (fun _ h9 => h9) (congrArg (fun x => some (Value.int x)) (by simp [cf_s3, cf_g2, upd] : (cf_s3 S 6 0 23 1) 6 0 23 = 1)) dX6_lend_49 ?_
      refine lv_if_le (tgt := 57) hx hb dX6_lend_52 (by decide) (fun c52_16 => (by first | exact absurd c52_16 (by decide) | exact absurd (by decide) c52_16)) (fun c52_16 => ?_)
      refine lv_iconst (v := 0) hx hb dX6_lend_55 (by decide) ?_
      exact W.iret (v := 0) hx hb hr (fun t9 ht9 hw9 => ⟨⟨0, (cf_s3 S 6 0 23 1), rfl, Or.inl ⟨fun q => hy q.2, rfl⟩, cf_W.re ht9 hW⟩, hS.F ht9⟩) hS.2.2 dX6_lend_56
set_option maxHeartbeats 4000000 in
set_option maxRecDepth 100000 in
/-- X6_giveBack -/
theorem c_X6_giveBack (l : Launch) (D : va_G) (cT : Nat → ClassId) (z : Nat) (ad : cf_Ad) (nc ng : Nat) (S : cf_S) (P : cf_Pt) (O : Nat → Int64) (x y a1 : Int32) (hnc : nc ≤ 15) (hlent : ∀ j, j < 6 → S 17 21 j = 0 ∨ ∃ cp : Nat, cp < nc ∧ S 17 21 j = nI (cp + 1)) : Met l yX6_giveBack wsX6_giveBack ({ frames := 1, cells := 0, slots := 0, locals := 22 }) (va_Pc [.ref (ad 6 0), .int x, .int y, .int a1] (cf_P D cT z (cf_E cT nc ng S P O ad) ad)) (cf_Qi D z (fun (r : Int32) (T : cf_S) => (¬ (cf_ix x 6 ∧ cf_ix y 4) ∧ T = (cf_s3 S 6 0 23 1)) ∨ ((cf_ix x 6 ∧ cf_ix y 4) ∧ ¬ (cf_rg a1 0 20) ∧ T = (cf_s3 S 6 0 23 2)) ∨ ∃ b k : Nat, b < 6 ∧ x = nI b ∧ k < 4 ∧ y = nI k ∧ (cf_rg a1 0 20) ∧ (((S 17 21 b - 1 = -1 ∨ ∃ cp : Nat, cp < nc ∧ S 17 21 b - 1 = nI cp ∧ ¬ a1 ≤ S 17 14 (4 * cp + k)) ∧ T = cf_s3 (cf_s3 S 6 0 23 0) 6 0 23 3) ∨ ∃ cp : Nat, cp < nc ∧ S 17 21 b - 1 = nI cp ∧ a1 ≤ S 17 14 (4 * cp + k) ∧ r = S 17 22 b - 100 * (y + 1) * a1 ∧ T = cf_s3 (cf_s3 (cf_s3 (cf_s3 S 6 0 23 0) 17 14 (4 * cp + k) (S 17 14 (4 * cp + k) - a1)) 17 13 cp 0) 17 21 b 0)) (fun T => cf_E cT nc ng T P O ad) (fun _ => ad)) 0 0 (fun q => z ≤ q) := by
  refine Met.ofW (cc := cX6_giveBack) (maxL := 5) (ret := (some .int)) (by decide) rfl ?_
  intro p e s m args below meth c s₁ B hml hv
  obtain ⟨rfl, hW, hT⟩ := hv
  have hx := B.exec
  have hb := B.bytes
  have hr := B.returns
  have hts := atoms_spec (ws := wsX6_giveBack) B.pre
  have hown : s.vm.findClass RX6 = some m.cls := findClass_of_methodNamed B.named
  have hlocks := B.notSynchronized
  have hS : va_S (fun q => z ≤ q) s.heap s.heap [] := va_S.rf
  have hl := lv_entry ([.ref (ad 6 0), .int x, .int y, .int a1]) (n := 5) (Nat.le_of_ble_eq_true rfl)
  rw [lg_entry_eq]
  generalize (lg_sl ([.ref (ad 6 0), .int x, .int y, .int a1]) ++ List.replicate (5 - (lg_sl ([.ref (ad 6 0), .int x, .int y, .int a1])).length) Slot.unset).toArray = ls at hl ⊢
  have hl : lv_has ls 5 [(0, .ref (ad 6 0)), (1, .int x), (2, .int y), (3, .int a1)] := hl
  skip
  refine lv_aload_n hx hb dX6_giveBack_0 rfl (lv_at hl 0 rfl) ?_
  refine lv_iload_n hx hb dX6_giveBack_1 rfl (lv_at hl 1 rfl) ?_
  refine lv_iconst (v := 0) hx hb dX6_giveBack_2 (by decide) ?_
  refine lv_iconst (v := 5) hx hb dX6_giveBack_3 (by decide) ?_
  refine va_calli (va_runS (As := [.int x, .int 0, .int 5]) (rest := [.ref (ad 6 0)]) ⟨hx, hb, hml, hown, hts⟩ (c_X6_in l D cT z ad _ x 0 5) (va_cwS 3 hts gX6_giveBack_X6_in rfl rfl rfl (by decide +kernel) ⟨Nat.le_of_ble_eq_true rfl, Nat.le_of_ble_eq_true rfl⟩) (cf_preS hT hS hW) rfl rfl hl.1 rfl (lv_room (Nat.le_of_ble_eq_true rfl)) dX6_giveBack_4 ⟨Nat.le_of_ble_eq_true rfl, Nat.le_of_ble_eq_true rfl⟩) hS (fun _ _ h => h) (fun _ h => h) (fun r1 ur1 t9 H locs ht hvm hw hW hz1 hk1 hS => ?_)
  have hW := cf_W.er ht hW
  have h0 := hw
  have h0 := h0.iff (cf_rg_ix (n := 6) (by decide) rfl)
  refine lv_if_eq (tgt := 19) hx hb dX6_giveBack_7 (by decide) (fun c7_2 => ?_) (fun c7_2 => ?_)
  · have hi := h0.f c7_2
    refine lv_iconst (v := 1) hx hb dX6_giveBack_19 (by decide) ?_
    refine lv_goto (tgt := 38) hx hb dX6_giveBack_20 (by decide) ?_
    refine cf_putE (v := .int 1) (ty := .int) (ci := 6) (C := RX6) (T := TX6) (N := 24) hx hb hts (fun _ h => List.mem_cons_of_mem _ (List.mem_append_right _ (h))) tyX6 tyX6_ok nmX6 hown hT.1 hW hS cf_e6 rfl 23 (by decide) (hts (.fieldLink RX6 70 "GameCafeModel" "thrown" "I") (List.mem_of_getElem? (i := 1) rfl)) (fun _ h9 => h9) rfl (by decide +kernel) rfl rfl (Nat.le_of_ble_eq_true rfl) dX6_giveBack_38 (E2 := (cf_E cT nc ng (cf_s3 S 6 0 23 1) P O ad)) (cf_upS 6 0 (upd (S 6 0) 23 1) rfl) (fun H locs hW hS => ?_)
    refine lv_aload_n hx hb dX6_giveBack_41 rfl (lv_at hl 0 rfl) ?_
    refine cf_get (v := .int 1) (ci := 6) (C := RX6) (T := TX6) (N := 24) hx hb hts (fun _ h => List.mem_cons_of_mem _ (List.mem_append_right _ (h))) hown hT.1 hW cf_e6 rfl 23 (by decide) (hts (.fieldLink RX6 70 "GameCafeModel" "thrown" "I") (List.mem_of_getElem? (i := 1) rfl)) (fun _ h9 => h9) (congrArg (fun x => some (Value.int x)) (by simp [cf_s3, cf_g2, upd] : (cf_s3 S 6 0 23 1) 6 0 23 = 1)) dX6_giveBack_42 ?_
    refine lv_if_le (tgt := 50) hx hb dX6_giveBack_45 (by decide) (fun c45_3 => (by first | exact absurd c45_3 (by decide) | exact absurd (by decide) c45_3)) (fun c45_3 => ?_)
    refine lv_iconst (v := 0) hx hb dX6_giveBack_48 (by decide) ?_
    exact W.iret (v := 0) hx hb hr (fun t9 ht9 hw9 => ⟨⟨0, (cf_s3 S 6 0 23 1), rfl, Or.inl ⟨fun q => hi q.1, rfl⟩, cf_W.re ht9 hW⟩, hS.F ht9⟩) hS.2.2 dX6_giveBack_49
  · have hi := h0.t c7_2
    refine lv_iload_n hx hb dX6_giveBack_10 rfl (lv_at hl 2 rfl) ?_
    refine lv_iconst (v := 0) hx hb dX6_giveBack_11 (by decide) ?_
    refine lv_iconst (v := 3) hx hb dX6_giveBack_12 (by decide) ?_
    refine va_calli (va_runS (As := [.int y, .int 0, .int 3]) (rest := [.ref (ad 6 0)]) ⟨hx, hb, hml, hown, hts⟩ (c_X6_in l D cT z ad _ y 0 3) (va_cwS 3 hts gX6_giveBack_X6_in rfl rfl rfl (by decide +kernel) ⟨Nat.le_of_ble_eq_true rfl, Nat.le_of_ble_eq_true rfl⟩) (cf_preS hT hS hW) rfl rfl hl.1 rfl (lv_room (Nat.le_of_ble_eq_true rfl)) dX6_giveBack_13 ⟨Nat.le_of_ble_eq_true rfl, Nat.le_of_ble_eq_true rfl⟩) hS (fun _ _ h => h) (fun _ h => h) (fun r4 ur4 t9 H locs ht hvm hw hW hz1 hk1 hS => ?_)
    have hW := cf_W.er ht hW
    have k0 := hw
    have k0 := k0.iff (cf_rg_ix (n := 4) (by decide) rfl)
    refine lv_if_ne (tgt := 23) hx hb dX6_giveBack_16 (by decide) (fun c16_5 => ?_) (fun c16_5 => ?_)
    · have hy := k0.t c16_5
      refine lv_iload_n hx hb dX6_giveBack_23 rfl (lv_at hl 3 rfl) ?_
      refine lv_iconst (v := 0) hx hb dX6_giveBack_24 (by decide) ?_
      refine lv_bipush (v := 20) hx hb dX6_giveBack_25 (by decide) ?_
      refine va_calli (va_runS (As := [.int a1, .int 0, .int 20]) (rest := [.ref (ad 6 0)]) ⟨hx, hb, hml, hown, hts⟩ (c_X6_in l D cT z ad _ a1 0 20) (va_cwS 3 hts gX6_giveBack_X6_in rfl rfl rfl (by decide +kernel) ⟨Nat.le_of_ble_eq_true rfl, Nat.le_of_ble_eq_true rfl⟩) (cf_preS hT hS hW) rfl rfl hl.1 rfl (lv_room (Nat.le_of_ble_eq_true rfl)) dX6_giveBack_27 ⟨Nat.le_of_ble_eq_true rfl, Nat.le_of_ble_eq_true rfl⟩) hS (fun _ _ h => h) (fun _ h => h) (fun r6 ur6 t9 H locs ht hvm hw hW hz1 hk1 hS => ?_)
      have hW := cf_W.er ht hW
      have k1 := hw
      refine lv_if_ne (tgt := 37) hx hb dX6_giveBack_30 (by decide) (fun c30_7 => ?_) (fun c30_7 => ?_)
      · have b1 := k1.t c30_7
        refine lv_iconst (v := 0) hx hb dX6_giveBack_37 (by decide) ?_
        refine cf_putE (v := .int 0) (ty := .int) (ci := 6) (C := RX6) (T := TX6) (N := 24) hx hb hts (fun _ h => List.mem_cons_of_mem _ (List.mem_append_right _ (h))) tyX6 tyX6_ok nmX6 hown hT.1 hW hS cf_e6 rfl 23 (by decide) (hts (.fieldLink RX6 70 "GameCafeModel" "thrown" "I") (List.mem_of_getElem? (i := 1) rfl)) (fun _ h9 => h9) rfl (by decide +kernel) rfl rfl (Nat.le_of_ble_eq_true rfl) dX6_giveBack_38 (E2 := (cf_E cT nc ng (cf_s3 S 6 0 23 0) P O ad)) (cf_upS 6 0 (upd (S 6 0) 23 0) rfl) (fun H locs hW hS => ?_)
        refine lv_aload_n hx hb dX6_giveBack_41 rfl (lv_at hl 0 rfl) ?_
        refine cf_get (v := .int 0) (ci := 6) (C := RX6) (T := TX6) (N := 24) hx hb hts (fun _ h => List.mem_cons_of_mem _ (List.mem_append_right _ (h))) hown hT.1 hW cf_e6 rfl 23 (by decide) (hts (.fieldLink RX6 70 "GameCafeModel" "thrown" "I") (List.mem_of_getElem? (i := 1) rfl)) (fun _ h9 => h9) (congrArg (fun x => some (Value.int x)) (by simp [cf_s3, cf_g2, upd] : (cf_s3 S 6 0 23 0) 6 0 23 = 0)) dX6_giveBack_42 ?_
        refine lv_if_le (tgt := 50) hx hb dX6_giveBack_45 (by decide) (fun c45_8 => ?_) (fun c45_8 => (by first | exact absurd (by decide) c45_8 | exact absurd c45_8 (by decide)))
        obtain ⟨b0, hb0, hxb⟩ := hi
        obtain ⟨k, hk, hyk⟩ := hy
        have hlen := hlent b0 hb0
        refine lv_aload_n hx hb dX6_giveBack_50 rfl (lv_at hl 0 rfl) ?_
        refine cf_get (v := .ref (ad 17 21)) (ci := 6) (C := RX6) (T := TX6) (N := 24) hx hb hts (fun _ h => List.mem_cons_of_mem _ (List.mem_append_right _ (h))) hown hT.1 hW cf_e6 rfl 21 (by decide) (hts (.fieldLink RX6 64 "GameCafeModel" "lent" "[I") (List.mem_of_getElem? (i := 2) rfl)) (fun _ h9 => h9) rfl dX6_giveBack_51 ?_
        refine lv_iload_n hx hb dX6_giveBack_54 rfl (lv_at hl 1 rfl) ?_
        refine cf_ildN (t0 := 0) (n := 6) (f := (cf_s3 S 6 0 23 0) 17 21) (v := (S 17 21 b0)) hx hb hT.1 hW (cf_e17 (i := 21) (by decide)) rfl b0 hxb hb0 (by decide) dX6_giveBack_55 (by simp [cf_s3, cf_g2, upd] : (cf_s3 S 6 0 23 0) 17 21 b0 = S 17 21 b0) ?_
        refine lv_iconst (v := 1) hx hb dX6_giveBack_56 (by decide) ?_
        refine lv_isub hx hb dX6_giveBack_57 ?_
        refine lv_istore (lv' := [(4, .int ((S 17 21 b0) - 1)), (0, .ref (ad 6 0)), (1, .int x), (2, .int y), (3, .int a1)]) hx hb dX6_giveBack_58 hl (by decide) rfl (fun ls hl => ?_)
        refine lv_iload hx hb dX6_giveBack_60 (lv_at hl 0 rfl) ?_
        refine lv_iconst (v := (-1)) hx hb dX6_giveBack_62 (by decide) ?_
        refine lv_icmp_eq (tgt := 81) hx hb dX6_giveBack_63 (by decide) (fun c63_9 => ?_) (fun c63_9 => ?_)
        · refine lv_aload_n hx hb dX6_giveBack_81 rfl (lv_at hl 1 rfl) ?_
          refine lv_iconst (v := 3) hx hb dX6_giveBack_82 (by decide) ?_
          refine va_calli (va_runV (As := [.int 3]) (rest := []) ⟨hx, hb, hml, hown, hts⟩ (c_X6_fails l D cT z ad nc ng (cf_s3 S 6 0 23 0) P O 3) (cwV 1 hts gX6_giveBack_X6_fails rfl rfl rfl (by decide +kernel) ⟨Nat.le_of_ble_eq_true rfl, Nat.le_of_ble_eq_true rfl⟩) (cf_preV (T := TX6) (N := 24) hT hS hW cf_e6 rfl) rfl rfl hl.1 rfl (lv_room (Nat.le_of_ble_eq_true rfl)) dX6_giveBack_83 ⟨Nat.le_of_ble_eq_true rfl, Nat.le_of_ble_eq_true rfl⟩) hS (fun _ _ h => h) (fun _ h => h) (fun r10 ur10 t9 H locs ht hvm hw hW hz1 hk1 hS => ?_)
          have hW := cf_W.er ht hW
          obtain ⟨hr0, hT0⟩ := hw
          subst hT0
          exact W.iret (v := r10) hx hb hr (fun t9 ht9 hw9 => ⟨⟨r10, (cf_s3 (cf_s3 S 6 0 23 0) 6 0 23 3), rfl, Or.inr (Or.inr ⟨b0, k, hb0, hxb, hk, hyk, b1, Or.inl ⟨Or.inl c63_9, rfl⟩⟩), cf_W.re ht9 hW⟩, hS.F ht9⟩) hS.2.2 dX6_giveBack_86
        · obtain ⟨cp, hc, hcp⟩ : ∃ cp : Nat, cp < nc ∧ S 17 21 b0 - 1 = nI cp := by
            rcases hlen with h9 | ⟨cp, hc, h9⟩
            · exact absurd (by rw [h9]; rfl) c63_9
            · exact ⟨cp, hc, by rw [h9]; exact nI_pred cp⟩
          refine lv_aload_n hx hb dX6_giveBack_66 rfl (lv_at hl 1 rfl) ?_
          refine cf_get (v := .ref (ad 17 14)) (ci := 6) (C := RX6) (T := TX6) (N := 24) hx hb hts (fun _ h => List.mem_cons_of_mem _ (List.mem_append_right _ (h))) hown hT.1 hW cf_e6 rfl 14 (by decide) (hts (.fieldLink RX6 46 "GameCafeModel" "parts" "[I") (List.mem_of_getElem? (i := 3) rfl)) (fun _ h9 => h9) rfl dX6_giveBack_67 ?_
          refine lv_iconst (v := 4) hx hb dX6_giveBack_70 (by decide) ?_
          refine lv_iload hx hb dX6_giveBack_71 (lv_at hl 0 rfl) ?_
          refine lv_imul hx hb dX6_giveBack_73 ?_
          refine lv_iload_n hx hb dX6_giveBack_74 rfl (lv_at hl 3 rfl) ?_
          refine lv_iadd hx hb dX6_giveBack_75 ?_
          refine cf_ildN (t0 := 0) (n := 60) (f := (cf_s3 S 6 0 23 0) 17 14) (v := (S 17 14 (4 * cp + k))) hx hb hT.1 hW (cf_e17 (i := 14) (by decide)) rfl (4 * cp + k) (cf_ix4 hcp hyk) (by omega) (by decide) dX6_giveBack_76 (by simp [cf_s3, cf_g2, upd] : (cf_s3 S 6 0 23 0) 17 14 (4 * cp + k) = S 17 14 (4 * cp + k)) ?_
          refine lv_iload_n hx hb dX6_giveBack_77 rfl (lv_at hl 4 rfl) ?_
          refine lv_icmp_ge (tgt := 87) hx hb dX6_giveBack_78 (by decide) (fun c78_11 => ?_) (fun c78_11 => ?_)
          · refine lv_aload_n hx hb dX6_giveBack_87 rfl (lv_at hl 1 rfl) ?_
            refine cf_get (v := .ref (ad 17 14)) (ci := 6) (C := RX6) (T := TX6) (N := 24) hx hb hts (fun _ h => List.mem_cons_of_mem _ (List.mem_append_right _ (h))) hown hT.1 hW cf_e6 rfl 14 (by decide) (hts (.fieldLink RX6 46 "GameCafeModel" "parts" "[I") (List.mem_of_getElem? (i := 3) rfl)) (fun _ h9 => h9) rfl dX6_giveBack_88 ?_
            refine lv_iconst (v := 4) hx hb dX6_giveBack_91 (by decide) ?_
            refine lv_iload hx hb dX6_giveBack_92 (lv_at hl 0 rfl) ?_
            refine lv_imul hx hb dX6_giveBack_94 ?_
            refine lv_iload_n hx hb dX6_giveBack_95 rfl (lv_at hl 3 rfl) ?_
            refine lv_iadd hx hb dX6_giveBack_96 ?_
            refine lv_dup2_11 hx hb dX6_giveBack_97 rfl rfl ?_
            refine cf_ildN (t0 := 0) (n := 60) (f := (cf_s3 S 6 0 23 0) 17 14) (v := (S 17 14 (4 * cp + k))) hx hb hT.1 hW (cf_e17 (i := 14) (by decide)) rfl (4 * cp + k) (cf_ix4 hcp hyk) (by omega) (by decide) dX6_giveBack_98 (by simp [cf_s3, cf_g2, upd] : (cf_s3 S 6 0 23 0) 17 14 (4 * cp + k) = S 17 14 (4 * cp + k)) ?_
            refine lv_iload_n hx hb dX6_giveBack_99 rfl (lv_at hl 4 rfl) ?_
            refine lv_isub hx hb dX6_giveBack_100 ?_
            refine cf_istN (t0 := 0) (n := 60) (f := (cf_s3 S 6 0 23 0) 17 14) hx hb hT.1 hW hS (cf_e17 (i := 14) (by decide)) rfl (4 * cp + k) (cf_ix4 hcp hyk) (by omega) (by decide) dX6_giveBack_101 (E2 := (cf_E cT nc ng (cf_s3 (cf_s3 S 6 0 23 0) 17 14 (4 * cp + k) ((S 17 14 (4 * cp + k)) - a1)) P O ad)) (cf_upS 17 14 (upd ((cf_s3 S 6 0 23 0) 17 14) (4 * cp + k) ((S 17 14 (4 * cp + k)) - a1)) (cf_c17 (i := 14) (by decide))) (fun H locs hW hS => ?_)
            refine lv_aload_n hx hb dX6_giveBack_102 rfl (lv_at hl 1 rfl) ?_
            refine cf_get (v := .ref (ad 17 13)) (ci := 6) (C := RX6) (T := TX6) (N := 24) hx hb hts (fun _ h => List.mem_cons_of_mem _ (List.mem_append_right _ (h))) hown hT.1 hW cf_e6 rfl 13 (by decide) (hts (.fieldLink RX6 43 "GameCafeModel" "places" "[I") (List.mem_of_getElem? (i := 4) rfl)) (fun _ h9 => h9) rfl dX6_giveBack_103 ?_
            refine lv_iload hx hb dX6_giveBack_106 (lv_at hl 0 rfl) ?_
            refine lv_iconst (v := 0) hx hb dX6_giveBack_108 (by decide) ?_
            refine cf_istN (t0 := 0) (n := 15) (f := (cf_s3 (cf_s3 S 6 0 23 0) 17 14 (4 * cp + k) ((S 17 14 (4 * cp + k)) - a1)) 17 13) hx hb hT.1 hW hS (cf_e17 (i := 13) (by decide)) rfl cp hcp (by omega) (by decide) dX6_giveBack_109 (E2 := (cf_E cT nc ng (cf_s3 (cf_s3 (cf_s3 S 6 0 23 0) 17 14 (4 * cp + k) ((S 17 14 (4 * cp + k)) - a1)) 17 13 cp 0) P O ad)) (cf_upS 17 13 (upd ((cf_s3 (cf_s3 S 6 0 23 0) 17 14 (4 * cp + k) ((S 17 14 (4 * cp + k)) - a1)) 17 13) cp 0) (cf_c17 (i := 13) (by decide))) (fun H locs hW hS => ?_)
            refine lv_aload_n hx hb dX6_giveBack_110 rfl (lv_at hl 1 rfl) ?_
            refine cf_get (v := .ref (ad 17 21)) (ci := 6) (C := RX6) (T := TX6) (N := 24) hx hb hts (fun _ h => List.mem_cons_of_mem _ (List.mem_append_right _ (h))) hown hT.1 hW cf_e6 rfl 21 (by decide) (hts (.fieldLink RX6 64 "GameCafeModel" "lent" "[I") (List.mem_of_getElem? (i := 2) rfl)) (fun _ h9 => h9) rfl dX6_giveBack_111 ?_
            refine lv_iload_n hx hb dX6_giveBack_114 rfl (lv_at hl 2 rfl) ?_
            refine lv_iconst (v := 0) hx hb dX6_giveBack_115 (by decide) ?_
            refine cf_istN (t0 := 0) (n := 6) (f := (cf_s3 (cf_s3 (cf_s3 S 6 0 23 0) 17 14 (4 * cp + k) ((S 17 14 (4 * cp + k)) - a1)) 17 13 cp 0) 17 21) hx hb hT.1 hW hS (cf_e17 (i := 21) (by decide)) rfl b0 hxb hb0 (by decide) dX6_giveBack_116 (E2 := (cf_E cT nc ng (cf_s3 (cf_s3 (cf_s3 (cf_s3 S 6 0 23 0) 17 14 (4 * cp + k) ((S 17 14 (4 * cp + k)) - a1)) 17 13 cp 0) 17 21 b0 0) P O ad)) (cf_upS 17 21 (upd ((cf_s3 (cf_s3 (cf_s3 S 6 0 23 0) 17 14 (4 * cp + k) ((S 17 14 (4 * cp + k)) - a1)) 17 13 cp 0) 17 21) b0 0) (cf_c17 (i := 21) (by decide))) (fun H locs hW hS => ?_)
            refine lv_aload_n hx hb dX6_giveBack_117 rfl (lv_at hl 1 rfl) ?_
            refine cf_get (v := .ref (ad 17 22)) (ci := 6) (C := RX6) (T := TX6) (N := 24) hx hb hts (fun _ h => List.mem_cons_of_mem _ (List.mem_append_right _ (h))) hown hT.1 hW cf_e6 rfl 22 (by decide) (hts (.fieldLink RX6 67 "GameCafeModel" "deposits" "[I") (List.mem_of_getElem? (i := 5) rfl)) (fun _ h9 => h9) rfl dX6_giveBack_118 ?_
            refine lv_iload_n hx hb dX6_giveBack_121 rfl (lv_at hl 2 rfl) ?_
            refine cf_ildN (t0 := 0) (n := 6) (f := (cf_s3 (cf_s3 (cf_s3 (cf_s3 S 6 0 23 0) 17 14 (4 * cp + k) ((S 17 14 (4 * cp + k)) - a1)) 17 13 cp 0) 17 21 b0 0) 17 22) (v := (S 17 22 b0)) hx hb hT.1 hW (cf_e17 (i := 22) (by decide)) rfl b0 hxb hb0 (by decide) dX6_giveBack_122 (by simp [cf_s3, cf_g2, upd] : (cf_s3 (cf_s3 (cf_s3 (cf_s3 S 6 0 23 0) 17 14 (4 * cp + k) ((S 17 14 (4 * cp + k)) - a1)) 17 13 cp 0) 17 21 b0 0) 17 22 b0 = S 17 22 b0) ?_
            refine lv_bipush (v := 100) hx hb dX6_giveBack_123 (by decide) ?_
            refine lv_iload_n hx hb dX6_giveBack_125 rfl (lv_at hl 3 rfl) ?_
            refine lv_iconst (v := 1) hx hb dX6_giveBack_126 (by decide) ?_
            refine lv_iadd hx hb dX6_giveBack_127 ?_
            refine lv_imul hx hb dX6_giveBack_128 ?_
            refine lv_iload_n hx hb dX6_giveBack_129 rfl (lv_at hl 4 rfl) ?_
            refine lv_imul hx hb dX6_giveBack_130 ?_
            refine lv_isub hx hb dX6_giveBack_131 ?_
            exact W.iret (v := ((S 17 22 b0) - ((100 * (y + 1)) * a1))) hx hb hr (fun t9 ht9 hw9 => ⟨⟨((S 17 22 b0) - ((100 * (y + 1)) * a1)), (cf_s3 (cf_s3 (cf_s3 (cf_s3 S 6 0 23 0) 17 14 (4 * cp + k) ((S 17 14 (4 * cp + k)) - a1)) 17 13 cp 0) 17 21 b0 0), rfl, Or.inr (Or.inr ⟨b0, k, hb0, hxb, hk, hyk, b1, Or.inr ⟨cp, hc, hcp, c78_11, rfl, rfl⟩⟩), cf_W.re ht9 hW⟩, hS.F ht9⟩) hS.2.2 dX6_giveBack_132
          · refine lv_aload_n hx hb dX6_giveBack_81 rfl (lv_at hl 1 rfl) ?_
            refine lv_iconst (v := 3) hx hb dX6_giveBack_82 (by decide) ?_
            refine va_calli (va_runV (As := [.int 3]) (rest := []) ⟨hx, hb, hml, hown, hts⟩ (c_X6_fails l D cT z ad nc ng (cf_s3 S 6 0 23 0) P O 3) (cwV 1 hts gX6_giveBack_X6_fails rfl rfl rfl (by decide +kernel) ⟨Nat.le_of_ble_eq_true rfl, Nat.le_of_ble_eq_true rfl⟩) (cf_preV (T := TX6) (N := 24) hT hS hW cf_e6 rfl) rfl rfl hl.1 rfl (lv_room (Nat.le_of_ble_eq_true rfl)) dX6_giveBack_83 ⟨Nat.le_of_ble_eq_true rfl, Nat.le_of_ble_eq_true rfl⟩) hS (fun _ _ h => h) (fun _ h => h) (fun r12 ur12 t9 H locs ht hvm hw hW hz1 hk1 hS => ?_)
            have hW := cf_W.er ht hW
            obtain ⟨hr0, hT0⟩ := hw
            subst hT0
            exact W.iret (v := r12) hx hb hr (fun t9 ht9 hw9 => ⟨⟨r12, (cf_s3 (cf_s3 S 6 0 23 0) 6 0 23 3), rfl, Or.inr (Or.inr ⟨b0, k, hb0, hxb, hk, hyk, b1, Or.inl ⟨Or.inr ⟨cp, hc, hcp, c78_11⟩, rfl⟩⟩), cf_W.re ht9 hW⟩, hS.F ht9⟩) hS.2.2 dX6_giveBack_86
      · have b1 := k1.f c30_7
        refine lv_iconst (v := 2) hx hb dX6_giveBack_33 (by decide) ?_
        refine lv_goto (tgt := 38) hx hb dX6_giveBack_34 (by decide) ?_
        refine cf_putE (v := .int 2) (ty := .int) (ci := 6) (C := RX6) (T := TX6) (N := 24) hx hb hts (fun _ h => List.mem_cons_of_mem _ (List.mem_append_right _ (h))) tyX6 tyX6_ok nmX6 hown hT.1 hW hS cf_e6 rfl 23 (by decide) (hts (.fieldLink RX6 70 "GameCafeModel" "thrown" "I") (List.mem_of_getElem? (i := 1) rfl)) (fun _ h9 => h9) rfl (by decide +kernel) rfl rfl (Nat.le_of_ble_eq_true rfl) dX6_giveBack_38 (E2 := (cf_E cT nc ng (cf_s3 S 6 0 23 2) P O ad)) (cf_upS 6 0 (upd (S 6 0) 23 2) rfl) (fun H locs hW hS => ?_)
        refine lv_aload_n hx hb dX6_giveBack_41 rfl (lv_at hl 0 rfl) ?_
        refine cf_get (v := .int 2) (ci := 6) (C := RX6) (T := TX6) (N := 24) hx hb hts (fun _ h => List.mem_cons_of_mem _ (List.mem_append_right _ (h))) hown hT.1 hW cf_e6 rfl 23 (by decide) (hts (.fieldLink RX6 70 "GameCafeModel" "thrown" "I") (List.mem_of_getElem? (i := 1) rfl)) (fun _ h9 => h9) (congrArg (fun x => some (Value.int x)) (by simp [cf_s3, cf_g2, upd] : (cf_s3 S 6 0 23 2) 6 0 23 = 2)) dX6_giveBack_42 ?_
        refine lv_if_le (tgt := 50) hx hb dX6_giveBack_45 (by decide) (fun c45_13 => (by first | exact absurd c45_13 (by decide) | exact absurd (by decide) c45_13)) (fun c45_13 => ?_)
        refine lv_iconst (v := 0) hx hb dX6_giveBack_48 (by decide) ?_
        exact W.iret (v := 0) hx hb hr (fun t9 ht9 hw9 => ⟨⟨0, (cf_s3 S 6 0 23 2), rfl, Or.inr (Or.inl ⟨⟨hi, hy⟩, b1, rfl⟩), cf_W.re ht9 hW⟩, hS.F ht9⟩) hS.2.2 dX6_giveBack_49
    · have hy := k0.f c16_5
      refine lv_iconst (v := 1) hx hb dX6_giveBack_19 (by decide) ?_
      refine lv_goto (tgt := 38) hx hb dX6_giveBack_20 (by decide) ?_
      refine cf_putE (v := .int 1) (ty := .int) (ci := 6) (C := RX6) (T := TX6) (N := 24) hx hb hts (fun _ h => List.mem_cons_of_mem _ (List.mem_append_right _ (h))) tyX6 tyX6_ok nmX6 hown hT.1 hW hS cf_e6 rfl 23 (by decide) (hts (.fieldLink RX6 70 "GameCafeModel" "thrown" "I") (List.mem_of_getElem? (i := 1) rfl)) (fun _ h9 => h9) rfl (by decide +kernel) rfl rfl (Nat.le_of_ble_eq_true rfl) dX6_giveBack_38 (E2 := (cf_E cT nc ng (cf_s3 S 6 0 23 1) P O ad)) (cf_upS 6 0 (upd (S 6 0) 23 1) rfl) (fun H locs hW hS => ?_)
      refine lv_aload_n hx hb dX6_giveBack_41 rfl (lv_at hl 0 rfl) ?_
      refine cf_get (v := .int 1) (ci := 6) (C := RX6) (T := TX6) (N := 24) hx hb hts (fun _ h => List.mem_cons_of_mem _ (List.mem_append_right _ (h))) hown hT.1 hW cf_e6 rfl 23 (by decide) (hts (.fieldLink RX6 70 "GameCafeModel" "thrown" "I") (List.mem_of_getElem? (i := 1) rfl)) (fun _ h9 => h9) (congrArg (fun x => some (Value.int x)) (by simp [cf_s3, cf_g2, upd] : (cf_s3 S 6 0 23 1) 6 0 23 = 1)) dX6_giveBack_42 ?_
      refine lv_if_le (tgt := 50) hx hb dX6_giveBack_45 (by decide) (fun c45_14 => (by first | exact absurd c45_14 (by decide) | exact absurd (by decide) c45_14)) (fun c45_14 => ?_)
      refine lv_iconst (v := 0) hx hb dX6_giveBack_48 (by decide) ?_
      exact W.iret (v := 0) hx hb hr (fun t9 ht9 hw9 => ⟨⟨0, (cf_s3 S 6 0 23 1), rfl, Or.inl ⟨fun q => hy q.2, rfl⟩, cf_W.re ht9 hW⟩, hS.F ht9⟩) hS.2.2 dX6_giveBack_49
