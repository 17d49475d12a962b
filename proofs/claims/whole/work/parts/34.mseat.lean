set_option maxHeartbeats 4000000 in
set_option maxRecDepth 100000 in
/-- X6_seat -/
theorem c_X6_seat (l : Launch) (D : va_G) (cT : Nat → ClassId) (z : Nat) (ad : cf_Ad) (nc ng : Nat) (S : cf_S) (P : cf_Pt) (O : Nat → Int64) (x y b1 : Int32) (n : Nat) (hn2 : S 6 0 15 = nI n) (hn60 : n ≤ 60) (hn : S 6 0 11 = nI nc) (hnc : nc ≤ 15) (hM : ∀ j, j < nc → S 17 12 j = nI (P 0 j 0) ∧ P 0 j 0 < 5) : Met l yX6_seat wsX6_seat ({ frames := 2, cells := 0, slots := 0, locals := 45 }) (va_Pc [.ref (ad 6 0), .int x, .int y, .int b1] (cf_P D cT z (cf_E cT nc ng S P O ad) ad)) (cf_Qi D z (fun (r : Int32) (T : cf_S) => (¬ cf_ix y 5 ∧ T = (cf_s3 S 6 0 23 1)) ∨ ∃ gm : Nat, gm < 5 ∧ y = nI gm ∧ ((¬ (cf_rg x 1 8 ∧ cf_rg x (S 17 1 gm) (S 17 2 gm)) ∧ T = (cf_s3 S 6 0 23 2)) ∨ ((cf_rg x 1 8 ∧ cf_rg x (S 17 1 gm) (S 17 2 gm)) ∧ ∃ tb cb sb : Option Nat, tb = cf_best (cf_okTM S x) (cf_ltTM S) 6 ∧ cf_fst (cf_okCM S P gm) nc cb ∧ ((¬ b1 = 0 ∧ sb = some 0) ∨ (b1 = 0 ∧ cf_fst (cf_okSM S gm) 3 sb)) ∧ ((¬ (n < 60 ∧ ¬ tb = none ∧ ¬ cb = none ∧ ¬ sb = none) ∧ T = cf_s3 (cf_s3 S 6 0 23 0) 6 0 23 3) ∨ ∃ t c9 u : Nat, n < 60 ∧ tb = some t ∧ cb = some c9 ∧ sb = some u ∧ r = nI n ∧ ((¬ b1 = 0 ∧ T = (cf_s3 (cf_s3 (cf_s3 (cf_s3 (cf_s3 (cf_s3 (cf_s3 (cf_s3 S 6 0 23 0) 17 8 t ((nI n) + 1)) 17 13 c9 1) 17 16 n x) 17 17 n (nI t)) 17 18 n (nI c9)) 17 19 n (S 6 0 0)) 6 0 15 ((nI n) + 1))) ∨ (b1 = 0 ∧ T = (cf_s3 (cf_s3 (cf_s3 (cf_s3 (cf_s3 (cf_s3 (cf_s3 (cf_s3 (cf_s3 S 6 0 23 0) 17 10 u ((S 6 0 0) + (S 17 3 gm))) 17 8 t ((nI n) + 1)) 17 13 c9 1) 17 16 n x) 17 17 n (nI t)) 17 18 n (nI c9)) 17 19 n (S 6 0 0)) 6 0 15 ((nI n) + 1)))))))) (fun T => cf_E cT nc ng T P O ad) (fun _ => ad)) 0 0 (fun q => z ≤ q) := by
  refine Met.ofW (cc := cX6_seat) (maxL := 7) (ret := (some .int)) (by decide) rfl ?_
  intro p e s m args below meth c s₁ B hml hv
  obtain ⟨rfl, hW, hT⟩ := hv
  have hx := B.exec
  have hb := B.bytes
  have hr := B.returns
  have hts := atoms_spec (ws := wsX6_seat) B.pre
  have hown : s.vm.findClass RX6 = some m.cls := findClass_of_methodNamed B.named
  have hlocks := B.notSynchronized
  have hS : va_S (fun q => z ≤ q) s.heap s.heap [] := va_S.rf
  have hl := lv_entry ([.ref (ad 6 0), .int x, .int y, .int b1]) (n := 7) (Nat.le_of_ble_eq_true rfl)
  rw [lg_entry_eq]
  generalize (lg_sl ([.ref (ad 6 0), .int x, .int y, .int b1]) ++ List.replicate (7 - (lg_sl ([.ref (ad 6 0), .int x, .int y, .int b1])).length) Slot.unset).toArray = ls at hl ⊢
  have hl : lv_has ls 7 [(0, .ref (ad 6 0)), (1, .int x), (2, .int y), (3, .int b1)] := hl
  skip
  refine lv_aload_n hx hb dX6_seat_0 rfl (lv_at hl 0 rfl) ?_
  refine lv_iload_n hx hb dX6_seat_1 rfl (lv_at hl 2 rfl) ?_
  refine va_calli (va_runS (As := [.int y]) (rest := [.ref (ad 6 0)]) ⟨hx, hb, hml, hown, hts⟩ (c_X6_isGame l D cT z ad _ y) (va_cwS 1 hts gX6_seat_X6_isGame rfl rfl rfl (by decide +kernel) ⟨Nat.le_of_ble_eq_true rfl, Nat.le_of_ble_eq_true rfl⟩) (cf_preS hT hS hW) rfl rfl hl.1 rfl (lv_room (Nat.le_of_ble_eq_true rfl)) dX6_seat_2 ⟨Nat.le_of_ble_eq_true rfl, Nat.le_of_ble_eq_true rfl⟩) hS (fun _ _ h => h) (fun _ h => h) (fun r1 ur1 t9 H locs ht hvm hw hW hz1 hk1 hS => ?_)
  have hW := cf_W.er ht hW
  have h0 := hw
  refine lv_if_ne (tgt := 12) hx hb dX6_seat_5 (by decide) (fun c5_2 => ?_) (fun c5_2 => ?_)
  · have hi := h0.t c5_2
    obtain ⟨gm, hg, hyg⟩ := hi
    refine lv_iload_n hx hb dX6_seat_12 rfl (lv_at hl 1 rfl) ?_
    refine lv_iconst (v := 1) hx hb dX6_seat_13 (by decide) ?_
    refine lv_bipush (v := 8) hx hb dX6_seat_14 (by decide) ?_
    refine va_calli (va_runS (As := [.int x, .int 1, .int 8]) (rest := [.ref (ad 6 0)]) ⟨hx, hb, hml, hown, hts⟩ (c_X6_in l D cT z ad _ x 1 8) (va_cwS 3 hts gX6_seat_X6_in rfl rfl rfl (by decide +kernel) ⟨Nat.le_of_ble_eq_true rfl, Nat.le_of_ble_eq_true rfl⟩) (cf_preS hT hS hW) rfl rfl hl.1 rfl (lv_room (Nat.le_of_ble_eq_true rfl)) dX6_seat_16 ⟨Nat.le_of_ble_eq_true rfl, Nat.le_of_ble_eq_true rfl⟩) hS (fun _ _ h => h) (fun _ h => h) (fun r3 ur3 t9 H locs ht hvm hw hW hz1 hk1 hS => ?_)
    have hW := cf_W.er ht hW
    have k0 := hw
    refine lv_if_eq (tgt := 41) hx hb dX6_seat_19 (by decide) (fun c19_4 => ?_) (fun c19_4 => ?_)
    · have h18 := k0.f c19_4
      refine lv_iconst (v := 2) hx hb dX6_seat_41 (by decide) ?_
      refine lv_goto (tgt := 46) hx hb dX6_seat_42 (by decide) ?_
      refine cf_putE (v := .int 2) (ty := .int) (ci := 6) (C := RX6) (T := TX6) (N := 24) hx hb hts (fun _ h => List.mem_cons_of_mem _ (List.mem_append_right _ (h))) tyX6 tyX6_ok nmX6 hown hT.1 hW hS cf_e6 rfl 23 (by decide) (hts (.fieldLink RX6 70 "GameCafeModel" "thrown" "I") (List.mem_of_getElem? (i := 3) rfl)) (fun _ h9 => h9) rfl (by decide +kernel) rfl rfl (Nat.le_of_ble_eq_true rfl) dX6_seat_46 (E2 := (cf_E cT nc ng (cf_s3 S 6 0 23 2) P O ad)) (cf_upS 6 0 (upd (S 6 0) 23 2) rfl) (fun H locs hW hS => ?_)
      refine lv_aload_n hx hb dX6_seat_49 rfl (lv_at hl 0 rfl) ?_
      refine cf_get (v := .int 2) (ci := 6) (C := RX6) (T := TX6) (N := 24) hx hb hts (fun _ h => List.mem_cons_of_mem _ (List.mem_append_right _ (h))) hown hT.1 hW cf_e6 rfl 23 (by decide) (hts (.fieldLink RX6 70 "GameCafeModel" "thrown" "I") (List.mem_of_getElem? (i := 3) rfl)) (fun _ h9 => h9) (congrArg (fun x => some (Value.int x)) (by simp [cf_s3, cf_g2, upd] : (cf_s3 S 6 0 23 2) 6 0 23 = 2)) dX6_seat_50 ?_
      refine lv_if_le (tgt := 58) hx hb dX6_seat_53 (by decide) (fun c53_5 => (by first | exact absurd c53_5 (by decide) | exact absurd (by decide) c53_5)) (fun c53_5 => ?_)
      refine lv_iconst (v := 0) hx hb dX6_seat_56 (by decide) ?_
      exact W.iret (v := 0) hx hb hr (fun t9 ht9 hw9 => ⟨⟨0, (cf_s3 S 6 0 23 2), rfl, Or.inr ⟨gm, hg, hyg, Or.inl ⟨fun q => h18 q.1, rfl⟩⟩, cf_W.re ht9 hW⟩, hS.F ht9⟩) hS.2.2 dX6_seat_57
    · have h18 := k0.t c19_4
      refine lv_iload_n hx hb dX6_seat_22 rfl (lv_at hl 1 rfl) ?_
      refine lv_aload_n hx hb dX6_seat_23 rfl (lv_at hl 0 rfl) ?_
      refine cf_get (v := .ref (ad 17 1)) (ci := 6) (C := RX6) (T := TX6) (N := 24) hx hb hts (fun _ h => List.mem_cons_of_mem _ (List.mem_append_right _ (h))) hown hT.1 hW cf_e6 rfl 1 (by decide) (hts (.fieldLink RX6 7 "GameCafeModel" "leasts" "[I") (List.mem_of_getElem? (i := 1) rfl)) (fun _ h9 => h9) rfl dX6_seat_24 ?_
      refine lv_iload_n hx hb dX6_seat_27 rfl (lv_at hl 2 rfl) ?_
      refine cf_ildN (t0 := 0) (n := 5) (f := S 17 1) (v := (S 17 1 gm)) hx hb hT.1 hW (cf_e17 (i := 1) (by decide)) rfl gm hyg hg (by decide) dX6_seat_28 rfl ?_
      refine lv_aload_n hx hb dX6_seat_29 rfl (lv_at hl 0 rfl) ?_
      refine cf_get (v := .ref (ad 17 2)) (ci := 6) (C := RX6) (T := TX6) (N := 24) hx hb hts (fun _ h => List.mem_cons_of_mem _ (List.mem_append_right _ (h))) hown hT.1 hW cf_e6 rfl 2 (by decide) (hts (.fieldLink RX6 13 "GameCafeModel" "mosts" "[I") (List.mem_of_getElem? (i := 2) rfl)) (fun _ h9 => h9) rfl dX6_seat_30 ?_
      refine lv_iload_n hx hb dX6_seat_33 rfl (lv_at hl 2 rfl) ?_
      refine cf_ildN (t0 := 0) (n := 5) (f := S 17 2) (v := (S 17 2 gm)) hx hb hT.1 hW (cf_e17 (i := 2) (by decide)) rfl gm hyg hg (by decide) dX6_seat_34 rfl ?_
      refine va_calli (va_runS (As := [.int x, .int (S 17 1 gm), .int (S 17 2 gm)]) (rest := [.ref (ad 6 0)]) ⟨hx, hb, hml, hown, hts⟩ (c_X6_in l D cT z ad _ x (S 17 1 gm) (S 17 2 gm)) (va_cwS 3 hts gX6_seat_X6_in rfl rfl rfl (by decide +kernel) ⟨Nat.le_of_ble_eq_true rfl, Nat.le_of_ble_eq_true rfl⟩) (cf_preS hT hS hW) rfl rfl hl.1 rfl (lv_room (Nat.le_of_ble_eq_true rfl)) dX6_seat_35 ⟨Nat.le_of_ble_eq_true rfl, Nat.le_of_ble_eq_true rfl⟩) hS (fun _ _ h => h) (fun _ h => h) (fun r6 ur6 t9 H locs ht hvm hw hW hz1 hk1 hS => ?_)
      have hW := cf_W.er ht hW
      have k1 := hw
      refine lv_if_ne (tgt := 45) hx hb dX6_seat_38 (by decide) (fun c38_7 => ?_) (fun c38_7 => ?_)
      · have hlm := k1.t c38_7
        have hR := And.intro h18 hlm
        refine lv_iconst (v := 0) hx hb dX6_seat_45 (by decide) ?_
        refine cf_putE (v := .int 0) (ty := .int) (ci := 6) (C := RX6) (T := TX6) (N := 24) hx hb hts (fun _ h => List.mem_cons_of_mem _ (List.mem_append_right _ (h))) tyX6 tyX6_ok nmX6 hown hT.1 hW hS cf_e6 rfl 23 (by decide) (hts (.fieldLink RX6 70 "GameCafeModel" "thrown" "I") (List.mem_of_getElem? (i := 3) rfl)) (fun _ h9 => h9) rfl (by decide +kernel) rfl rfl (Nat.le_of_ble_eq_true rfl) dX6_seat_46 (E2 := (cf_E cT nc ng (cf_s3 S 6 0 23 0) P O ad)) (cf_upS 6 0 (upd (S 6 0) 23 0) rfl) (fun H locs hW hS => ?_)
        refine lv_aload_n hx hb dX6_seat_49 rfl (lv_at hl 0 rfl) ?_
        refine cf_get (v := .int 0) (ci := 6) (C := RX6) (T := TX6) (N := 24) hx hb hts (fun _ h => List.mem_cons_of_mem _ (List.mem_append_right _ (h))) hown hT.1 hW cf_e6 rfl 23 (by decide) (hts (.fieldLink RX6 70 "GameCafeModel" "thrown" "I") (List.mem_of_getElem? (i := 3) rfl)) (fun _ h9 => h9) (congrArg (fun x => some (Value.int x)) (by simp [cf_s3, cf_g2, upd] : (cf_s3 S 6 0 23 0) 6 0 23 = 0)) dX6_seat_50 ?_
        refine lv_if_le (tgt := 58) hx hb dX6_seat_53 (by decide) (fun c53_8 => ?_) (fun c53_8 => (by first | exact absurd (by decide) c53_8 | exact absurd c53_8 (by decide)))
        refine lv_aload_n hx hb dX6_seat_58 rfl (lv_at hl 0 rfl) ?_
        refine lv_iload_n hx hb dX6_seat_59 rfl (lv_at hl 1 rfl) ?_
        refine va_calli (va_runV (As := [.int x]) (rest := []) ⟨hx, hb, hml, hown, hts⟩ (c_X6_tableFor l D cT z ad nc ng (cf_s3 S 6 0 23 0) P O x) (cwV 1 hts gX6_seat_X6_tableFor rfl rfl rfl (by decide +kernel) ⟨Nat.le_of_ble_eq_true rfl, Nat.le_of_ble_eq_true rfl⟩) (cf_preV (T := TX6) (N := 24) hT hS hW cf_e6 rfl) rfl rfl hl.1 rfl (lv_room (Nat.le_of_ble_eq_true rfl)) dX6_seat_60 ⟨Nat.le_of_ble_eq_true rfl, Nat.le_of_ble_eq_true rfl⟩) hS (fun _ _ h => h) (fun _ h => h) (fun r9 ur9 t9 H locs ht hvm hw hW hz1 hk1 hS => ?_)
        have hW := cf_W.er ht hW
        obtain ⟨b0, hb0, hrb⟩ := hw
        subst hrb
        have hb0 : b0 = cf_best (cf_okTM S x) (cf_ltTM S) 6 := hb0
        refine lv_istore (lv' := [(4, .int (cf_oi b0)), (0, .ref (ad 6 0)), (1, .int x), (2, .int y), (3, .int b1)]) hx hb dX6_seat_63 hl (by decide) rfl (fun ls hl => ?_)
        refine lv_aload_n hx hb dX6_seat_65 rfl (lv_at hl 1 rfl) ?_
        refine lv_iload_n hx hb dX6_seat_66 rfl (lv_at hl 3 rfl) ?_
        refine va_calli (va_runV (As := [.int y]) (rest := []) ⟨hx, hb, hml, hown, hts⟩ (c_X6_copyFor l D cT z ad nc ng (cf_s3 S 6 0 23 0) P O y hyg hg hn hnc hM) (cwV 1 hts gX6_seat_X6_copyFor rfl rfl rfl (by decide +kernel) ⟨Nat.le_of_ble_eq_true rfl, Nat.le_of_ble_eq_true rfl⟩) (cf_preV (T := TX6) (N := 24) hT hS hW cf_e6 rfl) rfl rfl hl.1 rfl (lv_room (Nat.le_of_ble_eq_true rfl)) dX6_seat_67 ⟨Nat.le_of_ble_eq_true rfl, Nat.le_of_ble_eq_true rfl⟩) hS (fun _ _ h => h) (fun _ h => h) (fun r10 ur10 t9 H locs ht hvm hw hW hz1 hk1 hS => ?_)
        have hW := cf_W.er ht hW
        obtain ⟨c0, hc0, hrc⟩ := hw
        subst hrc
        have hc0 : cf_fst (cf_okCM S P gm) nc c0 := hc0
        refine lv_istore (lv' := [(5, .int (cf_oi c0)), (4, .int (cf_oi b0)), (0, .ref (ad 6 0)), (1, .int x), (2, .int y), (3, .int b1)]) hx hb dX6_seat_70 hl (by decide) rfl (fun ls hl => ?_)
        refine lv_iload_n hx hb dX6_seat_72 rfl (lv_at hl 5 rfl) ?_
        refine lv_if_eq (tgt := 80) hx hb dX6_seat_73 (by decide) (fun c73_11 => ?_) (fun c73_11 => ?_)
        · refine lv_aload_n hx hb dX6_seat_80 rfl (lv_at hl 2 rfl) ?_
          refine lv_iload_n hx hb dX6_seat_81 rfl (lv_at hl 4 rfl) ?_
          refine va_calli (va_runV (As := [.int y]) (rest := []) ⟨hx, hb, hml, hown, hts⟩ (c_X6_teacherFor l D cT z ad nc ng (cf_s3 S 6 0 23 0) P O y hyg hg) (cwV 1 hts gX6_seat_X6_teacherFor rfl rfl rfl (by decide +kernel) ⟨Nat.le_of_ble_eq_true rfl, Nat.le_of_ble_eq_true rfl⟩) (cf_preV (T := TX6) (N := 24) hT hS hW cf_e6 rfl) rfl rfl hl.1 rfl (lv_room (Nat.le_of_ble_eq_true rfl)) dX6_seat_82 ⟨Nat.le_of_ble_eq_true rfl, Nat.le_of_ble_eq_true rfl⟩) hS (fun _ _ h => h) (fun _ h => h) (fun r12 ur12 t9 H locs ht hvm hw hW hz1 hk1 hS => ?_)
          have hW := cf_W.er ht hW
          obtain ⟨u0, hu0, hru⟩ := hw
          subst hru
          have hu0 : cf_fst (cf_okSM S gm) 3 u0 := hu0
          refine lv_istore (lv' := [(6, .int (cf_oi u0)), (5, .int (cf_oi c0)), (4, .int (cf_oi b0)), (0, .ref (ad 6 0)), (1, .int x), (2, .int y), (3, .int b1)]) hx hb dX6_seat_85 hl (by decide) rfl (fun ls hl => ?_)
          refine lv_aload_n hx hb dX6_seat_87 rfl (lv_at hl 3 rfl) ?_
          refine cf_get (v := .int (nI n)) (ci := 6) (C := RX6) (T := TX6) (N := 24) hx hb hts (fun _ h => List.mem_cons_of_mem _ (List.mem_append_right _ (h))) hown hT.1 hW cf_e6 rfl 15 (by decide) (hts (.fieldLink RX6 81 "GameCafeModel" "groups" "I") (List.mem_of_getElem? (i := 4) rfl)) (fun _ h9 => h9) (congrArg (fun x => some (Value.int x)) (by simp [cf_s3, cf_g2, upd, hn2] : (cf_s3 S 6 0 23 0) 6 0 15 = nI n)) dX6_seat_88 ?_
          refine lv_bipush (v := 60) hx hb dX6_seat_91 (by decide) ?_
          refine lv_icmp_eq (tgt := 114) hx hb dX6_seat_93 (by decide) (fun c93_13 => ?_) (fun c93_13 => ?_)
          · refine lv_aload_n hx hb dX6_seat_114 rfl (lv_at hl 3 rfl) ?_
            refine lv_iconst (v := 3) hx hb dX6_seat_115 (by decide) ?_
            refine va_calli (va_runV (As := [.int 3]) (rest := []) ⟨hx, hb, hml, hown, hts⟩ (c_X6_fails l D cT z ad nc ng (cf_s3 S 6 0 23 0) P O 3) (cwV 1 hts gX6_seat_X6_fails rfl rfl rfl (by decide +kernel) ⟨Nat.le_of_ble_eq_true rfl, Nat.le_of_ble_eq_true rfl⟩) (cf_preV (T := TX6) (N := 24) hT hS hW cf_e6 rfl) rfl rfl hl.1 rfl (lv_room (Nat.le_of_ble_eq_true rfl)) dX6_seat_116 ⟨Nat.le_of_ble_eq_true rfl, Nat.le_of_ble_eq_true rfl⟩) hS (fun _ _ h => h) (fun _ h => h) (fun r14 ur14 t9 H locs ht hvm hw hW hz1 hk1 hS => ?_)
            have hW := cf_W.er ht hW
            obtain ⟨hr0, hT0⟩ := hw
            subst hT0
            exact W.iret (v := r14) hx hb hr (fun t9 ht9 hw9 => ⟨⟨r14, (cf_s3 (cf_s3 S 6 0 23 0) 6 0 23 3), rfl, Or.inr ⟨gm, hg, hyg, Or.inr ⟨hR, b0, c0, u0, hb0, hc0, (Or.inr ⟨c73_11, hu0⟩), Or.inl ⟨fun q => absurd q.1 (by have h9 : n = 60 := cf_nI_inj (by omega) (by decide) c93_13; omega), rfl⟩⟩⟩, cf_W.re ht9 hW⟩, hS.F ht9⟩) hS.2.2 dX6_seat_119
          · have hn60 : n < 60 := by rcases Nat.lt_or_ge n 60 with h9 | h9; exact h9; exact absurd (show nI n = 60 by rw [show n = 60 by omega]; rfl) c93_13
            rcases b0 with _ | t
            · have hl : lv_has ls 7 [(6, .int (cf_oi u0)), (5, .int (cf_oi c0)), (4, .int (-1)), (0, .ref (ad 6 0)), (1, .int x), (2, .int y), (3, .int b1)] := hl
              refine lv_iload hx hb dX6_seat_96 (lv_at hl 2 rfl) ?_
              refine lv_iconst (v := (-1)) hx hb dX6_seat_98 (by decide) ?_
              refine lv_icmp_eq (tgt := 114) hx hb dX6_seat_99 (by decide) (fun c99_15 => ?_) (fun c99_15 => (by first | exact absurd rfl c99_15 | exact absurd c99_15 rfl))
              refine lv_aload_n hx hb dX6_seat_114 rfl (lv_at hl 3 rfl) ?_
              refine lv_iconst (v := 3) hx hb dX6_seat_115 (by decide) ?_
              refine va_calli (va_runV (As := [.int 3]) (rest := []) ⟨hx, hb, hml, hown, hts⟩ (c_X6_fails l D cT z ad nc ng (cf_s3 S 6 0 23 0) P O 3) (cwV 1 hts gX6_seat_X6_fails rfl rfl rfl (by decide +kernel) ⟨Nat.le_of_ble_eq_true rfl, Nat.le_of_ble_eq_true rfl⟩) (cf_preV (T := TX6) (N := 24) hT hS hW cf_e6 rfl) rfl rfl hl.1 rfl (lv_room (Nat.le_of_ble_eq_true rfl)) dX6_seat_116 ⟨Nat.le_of_ble_eq_true rfl, Nat.le_of_ble_eq_true rfl⟩) hS (fun _ _ h => h) (fun _ h => h) (fun r16 ur16 t9 H locs ht hvm hw hW hz1 hk1 hS => ?_)
              have hW := cf_W.er ht hW
              obtain ⟨hr0, hT0⟩ := hw
              subst hT0
              exact W.iret (v := r16) hx hb hr (fun t9 ht9 hw9 => ⟨⟨r16, (cf_s3 (cf_s3 S 6 0 23 0) 6 0 23 3), rfl, Or.inr ⟨gm, hg, hyg, Or.inr ⟨hR, none, c0, u0, hb0, hc0, (Or.inr ⟨c73_11, hu0⟩), Or.inl ⟨fun q => q.2.1 rfl, rfl⟩⟩⟩, cf_W.re ht9 hW⟩, hS.F ht9⟩) hS.2.2 dX6_seat_119
            · have hl : lv_has ls 7 [(6, .int (cf_oi u0)), (5, .int (cf_oi c0)), (4, .int (nI t)), (0, .ref (ad 6 0)), (1, .int x), (2, .int y), (3, .int b1)] := hl
              have ht6 : t < 6 := (cf_best_in hb0.symm).1
              refine lv_iload hx hb dX6_seat_96 (lv_at hl 2 rfl) ?_
              refine lv_iconst (v := (-1)) hx hb dX6_seat_98 (by decide) ?_
              refine lv_icmp_eq (tgt := 114) hx hb dX6_seat_99 (by decide) (fun c99_17 => (by first | exact absurd c99_17 (cf_nIm1 (by omega)) | exact absurd (cf_nIm1 (by omega)) c99_17)) (fun c99_17 => ?_)
              rcases c0 with _ | c9
              · have hl : lv_has ls 7 [(6, .int (cf_oi u0)), (5, .int (-1)), (4, .int (nI t)), (0, .ref (ad 6 0)), (1, .int x), (2, .int y), (3, .int b1)] := hl
                refine lv_iload hx hb dX6_seat_102 (lv_at hl 1 rfl) ?_
                refine lv_iconst (v := (-1)) hx hb dX6_seat_104 (by decide) ?_
                refine lv_icmp_eq (tgt := 114) hx hb dX6_seat_105 (by decide) (fun c105_18 => ?_) (fun c105_18 => (by first | exact absurd rfl c105_18 | exact absurd c105_18 rfl))
                refine lv_aload_n hx hb dX6_seat_114 rfl (lv_at hl 3 rfl) ?_
                refine lv_iconst (v := 3) hx hb dX6_seat_115 (by decide) ?_
                refine va_calli (va_runV (As := [.int 3]) (rest := []) ⟨hx, hb, hml, hown, hts⟩ (c_X6_fails l D cT z ad nc ng (cf_s3 S 6 0 23 0) P O 3) (cwV 1 hts gX6_seat_X6_fails rfl rfl rfl (by decide +kernel) ⟨Nat.le_of_ble_eq_true rfl, Nat.le_of_ble_eq_true rfl⟩) (cf_preV (T := TX6) (N := 24) hT hS hW cf_e6 rfl) rfl rfl hl.1 rfl (lv_room (Nat.le_of_ble_eq_true rfl)) dX6_seat_116 ⟨Nat.le_of_ble_eq_true rfl, Nat.le_of_ble_eq_true rfl⟩) hS (fun _ _ h => h) (fun _ h => h) (fun r19 ur19 t9 H locs ht hvm hw hW hz1 hk1 hS => ?_)
                have hW := cf_W.er ht hW
                obtain ⟨hr0, hT0⟩ := hw
                subst hT0
                exact W.iret (v := r19) hx hb hr (fun t9 ht9 hw9 => ⟨⟨r19, (cf_s3 (cf_s3 S 6 0 23 0) 6 0 23 3), rfl, Or.inr ⟨gm, hg, hyg, Or.inr ⟨hR, (some t), none, u0, hb0, hc0, (Or.inr ⟨c73_11, hu0⟩), Or.inl ⟨fun q => q.2.2.1 rfl, rfl⟩⟩⟩, cf_W.re ht9 hW⟩, hS.F ht9⟩) hS.2.2 dX6_seat_119
              · have hl : lv_has ls 7 [(6, .int (cf_oi u0)), (5, .int (nI c9)), (4, .int (nI t)), (0, .ref (ad 6 0)), (1, .int x), (2, .int y), (3, .int b1)] := hl
                have hcn : c9 < nc := (cf_fst_so hc0).1
                refine lv_iload hx hb dX6_seat_102 (lv_at hl 1 rfl) ?_
                refine lv_iconst (v := (-1)) hx hb dX6_seat_104 (by decide) ?_
                refine lv_icmp_eq (tgt := 114) hx hb dX6_seat_105 (by decide) (fun c105_20 => (by first | exact absurd c105_20 (cf_nIm1 (by omega)) | exact absurd (cf_nIm1 (by omega)) c105_20)) (fun c105_20 => ?_)
                rcases u0 with _ | u9
                · have hl : lv_has ls 7 [(6, .int (-1)), (5, .int (nI c9)), (4, .int (nI t)), (0, .ref (ad 6 0)), (1, .int x), (2, .int y), (3, .int b1)] := hl
                  refine lv_iload hx hb dX6_seat_108 (lv_at hl 0 rfl) ?_
                  refine lv_iconst (v := (-1)) hx hb dX6_seat_110 (by decide) ?_
                  refine lv_icmp_ne (tgt := 120) hx hb dX6_seat_111 (by decide) (fun c111_21 => (by first | exact absurd c111_21 rfl | exact absurd rfl c111_21)) (fun c111_21 => ?_)
                  refine lv_aload_n hx hb dX6_seat_114 rfl (lv_at hl 3 rfl) ?_
                  refine lv_iconst (v := 3) hx hb dX6_seat_115 (by decide) ?_
                  refine va_calli (va_runV (As := [.int 3]) (rest := []) ⟨hx, hb, hml, hown, hts⟩ (c_X6_fails l D cT z ad nc ng (cf_s3 S 6 0 23 0) P O 3) (cwV 1 hts gX6_seat_X6_fails rfl rfl rfl (by decide +kernel) ⟨Nat.le_of_ble_eq_true rfl, Nat.le_of_ble_eq_true rfl⟩) (cf_preV (T := TX6) (N := 24) hT hS hW cf_e6 rfl) rfl rfl hl.1 rfl (lv_room (Nat.le_of_ble_eq_true rfl)) dX6_seat_116 ⟨Nat.le_of_ble_eq_true rfl, Nat.le_of_ble_eq_true rfl⟩) hS (fun _ _ h => h) (fun _ h => h) (fun r22 ur22 t9 H locs ht hvm hw hW hz1 hk1 hS => ?_)
                  have hW := cf_W.er ht hW
                  obtain ⟨hr0, hT0⟩ := hw
                  subst hT0
                  exact W.iret (v := r22) hx hb hr (fun t9 ht9 hw9 => ⟨⟨r22, (cf_s3 (cf_s3 S 6 0 23 0) 6 0 23 3), rfl, Or.inr ⟨gm, hg, hyg, Or.inr ⟨hR, (some t), (some c9), none, hb0, hc0, (Or.inr ⟨c73_11, hu0⟩), Or.inl ⟨fun q => q.2.2.2 rfl, rfl⟩⟩⟩, cf_W.re ht9 hW⟩, hS.F ht9⟩) hS.2.2 dX6_seat_119
                · have hl : lv_has ls 7 [(6, .int (nI u9)), (5, .int (nI c9)), (4, .int (nI t)), (0, .ref (ad 6 0)), (1, .int x), (2, .int y), (3, .int b1)] := hl
                  have hu3 : u9 < 3 := (cf_fst_so hu0).1
                  refine lv_iload hx hb dX6_seat_108 (lv_at hl 0 rfl) ?_
                  refine lv_iconst (v := (-1)) hx hb dX6_seat_110 (by decide) ?_
                  refine lv_icmp_ne (tgt := 120) hx hb dX6_seat_111 (by decide) (fun c111_23 => ?_) (fun c111_23 => (by first | exact absurd (cf_nIm1 (by omega)) c111_23 | exact absurd c111_23 (cf_nIm1 (by omega))))
                  refine lv_iload_n hx hb dX6_seat_120 rfl (lv_at hl 6 rfl) ?_
                  refine lv_if_ne (tgt := 142) hx hb dX6_seat_121 (by decide) (fun c121_24 => (by first | exact absurd c121_24 c73_11 | exact absurd c73_11 c121_24)) (fun c121_24 => ?_)
                  refine lv_aload_n hx hb dX6_seat_124 rfl (lv_at hl 3 rfl) ?_
                  refine cf_get (v := .ref (ad 17 10)) (ci := 6) (C := RX6) (T := TX6) (N := 24) hx hb hts (fun _ h => List.mem_cons_of_mem _ (List.mem_append_right _ (h))) hown hT.1 hW cf_e6 rfl 10 (by decide) (hts (.fieldLink RX6 37 "GameCafeModel" "until" "[I") (List.mem_of_getElem? (i := 5) rfl)) (fun _ h9 => h9) rfl dX6_seat_125 ?_
                  refine lv_iload hx hb dX6_seat_128 (lv_at hl 0 rfl) ?_
                  refine lv_aload_n hx hb dX6_seat_130 rfl (lv_at hl 3 rfl) ?_
                  refine cf_get (v := .int (S 6 0 0)) (ci := 6) (C := RX6) (T := TX6) (N := 24) hx hb hts (fun _ h => List.mem_cons_of_mem _ (List.mem_append_right _ (h))) hown hT.1 hW cf_e6 rfl 0 (by decide) (hts (.fieldLink RX6 98 "GameCafeModel" "minute" "I") (List.mem_of_getElem? (i := 6) rfl)) (fun _ h9 => h9) (congrArg (fun x => some (Value.int x)) (by simp [cf_s3, cf_g2, upd] : (cf_s3 S 6 0 23 0) 6 0 0 = S 6 0 0)) dX6_seat_131 ?_
                  refine lv_aload_n hx hb dX6_seat_134 rfl (lv_at hl 3 rfl) ?_
                  refine cf_get (v := .ref (ad 17 3)) (ci := 6) (C := RX6) (T := TX6) (N := 24) hx hb hts (fun _ h => List.mem_cons_of_mem _ (List.mem_append_right _ (h))) hown hT.1 hW cf_e6 rfl 3 (by decide) (hts (.fieldLink RX6 16 "GameCafeModel" "minutes" "[I") (List.mem_of_getElem? (i := 7) rfl)) (fun _ h9 => h9) rfl dX6_seat_135 ?_
                  refine lv_iload_n hx hb dX6_seat_138 rfl (lv_at hl 5 rfl) ?_
                  refine cf_ildN (t0 := 0) (n := 5) (f := (cf_s3 S 6 0 23 0) 17 3) (v := (S 17 3 gm)) hx hb hT.1 hW (cf_e17 (i := 3) (by decide)) rfl gm hyg hg (by decide) dX6_seat_139 (by simp [cf_s3, cf_g2, upd] : (cf_s3 S 6 0 23 0) 17 3 gm = S 17 3 gm) ?_
                  refine lv_iadd hx hb dX6_seat_140 ?_
                  refine cf_istN (t0 := 0) (n := 3) (f := (cf_s3 S 6 0 23 0) 17 10) hx hb hT.1 hW hS (cf_e17 (i := 10) (by decide)) rfl u9 rfl hu3 (by decide) dX6_seat_141 (E2 := (cf_E cT nc ng (cf_s3 (cf_s3 S 6 0 23 0) 17 10 u9 ((S 6 0 0) + (S 17 3 gm))) P O ad)) (cf_upS 17 10 (upd ((cf_s3 S 6 0 23 0) 17 10) u9 ((S 6 0 0) + (S 17 3 gm))) (cf_c17 (i := 10) (by decide))) (fun H locs hW hS => ?_)
                  refine lv_aload_n hx hb dX6_seat_142 rfl (lv_at hl 3 rfl) ?_
                  refine cf_get (v := .ref (ad 17 8)) (ci := 6) (C := RX6) (T := TX6) (N := 24) hx hb hts (fun _ h => List.mem_cons_of_mem _ (List.mem_append_right _ (h))) hown hT.1 hW cf_e6 rfl 8 (by decide) (hts (.fieldLink RX6 31 "GameCafeModel" "taken" "[I") (List.mem_of_getElem? (i := 8) rfl)) (fun _ h9 => h9) rfl dX6_seat_143 ?_
                  refine lv_iload hx hb dX6_seat_146 (lv_at hl 2 rfl) ?_
                  refine lv_aload_n hx hb dX6_seat_148 rfl (lv_at hl 3 rfl) ?_
                  refine cf_get (v := .int (nI n)) (ci := 6) (C := RX6) (T := TX6) (N := 24) hx hb hts (fun _ h => List.mem_cons_of_mem _ (List.mem_append_right _ (h))) hown hT.1 hW cf_e6 rfl 15 (by decide) (hts (.fieldLink RX6 81 "GameCafeModel" "groups" "I") (List.mem_of_getElem? (i := 4) rfl)) (fun _ h9 => h9) (congrArg (fun x => some (Value.int x)) (by simp [cf_s3, cf_g2, upd, hn2] : (cf_s3 (cf_s3 S 6 0 23 0) 17 10 u9 ((S 6 0 0) + (S 17 3 gm))) 6 0 15 = nI n)) dX6_seat_149 ?_
                  refine lv_iconst (v := 1) hx hb dX6_seat_152 (by decide) ?_
                  refine lv_iadd hx hb dX6_seat_153 ?_
                  refine cf_istN (t0 := 0) (n := 6) (f := (cf_s3 (cf_s3 S 6 0 23 0) 17 10 u9 ((S 6 0 0) + (S 17 3 gm))) 17 8) hx hb hT.1 hW hS (cf_e17 (i := 8) (by decide)) rfl t rfl ht6 (by decide) dX6_seat_154 (E2 := (cf_E cT nc ng (cf_s3 (cf_s3 (cf_s3 S 6 0 23 0) 17 10 u9 ((S 6 0 0) + (S 17 3 gm))) 17 8 t ((nI n) + 1)) P O ad)) (cf_upS 17 8 (upd ((cf_s3 (cf_s3 S 6 0 23 0) 17 10 u9 ((S 6 0 0) + (S 17 3 gm))) 17 8) t ((nI n) + 1)) (cf_c17 (i := 8) (by decide))) (fun H locs hW hS => ?_)
                  refine lv_aload_n hx hb dX6_seat_155 rfl (lv_at hl 3 rfl) ?_
                  refine cf_get (v := .ref (ad 17 13)) (ci := 6) (C := RX6) (T := TX6) (N := 24) hx hb hts (fun _ h => List.mem_cons_of_mem _ (List.mem_append_right _ (h))) hown hT.1 hW cf_e6 rfl 13 (by decide) (hts (.fieldLink RX6 43 "GameCafeModel" "places" "[I") (List.mem_of_getElem? (i := 9) rfl)) (fun _ h9 => h9) rfl dX6_seat_156 ?_
                  refine lv_iload hx hb dX6_seat_159 (lv_at hl 1 rfl) ?_
                  refine lv_iconst (v := 1) hx hb dX6_seat_161 (by decide) ?_
                  refine cf_istN (t0 := 0) (n := 15) (f := (cf_s3 (cf_s3 (cf_s3 S 6 0 23 0) 17 10 u9 ((S 6 0 0) + (S 17 3 gm))) 17 8 t ((nI n) + 1)) 17 13) hx hb hT.1 hW hS (cf_e17 (i := 13) (by decide)) rfl c9 rfl (by omega) (by decide) dX6_seat_162 (E2 := (cf_E cT nc ng (cf_s3 (cf_s3 (cf_s3 (cf_s3 S 6 0 23 0) 17 10 u9 ((S 6 0 0) + (S 17 3 gm))) 17 8 t ((nI n) + 1)) 17 13 c9 1) P O ad)) (cf_upS 17 13 (upd ((cf_s3 (cf_s3 (cf_s3 S 6 0 23 0) 17 10 u9 ((S 6 0 0) + (S 17 3 gm))) 17 8 t ((nI n) + 1)) 17 13) c9 1) (cf_c17 (i := 13) (by decide))) (fun H locs hW hS => ?_)
                  refine lv_aload_n hx hb dX6_seat_163 rfl (lv_at hl 3 rfl) ?_
                  refine cf_get (v := .ref (ad 17 16)) (ci := 6) (C := RX6) (T := TX6) (N := 24) hx hb hts (fun _ h => List.mem_cons_of_mem _ (List.mem_append_right _ (h))) hown hT.1 hW cf_e6 rfl 16 (by decide) (hts (.fieldLink RX6 49 "GameCafeModel" "people" "[I") (List.mem_of_getElem? (i := 10) rfl)) (fun _ h9 => h9) rfl dX6_seat_164 ?_
                  refine lv_aload_n hx hb dX6_seat_167 rfl (lv_at hl 3 rfl) ?_
                  refine cf_get (v := .int (nI n)) (ci := 6) (C := RX6) (T := TX6) (N := 24) hx hb hts (fun _ h => List.mem_cons_of_mem _ (List.mem_append_right _ (h))) hown hT.1 hW cf_e6 rfl 15 (by decide) (hts (.fieldLink RX6 81 "GameCafeModel" "groups" "I") (List.mem_of_getElem? (i := 4) rfl)) (fun _ h9 => h9) (congrArg (fun x => some (Value.int x)) (by simp [cf_s3, cf_g2, upd, hn2] : (cf_s3 (cf_s3 (cf_s3 (cf_s3 S 6 0 23 0) 17 10 u9 ((S 6 0 0) + (S 17 3 gm))) 17 8 t ((nI n) + 1)) 17 13 c9 1) 6 0 15 = nI n)) dX6_seat_168 ?_
                  refine lv_iload_n hx hb dX6_seat_171 rfl (lv_at hl 4 rfl) ?_
                  refine cf_istN (t0 := 0) (n := 60) (f := (cf_s3 (cf_s3 (cf_s3 (cf_s3 S 6 0 23 0) 17 10 u9 ((S 6 0 0) + (S 17 3 gm))) 17 8 t ((nI n) + 1)) 17 13 c9 1) 17 16) hx hb hT.1 hW hS (cf_e17 (i := 16) (by decide)) rfl n rfl hn60 (by decide) dX6_seat_172 (E2 := (cf_E cT nc ng (cf_s3 (cf_s3 (cf_s3 (cf_s3 (cf_s3 S 6 0 23 0) 17 10 u9 ((S 6 0 0) + (S 17 3 gm))) 17 8 t ((nI n) + 1)) 17 13 c9 1) 17 16 n x) P O ad)) (cf_upS 17 16 (upd ((cf_s3 (cf_s3 (cf_s3 (cf_s3 S 6 0 23 0) 17 10 u9 ((S 6 0 0) + (S 17 3 gm))) 17 8 t ((nI n) + 1)) 17 13 c9 1) 17 16) n x) (cf_c17 (i := 16) (by decide))) (fun H locs hW hS => ?_)
                  refine lv_aload_n hx hb dX6_seat_173 rfl (lv_at hl 3 rfl) ?_
                  refine cf_get (v := .ref (ad 17 17)) (ci := 6) (C := RX6) (T := TX6) (N := 24) hx hb hts (fun _ h => List.mem_cons_of_mem _ (List.mem_append_right _ (h))) hown hT.1 hW cf_e6 rfl 17 (by decide) (hts (.fieldLink RX6 52 "GameCafeModel" "tables" "[I") (List.mem_of_getElem? (i := 11) rfl)) (fun _ h9 => h9) rfl dX6_seat_174 ?_
                  refine lv_aload_n hx hb dX6_seat_177 rfl (lv_at hl 3 rfl) ?_
                  refine cf_get (v := .int (nI n)) (ci := 6) (C := RX6) (T := TX6) (N := 24) hx hb hts (fun _ h => List.mem_cons_of_mem _ (List.mem_append_right _ (h))) hown hT.1 hW cf_e6 rfl 15 (by decide) (hts (.fieldLink RX6 81 "GameCafeModel" "groups" "I") (List.mem_of_getElem? (i := 4) rfl)) (fun _ h9 => h9) (congrArg (fun x => some (Value.int x)) (by simp [cf_s3, cf_g2, upd, hn2] : (cf_s3 (cf_s3 (cf_s3 (cf_s3 (cf_s3 S 6 0 23 0) 17 10 u9 ((S 6 0 0) + (S 17 3 gm))) 17 8 t ((nI n) + 1)) 17 13 c9 1) 17 16 n x) 6 0 15 = nI n)) dX6_seat_178 ?_
                  refine lv_iload hx hb dX6_seat_181 (lv_at hl 2 rfl) ?_
                  refine cf_istN (t0 := 0) (n := 60) (f := (cf_s3 (cf_s3 (cf_s3 (cf_s3 (cf_s3 S 6 0 23 0) 17 10 u9 ((S 6 0 0) + (S 17 3 gm))) 17 8 t ((nI n) + 1)) 17 13 c9 1) 17 16 n x) 17 17) hx hb hT.1 hW hS (cf_e17 (i := 17) (by decide)) rfl n rfl hn60 (by decide) dX6_seat_183 (E2 := (cf_E cT nc ng (cf_s3 (cf_s3 (cf_s3 (cf_s3 (cf_s3 (cf_s3 S 6 0 23 0) 17 10 u9 ((S 6 0 0) + (S 17 3 gm))) 17 8 t ((nI n) + 1)) 17 13 c9 1) 17 16 n x) 17 17 n (nI t)) P O ad)) (cf_upS 17 17 (upd ((cf_s3 (cf_s3 (cf_s3 (cf_s3 (cf_s3 S 6 0 23 0) 17 10 u9 ((S 6 0 0) + (S 17 3 gm))) 17 8 t ((nI n) + 1)) 17 13 c9 1) 17 16 n x) 17 17) n (nI t)) (cf_c17 (i := 17) (by decide))) (fun H locs hW hS => ?_)
                  refine lv_aload_n hx hb dX6_seat_184 rfl (lv_at hl 3 rfl) ?_
                  refine cf_get (v := .ref (ad 17 18)) (ci := 6) (C := RX6) (T := TX6) (N := 24) hx hb hts (fun _ h => List.mem_cons_of_mem _ (List.mem_append_right _ (h))) hown hT.1 hW cf_e6 rfl 18 (by decide) (hts (.fieldLink RX6 55 "GameCafeModel" "ofGroup" "[I") (List.mem_of_getElem? (i := 12) rfl)) (fun _ h9 => h9) rfl dX6_seat_185 ?_
                  refine lv_aload_n hx hb dX6_seat_188 rfl (lv_at hl 3 rfl) ?_
                  refine cf_get (v := .int (nI n)) (ci := 6) (C := RX6) (T := TX6) (N := 24) hx hb hts (fun _ h => List.mem_cons_of_mem _ (List.mem_append_right _ (h))) hown hT.1 hW cf_e6 rfl 15 (by decide) (hts (.fieldLink RX6 81 "GameCafeModel" "groups" "I") (List.mem_of_getElem? (i := 4) rfl)) (fun _ h9 => h9) (congrArg (fun x => some (Value.int x)) (by simp [cf_s3, cf_g2, upd, hn2] : (cf_s3 (cf_s3 (cf_s3 (cf_s3 (cf_s3 (cf_s3 S 6 0 23 0) 17 10 u9 ((S 6 0 0) + (S 17 3 gm))) 17 8 t ((nI n) + 1)) 17 13 c9 1) 17 16 n x) 17 17 n (nI t)) 6 0 15 = nI n)) dX6_seat_189 ?_
                  refine lv_iload hx hb dX6_seat_192 (lv_at hl 1 rfl) ?_
                  refine cf_istN (t0 := 0) (n := 60) (f := (cf_s3 (cf_s3 (cf_s3 (cf_s3 (cf_s3 (cf_s3 S 6 0 23 0) 17 10 u9 ((S 6 0 0) + (S 17 3 gm))) 17 8 t ((nI n) + 1)) 17 13 c9 1) 17 16 n x) 17 17 n (nI t)) 17 18) hx hb hT.1 hW hS (cf_e17 (i := 18) (by decide)) rfl n rfl hn60 (by decide) dX6_seat_194 (E2 := (cf_E cT nc ng (cf_s3 (cf_s3 (cf_s3 (cf_s3 (cf_s3 (cf_s3 (cf_s3 S 6 0 23 0) 17 10 u9 ((S 6 0 0) + (S 17 3 gm))) 17 8 t ((nI n) + 1)) 17 13 c9 1) 17 16 n x) 17 17 n (nI t)) 17 18 n (nI c9)) P O ad)) (cf_upS 17 18 (upd ((cf_s3 (cf_s3 (cf_s3 (cf_s3 (cf_s3 (cf_s3 S 6 0 23 0) 17 10 u9 ((S 6 0 0) + (S 17 3 gm))) 17 8 t ((nI n) + 1)) 17 13 c9 1) 17 16 n x) 17 17 n (nI t)) 17 18) n (nI c9)) (cf_c17 (i := 18) (by decide))) (fun H locs hW hS => ?_)
                  refine lv_aload_n hx hb dX6_seat_195 rfl (lv_at hl 3 rfl) ?_
                  refine cf_get (v := .ref (ad 17 19)) (ci := 6) (C := RX6) (T := TX6) (N := 24) hx hb hts (fun _ h => List.mem_cons_of_mem _ (List.mem_append_right _ (h))) hown hT.1 hW cf_e6 rfl 19 (by decide) (hts (.fieldLink RX6 58 "GameCafeModel" "since" "[I") (List.mem_of_getElem? (i := 13) rfl)) (fun _ h9 => h9) rfl dX6_seat_196 ?_
                  refine lv_aload_n hx hb dX6_seat_199 rfl (lv_at hl 3 rfl) ?_
                  refine cf_get (v := .int (nI n)) (ci := 6) (C := RX6) (T := TX6) (N := 24) hx hb hts (fun _ h => List.mem_cons_of_mem _ (List.mem_append_right _ (h))) hown hT.1 hW cf_e6 rfl 15 (by decide) (hts (.fieldLink RX6 81 "GameCafeModel" "groups" "I") (List.mem_of_getElem? (i := 4) rfl)) (fun _ h9 => h9) (congrArg (fun x => some (Value.int x)) (by simp [cf_s3, cf_g2, upd, hn2] : (cf_s3 (cf_s3 (cf_s3 (cf_s3 (cf_s3 (cf_s3 (cf_s3 S 6 0 23 0) 17 10 u9 ((S 6 0 0) + (S 17 3 gm))) 17 8 t ((nI n) + 1)) 17 13 c9 1) 17 16 n x) 17 17 n (nI t)) 17 18 n (nI c9)) 6 0 15 = nI n)) dX6_seat_200 ?_
                  refine lv_aload_n hx hb dX6_seat_203 rfl (lv_at hl 3 rfl) ?_
                  refine cf_get (v := .int (S 6 0 0)) (ci := 6) (C := RX6) (T := TX6) (N := 24) hx hb hts (fun _ h => List.mem_cons_of_mem _ (List.mem_append_right _ (h))) hown hT.1 hW cf_e6 rfl 0 (by decide) (hts (.fieldLink RX6 98 "GameCafeModel" "minute" "I") (List.mem_of_getElem? (i := 6) rfl)) (fun _ h9 => h9) (congrArg (fun x => some (Value.int x)) (by simp [cf_s3, cf_g2, upd] : (cf_s3 (cf_s3 (cf_s3 (cf_s3 (cf_s3 (cf_s3 (cf_s3 S 6 0 23 0) 17 10 u9 ((S 6 0 0) + (S 17 3 gm))) 17 8 t ((nI n) + 1)) 17 13 c9 1) 17 16 n x) 17 17 n (nI t)) 17 18 n (nI c9)) 6 0 0 = S 6 0 0)) dX6_seat_204 ?_
                  refine cf_istN (t0 := 0) (n := 60) (f := (cf_s3 (cf_s3 (cf_s3 (cf_s3 (cf_s3 (cf_s3 (cf_s3 S 6 0 23 0) 17 10 u9 ((S 6 0 0) + (S 17 3 gm))) 17 8 t ((nI n) + 1)) 17 13 c9 1) 17 16 n x) 17 17 n (nI t)) 17 18 n (nI c9)) 17 19) hx hb hT.1 hW hS (cf_e17 (i := 19) (by decide)) rfl n rfl hn60 (by decide) dX6_seat_207 (E2 := (cf_E cT nc ng (cf_s3 (cf_s3 (cf_s3 (cf_s3 (cf_s3 (cf_s3 (cf_s3 (cf_s3 S 6 0 23 0) 17 10 u9 ((S 6 0 0) + (S 17 3 gm))) 17 8 t ((nI n) + 1)) 17 13 c9 1) 17 16 n x) 17 17 n (nI t)) 17 18 n (nI c9)) 17 19 n (S 6 0 0)) P O ad)) (cf_upS 17 19 (upd ((cf_s3 (cf_s3 (cf_s3 (cf_s3 (cf_s3 (cf_s3 (cf_s3 S 6 0 23 0) 17 10 u9 ((S 6 0 0) + (S 17 3 gm))) 17 8 t ((nI n) + 1)) 17 13 c9 1) 17 16 n x) 17 17 n (nI t)) 17 18 n (nI c9)) 17 19) n (S 6 0 0)) (cf_c17 (i := 19) (by decide))) (fun H locs hW hS => ?_)
                  refine lv_aload_n hx hb dX6_seat_208 rfl (lv_at hl 3 rfl) ?_
                  refine lv_dup hx hb dX6_seat_209 rfl ?_
                  refine cf_get (v := .int (nI n)) (ci := 6) (C := RX6) (T := TX6) (N := 24) hx hb hts (fun _ h => List.mem_cons_of_mem _ (List.mem_append_right _ (h))) hown hT.1 hW cf_e6 rfl 15 (by decide) (hts (.fieldLink RX6 81 "GameCafeModel" "groups" "I") (List.mem_of_getElem? (i := 4) rfl)) (fun _ h9 => h9) (congrArg (fun x => some (Value.int x)) (by simp [cf_s3, cf_g2, upd, hn2] : (cf_s3 (cf_s3 (cf_s3 (cf_s3 (cf_s3 (cf_s3 (cf_s3 (cf_s3 S 6 0 23 0) 17 10 u9 ((S 6 0 0) + (S 17 3 gm))) 17 8 t ((nI n) + 1)) 17 13 c9 1) 17 16 n x) 17 17 n (nI t)) 17 18 n (nI c9)) 17 19 n (S 6 0 0)) 6 0 15 = nI n)) dX6_seat_210 ?_
                  refine lv_iconst (v := 1) hx hb dX6_seat_213 (by decide) ?_
                  refine lv_iadd hx hb dX6_seat_214 ?_
                  refine cf_putE (v := .int ((nI n) + 1)) (ty := .int) (ci := 6) (C := RX6) (T := TX6) (N := 24) hx hb hts (fun _ h => List.mem_cons_of_mem _ (List.mem_append_right _ (h))) tyX6 tyX6_ok nmX6 hown hT.1 hW hS cf_e6 rfl 15 (by decide) (hts (.fieldLink RX6 81 "GameCafeModel" "groups" "I") (List.mem_of_getElem? (i := 4) rfl)) (fun _ h9 => h9) rfl (by decide +kernel) rfl rfl (Nat.le_of_ble_eq_true rfl) dX6_seat_215 (E2 := (cf_E cT nc ng (cf_s3 (cf_s3 (cf_s3 (cf_s3 (cf_s3 (cf_s3 (cf_s3 (cf_s3 (cf_s3 S 6 0 23 0) 17 10 u9 ((S 6 0 0) + (S 17 3 gm))) 17 8 t ((nI n) + 1)) 17 13 c9 1) 17 16 n x) 17 17 n (nI t)) 17 18 n (nI c9)) 17 19 n (S 6 0 0)) 6 0 15 ((nI n) + 1)) P O ad)) (cf_upS 6 0 (upd ((cf_s3 (cf_s3 (cf_s3 (cf_s3 (cf_s3 (cf_s3 (cf_s3 (cf_s3 S 6 0 23 0) 17 10 u9 ((S 6 0 0) + (S 17 3 gm))) 17 8 t ((nI n) + 1)) 17 13 c9 1) 17 16 n x) 17 17 n (nI t)) 17 18 n (nI c9)) 17 19 n (S 6 0 0)) 6 0) 15 ((nI n) + 1)) rfl) (fun H locs hW hS => ?_)
                  refine lv_aload_n hx hb dX6_seat_218 rfl (lv_at hl 3 rfl) ?_
                  refine cf_get (v := .int ((nI n) + 1)) (ci := 6) (C := RX6) (T := TX6) (N := 24) hx hb hts (fun _ h => List.mem_cons_of_mem _ (List.mem_append_right _ (h))) hown hT.1 hW cf_e6 rfl 15 (by decide) (hts (.fieldLink RX6 81 "GameCafeModel" "groups" "I") (List.mem_of_getElem? (i := 4) rfl)) (fun _ h9 => h9) (congrArg (fun x => some (Value.int x)) (by simp [cf_s3, cf_g2, upd] : (cf_s3 (cf_s3 (cf_s3 (cf_s3 (cf_s3 (cf_s3 (cf_s3 (cf_s3 (cf_s3 S 6 0 23 0) 17 10 u9 ((S 6 0 0) + (S 17 3 gm))) 17 8 t ((nI n) + 1)) 17 13 c9 1) 17 16 n x) 17 17 n (nI t)) 17 18 n (nI c9)) 17 19 n (S 6 0 0)) 6 0 15 ((nI n) + 1)) 6 0 15 = ((nI n) + 1))) dX6_seat_219 ?_
                  refine lv_iconst (v := 1) hx hb dX6_seat_222 (by decide) ?_
                  refine lv_isub hx hb dX6_seat_223 ?_
                  exact W.iret (v := (((nI n) + 1) - 1)) hx hb hr (fun t9 ht9 hw9 => ⟨⟨(((nI n) + 1) - 1), (cf_s3 (cf_s3 (cf_s3 (cf_s3 (cf_s3 (cf_s3 (cf_s3 (cf_s3 (cf_s3 S 6 0 23 0) 17 10 u9 ((S 6 0 0) + (S 17 3 gm))) 17 8 t ((nI n) + 1)) 17 13 c9 1) 17 16 n x) 17 17 n (nI t)) 17 18 n (nI c9)) 17 19 n (S 6 0 0)) 6 0 15 ((nI n) + 1)), rfl, Or.inr ⟨gm, hg, hyg, Or.inr ⟨hR, some t, some c9, (some u9), hb0, hc0, (Or.inr ⟨c73_11, hu0⟩), Or.inr ⟨t, c9, u9, hn60, rfl, rfl, rfl, (by rw [show nI n + 1 = nI (n + 1) from nI_1 n]; exact nI_pred n), Or.inr ⟨c73_11, rfl⟩⟩⟩⟩, cf_W.re ht9 hW⟩, hS.F ht9⟩) hS.2.2 dX6_seat_224
        · refine lv_iconst (v := 0) hx hb dX6_seat_76 (by decide) ?_
          refine lv_goto (tgt := 85) hx hb dX6_seat_77 (by decide) ?_
          refine lv_istore (lv' := [(6, .int 0), (5, .int (cf_oi c0)), (4, .int (cf_oi b0)), (0, .ref (ad 6 0)), (1, .int x), (2, .int y), (3, .int b1)]) hx hb dX6_seat_85 hl (by decide) rfl (fun ls hl => ?_)
          refine lv_aload_n hx hb dX6_seat_87 rfl (lv_at hl 3 rfl) ?_
          refine cf_get (v := .int (nI n)) (ci := 6) (C := RX6) (T := TX6) (N := 24) hx hb hts (fun _ h => List.mem_cons_of_mem _ (List.mem_append_right _ (h))) hown hT.1 hW cf_e6 rfl 15 (by decide) (hts (.fieldLink RX6 81 "GameCafeModel" "groups" "I") (List.mem_of_getElem? (i := 4) rfl)) (fun _ h9 => h9) (congrArg (fun x => some (Value.int x)) (by simp [cf_s3, cf_g2, upd, hn2] : (cf_s3 S 6 0 23 0) 6 0 15 = nI n)) dX6_seat_88 ?_
          refine lv_bipush (v := 60) hx hb dX6_seat_91 (by decide) ?_
          refine lv_icmp_eq (tgt := 114) hx hb dX6_seat_93 (by decide) (fun c93_25 => ?_) (fun c93_25 => ?_)
          · refine lv_aload_n hx hb dX6_seat_114 rfl (lv_at hl 3 rfl) ?_
            refine lv_iconst (v := 3) hx hb dX6_seat_115 (by decide) ?_
            refine va_calli (va_runV (As := [.int 3]) (rest := []) ⟨hx, hb, hml, hown, hts⟩ (c_X6_fails l D cT z ad nc ng (cf_s3 S 6 0 23 0) P O 3) (cwV 1 hts gX6_seat_X6_fails rfl rfl rfl (by decide +kernel) ⟨Nat.le_of_ble_eq_true rfl, Nat.le_of_ble_eq_true rfl⟩) (cf_preV (T := TX6) (N := 24) hT hS hW cf_e6 rfl) rfl rfl hl.1 rfl (lv_room (Nat.le_of_ble_eq_true rfl)) dX6_seat_116 ⟨Nat.le_of_ble_eq_true rfl, Nat.le_of_ble_eq_true rfl⟩) hS (fun _ _ h => h) (fun _ h => h) (fun r26 ur26 t9 H locs ht hvm hw hW hz1 hk1 hS => ?_)
            have hW := cf_W.er ht hW
            obtain ⟨hr0, hT0⟩ := hw
            subst hT0
            exact W.iret (v := r26) hx hb hr (fun t9 ht9 hw9 => ⟨⟨r26, (cf_s3 (cf_s3 S 6 0 23 0) 6 0 23 3), rfl, Or.inr ⟨gm, hg, hyg, Or.inr ⟨hR, b0, c0, (some 0), hb0, hc0, (Or.inl ⟨c73_11, rfl⟩), Or.inl ⟨fun q => absurd q.1 (by have h9 : n = 60 := cf_nI_inj (by omega) (by decide) c93_25; omega), rfl⟩⟩⟩, cf_W.re ht9 hW⟩, hS.F ht9⟩) hS.2.2 dX6_seat_119
          · have hn60 : n < 60 := by rcases Nat.lt_or_ge n 60 with h9 | h9; exact h9; exact absurd (show nI n = 60 by rw [show n = 60 by omega]; rfl) c93_25
            rcases b0 with _ | t
            · have hl : lv_has ls 7 [(6, .int 0), (5, .int (cf_oi c0)), (4, .int (-1)), (0, .ref (ad 6 0)), (1, .int x), (2, .int y), (3, .int b1)] := hl
              refine lv_iload hx hb dX6_seat_96 (lv_at hl 2 rfl) ?_
              refine lv_iconst (v := (-1)) hx hb dX6_seat_98 (by decide) ?_
              refine lv_icmp_eq (tgt := 114) hx hb dX6_seat_99 (by decide) (fun c99_27 => ?_) (fun c99_27 => (by first | exact absurd rfl c99_27 | exact absurd c99_27 rfl))
              refine lv_aload_n hx hb dX6_seat_114 rfl (lv_at hl 3 rfl) ?_
              refine lv_iconst (v := 3) hx hb dX6_seat_115 (by decide) ?_
              refine va_calli (va_runV (As := [.int 3]) (rest := []) ⟨hx, hb, hml, hown, hts⟩ (c_X6_fails l D cT z ad nc ng (cf_s3 S 6 0 23 0) P O 3) (cwV 1 hts gX6_seat_X6_fails rfl rfl rfl (by decide +kernel) ⟨Nat.le_of_ble_eq_true rfl, Nat.le_of_ble_eq_true rfl⟩) (cf_preV (T := TX6) (N := 24) hT hS hW cf_e6 rfl) rfl rfl hl.1 rfl (lv_room (Nat.le_of_ble_eq_true rfl)) dX6_seat_116 ⟨Nat.le_of_ble_eq_true rfl, Nat.le_of_ble_eq_true rfl⟩) hS (fun _ _ h => h) (fun _ h => h) (fun r28 ur28 t9 H locs ht hvm hw hW hz1 hk1 hS => ?_)
              have hW := cf_W.er ht hW
              obtain ⟨hr0, hT0⟩ := hw
              subst hT0
              exact W.iret (v := r28) hx hb hr (fun t9 ht9 hw9 => ⟨⟨r28, (cf_s3 (cf_s3 S 6 0 23 0) 6 0 23 3), rfl, Or.inr ⟨gm, hg, hyg, Or.inr ⟨hR, none, c0, (some 0), hb0, hc0, (Or.inl ⟨c73_11, rfl⟩), Or.inl ⟨fun q => q.2.1 rfl, rfl⟩⟩⟩, cf_W.re ht9 hW⟩, hS.F ht9⟩) hS.2.2 dX6_seat_119
            · have hl : lv_has ls 7 [(6, .int 0), (5, .int (cf_oi c0)), (4, .int (nI t)), (0, .ref (ad 6 0)), (1, .int x), (2, .int y), (3, .int b1)] := hl
              have ht6 : t < 6 := (cf_best_in hb0.symm).1
              refine lv_iload hx hb dX6_seat_96 (lv_at hl 2 rfl) ?_
              refine lv_iconst (v := (-1)) hx hb dX6_seat_98 (by decide) ?_
              refine lv_icmp_eq (tgt := 114) hx hb dX6_seat_99 (by decide) (fun c99_29 => (by first | exact absurd c99_29 (cf_nIm1 (by omega)) | exact absurd (cf_nIm1 (by omega)) c99_29)) (fun c99_29 => ?_)
              rcases c0 with _ | c9
              · have hl : lv_has ls 7 [(6, .int 0), (5, .int (-1)), (4, .int (nI t)), (0, .ref (ad 6 0)), (1, .int x), (2, .int y), (3, .int b1)] := hl
                refine lv_iload hx hb dX6_seat_102 (lv_at hl 1 rfl) ?_
                refine lv_iconst (v := (-1)) hx hb dX6_seat_104 (by decide) ?_
                refine lv_icmp_eq (tgt := 114) hx hb dX6_seat_105 (by decide) (fun c105_30 => ?_) (fun c105_30 => (by first | exact absurd rfl c105_30 | exact absurd c105_30 rfl))
                refine lv_aload_n hx hb dX6_seat_114 rfl (lv_at hl 3 rfl) ?_
                refine lv_iconst (v := 3) hx hb dX6_seat_115 (by decide) ?_
                refine va_calli (va_runV (As := [.int 3]) (rest := []) ⟨hx, hb, hml, hown, hts⟩ (c_X6_fails l D cT z ad nc ng (cf_s3 S 6 0 23 0) P O 3) (cwV 1 hts gX6_seat_X6_fails rfl rfl rfl (by decide +kernel) ⟨Nat.le_of_ble_eq_true rfl, Nat.le_of_ble_eq_true rfl⟩) (cf_preV (T := TX6) (N := 24) hT hS hW cf_e6 rfl) rfl rfl hl.1 rfl (lv_room (Nat.le_of_ble_eq_true rfl)) dX6_seat_116 ⟨Nat.le_of_ble_eq_true rfl, Nat.le_of_ble_eq_true rfl⟩) hS (fun _ _ h => h) (fun _ h => h) (fun r31 ur31 t9 H locs ht hvm hw hW hz1 hk1 hS => ?_)
                have hW := cf_W.er ht hW
                obtain ⟨hr0, hT0⟩ := hw
                subst hT0
                exact W.iret (v := r31) hx hb hr (fun t9 ht9 hw9 => ⟨⟨r31, (cf_s3 (cf_s3 S 6 0 23 0) 6 0 23 3), rfl, Or.inr ⟨gm, hg, hyg, Or.inr ⟨hR, (some t), none, (some 0), hb0, hc0, (Or.inl ⟨c73_11, rfl⟩), Or.inl ⟨fun q => q.2.2.1 rfl, rfl⟩⟩⟩, cf_W.re ht9 hW⟩, hS.F ht9⟩) hS.2.2 dX6_seat_119
              · have hl : lv_has ls 7 [(6, .int 0), (5, .int (nI c9)), (4, .int (nI t)), (0, .ref (ad 6 0)), (1, .int x), (2, .int y), (3, .int b1)] := hl
                have hcn : c9 < nc := (cf_fst_so hc0).1
                refine lv_iload hx hb dX6_seat_102 (lv_at hl 1 rfl) ?_
                refine lv_iconst (v := (-1)) hx hb dX6_seat_104 (by decide) ?_
                refine lv_icmp_eq (tgt := 114) hx hb dX6_seat_105 (by decide) (fun c105_32 => (by first | exact absurd c105_32 (cf_nIm1 (by omega)) | exact absurd (cf_nIm1 (by omega)) c105_32)) (fun c105_32 => ?_)
                refine lv_iload hx hb dX6_seat_108 (lv_at hl 0 rfl) ?_
                refine lv_iconst (v := (-1)) hx hb dX6_seat_110 (by decide) ?_
                refine lv_icmp_ne (tgt := 120) hx hb dX6_seat_111 (by decide) (fun c111_33 => ?_) (fun c111_33 => (by first | exact absurd (by decide) c111_33 | exact absurd c111_33 (by decide)))
                refine lv_iload_n hx hb dX6_seat_120 rfl (lv_at hl 6 rfl) ?_
                refine lv_if_ne (tgt := 142) hx hb dX6_seat_121 (by decide) (fun c121_34 => ?_) (fun c121_34 => (by first | exact absurd c73_11 c121_34 | exact absurd c121_34 c73_11))
                refine lv_aload_n hx hb dX6_seat_142 rfl (lv_at hl 3 rfl) ?_
                refine cf_get (v := .ref (ad 17 8)) (ci := 6) (C := RX6) (T := TX6) (N := 24) hx hb hts (fun _ h => List.mem_cons_of_mem _ (List.mem_append_right _ (h))) hown hT.1 hW cf_e6 rfl 8 (by decide) (hts (.fieldLink RX6 31 "GameCafeModel" "taken" "[I") (List.mem_of_getElem? (i := 8) rfl)) (fun _ h9 => h9) rfl dX6_seat_143 ?_
                refine lv_iload hx hb dX6_seat_146 (lv_at hl 2 rfl) ?_
                refine lv_aload_n hx hb dX6_seat_148 rfl (lv_at hl 3 rfl) ?_
                refine cf_get (v := .int (nI n)) (ci := 6) (C := RX6) (T := TX6) (N := 24) hx hb hts (fun _ h => List.mem_cons_of_mem _ (List.mem_append_right _ (h))) hown hT.1 hW cf_e6 rfl 15 (by decide) (hts (.fieldLink RX6 81 "GameCafeModel" "groups" "I") (List.mem_of_getElem? (i := 4) rfl)) (fun _ h9 => h9) (congrArg (fun x => some (Value.int x)) (by simp [cf_s3, cf_g2, upd, hn2] : (cf_s3 S 6 0 23 0) 6 0 15 = nI n)) dX6_seat_149 ?_
                refine lv_iconst (v := 1) hx hb dX6_seat_152 (by decide) ?_
                refine lv_iadd hx hb dX6_seat_153 ?_
                refine cf_istN (t0 := 0) (n := 6) (f := (cf_s3 S 6 0 23 0) 17 8) hx hb hT.1 hW hS (cf_e17 (i := 8) (by decide)) rfl t rfl ht6 (by decide) dX6_seat_154 (E2 := (cf_E cT nc ng (cf_s3 (cf_s3 S 6 0 23 0) 17 8 t ((nI n) + 1)) P O ad)) (cf_upS 17 8 (upd ((cf_s3 S 6 0 23 0) 17 8) t ((nI n) + 1)) (cf_c17 (i := 8) (by decide))) (fun H locs hW hS => ?_)
                refine lv_aload_n hx hb dX6_seat_155 rfl (lv_at hl 3 rfl) ?_
                refine cf_get (v := .ref (ad 17 13)) (ci := 6) (C := RX6) (T := TX6) (N := 24) hx hb hts (fun _ h => List.mem_cons_of_mem _ (List.mem_append_right _ (h))) hown hT.1 hW cf_e6 rfl 13 (by decide) (hts (.fieldLink RX6 43 "GameCafeModel" "places" "[I") (List.mem_of_getElem? (i := 9) rfl)) (fun _ h9 => h9) rfl dX6_seat_156 ?_
                refine lv_iload hx hb dX6_seat_159 (lv_at hl 1 rfl) ?_
                refine lv_iconst (v := 1) hx hb dX6_seat_161 (by decide) ?_
                refine cf_istN (t0 := 0) (n := 15) (f := (cf_s3 (cf_s3 S 6 0 23 0) 17 8 t ((nI n) + 1)) 17 13) hx hb hT.1 hW hS (cf_e17 (i := 13) (by decide)) rfl c9 rfl (by omega) (by decide) dX6_seat_162 (E2 := (cf_E cT nc ng (cf_s3 (cf_s3 (cf_s3 S 6 0 23 0) 17 8 t ((nI n) + 1)) 17 13 c9 1) P O ad)) (cf_upS 17 13 (upd ((cf_s3 (cf_s3 S 6 0 23 0) 17 8 t ((nI n) + 1)) 17 13) c9 1) (cf_c17 (i := 13) (by decide))) (fun H locs hW hS => ?_)
                refine lv_aload_n hx hb dX6_seat_163 rfl (lv_at hl 3 rfl) ?_
                refine cf_get (v := .ref (ad 17 16)) (ci := 6) (C := RX6) (T := TX6) (N := 24) hx hb hts (fun _ h => List.mem_cons_of_mem _ (List.mem_append_right _ (h))) hown hT.1 hW cf_e6 rfl 16 (by decide) (hts (.fieldLink RX6 49 "GameCafeModel" "people" "[I") (List.mem_of_getElem? (i := 10) rfl)) (fun _ h9 => h9) rfl dX6_seat_164 ?_
                refine lv_aload_n hx hb dX6_seat_167 rfl (lv_at hl 3 rfl) ?_
                refine cf_get (v := .int (nI n)) (ci := 6) (C := RX6) (T := TX6) (N := 24) hx hb hts (fun _ h => List.mem_cons_of_mem _ (List.mem_append_right _ (h))) hown hT.1 hW cf_e6 rfl 15 (by decide) (hts (.fieldLink RX6 81 "GameCafeModel" "groups" "I") (List.mem_of_getElem? (i := 4) rfl)) (fun _ h9 => h9) (congrArg (fun x => some (Value.int x)) (by simp [cf_s3, cf_g2, upd, hn2] : (cf_s3 (cf_s3 (cf_s3 S 6 0 23 0) 17 8 t ((nI n) + 1)) 17 13 c9 1) 6 0 15 = nI n)) dX6_seat_168 ?_
                refine lv_iload_n hx hb dX6_seat_171 rfl (lv_at hl 4 rfl) ?_
                refine cf_istN (t0 := 0) (n := 60) (f := (cf_s3 (cf_s3 (cf_s3 S 6 0 23 0) 17 8 t ((nI n) + 1)) 17 13 c9 1) 17 16) hx hb hT.1 hW hS (cf_e17 (i := 16) (by decide)) rfl n rfl hn60 (by decide) dX6_seat_172 (E2 := (cf_E cT nc ng (cf_s3 (cf_s3 (cf_s3 (cf_s3 S 6 0 23 0) 17 8 t ((nI n) + 1)) 17 13 c9 1) 17 16 n x) P O ad)) (cf_upS 17 16 (upd ((cf_s3 (cf_s3 (cf_s3 S 6 0 23 0) 17 8 t ((nI n) + 1)) 17 13 c9 1) 17 16) n x) (cf_c17 (i := 16) (by decide))) (fun H locs hW hS => ?_)
                refine lv_aload_n hx hb dX6_seat_173 rfl (lv_at hl 3 rfl) ?_
                refine cf_get (v := .ref (ad 17 17)) (ci := 6) (C := RX6) (T := TX6) (N := 24) hx hb hts (fun _ h => List.mem_cons_of_mem _ (List.mem_append_right _ (h))) hown hT.1 hW cf_e6 rfl 17 (by decide) (hts (.fieldLink RX6 52 "GameCafeModel" "tables" "[I") (List.mem_of_getElem? (i := 11) rfl)) (fun _ h9 => h9) rfl dX6_seat_174 ?_
                refine lv_aload_n hx hb dX6_seat_177 rfl (lv_at hl 3 rfl) ?_
                refine cf_get (v := .int (nI n)) (ci := 6) (C := RX6) (T := TX6) (N := 24) hx hb hts (fun _ h => List.mem_cons_of_mem _ (List.mem_append_right _ (h))) hown hT.1 hW cf_e6 rfl 15 (by decide) (hts (.fieldLink RX6 81 "GameCafeModel" "groups" "I") (List.mem_of_getElem? (i := 4) rfl)) (fun _ h9 => h9) (congrArg (fun x => some (Value.int x)) (by simp [cf_s3, cf_g2, upd, hn2] : (cf_s3 (cf_s3 (cf_s3 (cf_s3 S 6 0 23 0) 17 8 t ((nI n) + 1)) 17 13 c9 1) 17 16 n x) 6 0 15 = nI n)) dX6_seat_178 ?_
                refine lv_iload hx hb dX6_seat_181 (lv_at hl 2 rfl) ?_
                refine cf_istN (t0 := 0) (n := 60) (f := (cf_s3 (cf_s3 (cf_s3 (cf_s3 S 6 0 23 0) 17 8 t ((nI n) + 1)) 17 13 c9 1) 17 16 n x) 17 17) hx hb hT.1 hW hS (cf_e17 (i := 17) (by decide)) rfl n rfl hn60 (by decide) dX6_seat_183 (E2 := (cf_E cT nc ng (cf_s3 (cf_s3 (cf_s3 (cf_s3 (cf_s3 S 6 0 23 0) 17 8 t ((nI n) + 1)) 17 13 c9 1) 17 16 n x) 17 17 n (nI t)) P O ad)) (cf_upS 17 17 (upd ((cf_s3 (cf_s3 (cf_s3 (cf_s3 S 6 0 23 0) 17 8 t ((nI n) + 1)) 17 13 c9 1) 17 16 n x) 17 17) n (nI t)) (cf_c17 (i := 17) (by decide))) (fun H locs hW hS => ?_)
                refine lv_aload_n hx hb dX6_seat_184 rfl (lv_at hl 3 rfl) ?_
                refine cf_get (v := .ref (ad 17 18)) (ci := 6) (C := RX6) (T := TX6) (N := 24) hx hb hts (fun _ h => List.mem_cons_of_mem _ (List.mem_append_right _ (h))) hown hT.1 hW cf_e6 rfl 18 (by decide) (hts (.fieldLink RX6 55 "GameCafeModel" "ofGroup" "[I") (List.mem_of_getElem? (i := 12) rfl)) (fun _ h9 => h9) rfl dX6_seat_185 ?_
                refine lv_aload_n hx hb dX6_seat_188 rfl (lv_at hl 3 rfl) ?_
                refine cf_get (v := .int (nI n)) (ci := 6) (C := RX6) (T := TX6) (N := 24) hx hb hts (fun _ h => List.mem_cons_of_mem _ (List.mem_append_right _ (h))) hown hT.1 hW cf_e6 rfl 15 (by decide) (hts (.fieldLink RX6 81 "GameCafeModel" "groups" "I") (List.mem_of_getElem? (i := 4) rfl)) (fun _ h9 => h9) (congrArg (fun x => some (Value.int x)) (by simp [cf_s3, cf_g2, upd, hn2] : (cf_s3 (cf_s3 (cf_s3 (cf_s3 (cf_s3 S 6 0 23 0) 17 8 t ((nI n) + 1)) 17 13 c9 1) 17 16 n x) 17 17 n (nI t)) 6 0 15 = nI n)) dX6_seat_189 ?_
                refine lv_iload hx hb dX6_seat_192 (lv_at hl 1 rfl) ?_
                refine cf_istN (t0 := 0) (n := 60) (f := (cf_s3 (cf_s3 (cf_s3 (cf_s3 (cf_s3 S 6 0 23 0) 17 8 t ((nI n) + 1)) 17 13 c9 1) 17 16 n x) 17 17 n (nI t)) 17 18) hx hb hT.1 hW hS (cf_e17 (i := 18) (by decide)) rfl n rfl hn60 (by decide) dX6_seat_194 (E2 := (cf_E cT nc ng (cf_s3 (cf_s3 (cf_s3 (cf_s3 (cf_s3 (cf_s3 S 6 0 23 0) 17 8 t ((nI n) + 1)) 17 13 c9 1) 17 16 n x) 17 17 n (nI t)) 17 18 n (nI c9)) P O ad)) (cf_upS 17 18 (upd ((cf_s3 (cf_s3 (cf_s3 (cf_s3 (cf_s3 S 6 0 23 0) 17 8 t ((nI n) + 1)) 17 13 c9 1) 17 16 n x) 17 17 n (nI t)) 17 18) n (nI c9)) (cf_c17 (i := 18) (by decide))) (fun H locs hW hS => ?_)
                refine lv_aload_n hx hb dX6_seat_195 rfl (lv_at hl 3 rfl) ?_
                refine cf_get (v := .ref (ad 17 19)) (ci := 6) (C := RX6) (T := TX6) (N := 24) hx hb hts (fun _ h => List.mem_cons_of_mem _ (List.mem_append_right _ (h))) hown hT.1 hW cf_e6 rfl 19 (by decide) (hts (.fieldLink RX6 58 "GameCafeModel" "since" "[I") (List.mem_of_getElem? (i := 13) rfl)) (fun _ h9 => h9) rfl dX6_seat_196 ?_
                refine lv_aload_n hx hb dX6_seat_199 rfl (lv_at hl 3 rfl) ?_
                refine cf_get (v := .int (nI n)) (ci := 6) (C := RX6) (T := TX6) (N := 24) hx hb hts (fun _ h => List.mem_cons_of_mem _ (List.mem_append_right _ (h))) hown hT.1 hW cf_e6 rfl 15 (by decide) (hts (.fieldLink RX6 81 "GameCafeModel" "groups" "I") (List.mem_of_getElem? (i := 4) rfl)) (fun _ h9 => h9) (congrArg (fun x => some (Value.int x)) (by simp [cf_s3, cf_g2, upd, hn2] : (cf_s3 (cf_s3 (cf_s3 (cf_s3 (cf_s3 (cf_s3 S 6 0 23 0) 17 8 t ((nI n) + 1)) 17 13 c9 1) 17 16 n x) 17 17 n (nI t)) 17 18 n (nI c9)) 6 0 15 = nI n)) dX6_seat_200 ?_
                refine lv_aload_n hx hb dX6_seat_203 rfl (lv_at hl 3 rfl) ?_
                refine cf_get (v := .int (S 6 0 0)) (ci := 6) (C := RX6) (T := TX6) (N := 24) hx hb hts (fun _ h => List.mem_cons_of_mem _ (List.mem_append_right _ (h))) hown hT.1 hW cf_e6 rfl 0 (by decide) (hts (.fieldLink RX6 98 "GameCafeModel" "minute" "I") (List.mem_of_getElem? (i := 6) rfl)) (fun _ h9 => h9) (congrArg (fun x => some (Value.int x)) (by simp [cf_s3, cf_g2, upd] : (cf_s3 (cf_s3 (cf_s3 (cf_s3 (cf_s3 (cf_s3 S 6 0 23 0) 17 8 t ((nI n) + 1)) 17 13 c9 1) 17 16 n x) 17 17 n (nI t)) 17 18 n (nI c9)) 6 0 0 = S 6 0 0)) dX6_seat_204 ?_
                refine cf_istN (t0 := 0) (n := 60) (f := (cf_s3 (cf_s3 (cf_s3 (cf_s3 (cf_s3 (cf_s3 S 6 0 23 0) 17 8 t ((nI n) + 1)) 17 13 c9 1) 17 16 n x) 17 17 n (nI t)) 17 18 n (nI c9)) 17 19) hx hb hT.1 hW hS (cf_e17 (i := 19) (by decide)) rfl n rfl hn60 (by decide) dX6_seat_207 (E2 := (cf_E cT nc ng (cf_s3 (cf_s3 (cf_s3 (cf_s3 (cf_s3 (cf_s3 (cf_s3 S 6 0 23 0) 17 8 t ((nI n) + 1)) 17 13 c9 1) 17 16 n x) 17 17 n (nI t)) 17 18 n (nI c9)) 17 19 n (S 6 0 0)) P O ad)) (cf_upS 17 19 (upd ((cf_s3 (cf_s3 (cf_s3 (cf_s3 (cf_s3 (cf_s3 S 6 0 23 0) 17 8 t ((nI n) + 1)) 17 13 c9 1) 17 16 n x) 17 17 n (nI t)) 17 18 n (nI c9)) 17 19) n (S 6 0 0)) (cf_c17 (i := 19) (by decide))) (fun H locs hW hS => ?_)
                refine lv_aload_n hx hb dX6_seat_208 rfl (lv_at hl 3 rfl) ?_
                refine lv_dup hx hb dX6_seat_209 rfl ?_
                refine cf_get (v := .int (nI n)) (ci := 6) (C := RX6) (T := TX6) (N := 24) hx hb hts (fun _ h => List.mem_cons_of_mem _ (List.mem_append_right _ (h))) hown hT.1 hW cf_e6 rfl 15 (by decide) (hts (.fieldLink RX6 81 "GameCafeModel" "groups" "I") (List.mem_of_getElem? (i := 4) rfl)) (fun _ h9 => h9) (congrArg (fun x => some (Value.int x)) (by simp [cf_s3, cf_g2, upd, hn2] : (cf_s3 (cf_s3 (cf_s3 (cf_s3 (cf_s3 (cf_s3 (cf_s3 S 6 0 23 0) 17 8 t ((nI n) + 1)) 17 13 c9 1) 17 16 n x) 17 17 n (nI t)) 17 18 n (nI c9)) 17 19 n (S 6 0 0)) 6 0 15 = nI n)) dX6_seat_210 ?_
                refine lv_iconst (v := 1) hx hb dX6_seat_213 (by decide) ?_
                refine lv_iadd hx hb dX6_seat_214 ?_
                refine cf_putE (v := .int ((nI n) + 1)) (ty := .int) (ci := 6) (C := RX6) (T := TX6) (N := 24) hx hb hts (fun _ h => List.mem_cons_of_mem _ (List.mem_append_right _ (h))) tyX6 tyX6_ok nmX6 hown hT.1 hW hS cf_e6 rfl 15 (by decide) (hts (.fieldLink RX6 81 "GameCafeModel" "groups" "I") (List.mem_of_getElem? (i := 4) rfl)) (fun _ h9 => h9) rfl (by decide +kernel) rfl rfl (Nat.le_of_ble_eq_true rfl) dX6_seat_215 (E2 := (cf_E cT nc ng (cf_s3 (cf_s3 (cf_s3 (cf_s3 (cf_s3 (cf_s3 (cf_s3 (cf_s3 S 6 0 23 0) 17 8 t ((nI n) + 1)) 17 13 c9 1) 17 16 n x) 17 17 n (nI t)) 17 18 n (nI c9)) 17 19 n (S 6 0 0)) 6 0 15 ((nI n) + 1)) P O ad)) (cf_upS 6 0 (upd ((cf_s3 (cf_s3 (cf_s3 (cf_s3 (cf_s3 (cf_s3 (cf_s3 S 6 0 23 0) 17 8 t ((nI n) + 1)) 17 13 c9 1) 17 16 n x) 17 17 n (nI t)) 17 18 n (nI c9)) 17 19 n (S 6 0 0)) 6 0) 15 ((nI n) + 1)) rfl) (fun H locs hW hS => ?_)
                refine lv_aload_n hx hb dX6_seat_218 rfl (lv_at hl 3 rfl) ?_
                refine cf_get (v := .int ((nI n) + 1)) (ci := 6) (C := RX6) (T := TX6) (N := 24) hx hb hts (fun _ h => List.mem_cons_of_mem _ (List.mem_append_right _ (h))) hown hT.1 hW cf_e6 rfl 15 (by decide) (hts (.fieldLink RX6 81 "GameCafeModel" "groups" "I") (List.mem_of_getElem? (i := 4) rfl)) (fun _ h9 => h9) (congrArg (fun x => some (Value.int x)) (by simp [cf_s3, cf_g2, upd] : (cf_s3 (cf_s3 (cf_s3 (cf_s3 (cf_s3 (cf_s3 (cf_s3 (cf_s3 S 6 0 23 0) 17 8 t ((nI n) + 1)) 17 13 c9 1) 17 16 n x) 17 17 n (nI t)) 17 18 n (nI c9)) 17 19 n (S 6 0 0)) 6 0 15 ((nI n) + 1)) 6 0 15 = ((nI n) + 1))) dX6_seat_219 ?_
                refine lv_iconst (v := 1) hx hb dX6_seat_222 (by decide) ?_
                refine lv_isub hx hb dX6_seat_223 ?_
                exact W.iret (v := (((nI n) + 1) - 1)) hx hb hr (fun t9 ht9 hw9 => ⟨⟨(((nI n) + 1) - 1), (cf_s3 (cf_s3 (cf_s3 (cf_s3 (cf_s3 (cf_s3 (cf_s3 (cf_s3 S 6 0 23 0) 17 8 t ((nI n) + 1)) 17 13 c9 1) 17 16 n x) 17 17 n (nI t)) 17 18 n (nI c9)) 17 19 n (S 6 0 0)) 6 0 15 ((nI n) + 1)), rfl, Or.inr ⟨gm, hg, hyg, Or.inr ⟨hR, some t, some c9, (some 0), hb0, hc0, (Or.inl ⟨c73_11, rfl⟩), Or.inr ⟨t, c9, 0, hn60, rfl, rfl, rfl, (by rw [show nI n + 1 = nI (n + 1) from nI_1 n]; exact nI_pred n), Or.inl ⟨c73_11, rfl⟩⟩⟩⟩, cf_W.re ht9 hW⟩, hS.F ht9⟩) hS.2.2 dX6_seat_224
      · have hlm := k1.f c38_7
        refine lv_iconst (v := 2) hx hb dX6_seat_41 (by decide) ?_
        refine lv_goto (tgt := 46) hx hb dX6_seat_42 (by decide) ?_
        refine cf_putE (v := .int 2) (ty := .int) (ci := 6) (C := RX6) (T := TX6) (N := 24) hx hb hts (fun _ h => List.mem_cons_of_mem _ (List.mem_append_right _ (h))) tyX6 tyX6_ok nmX6 hown hT.1 hW hS cf_e6 rfl 23 (by decide) (hts (.fieldLink RX6 70 "GameCafeModel" "thrown" "I") (List.mem_of_getElem? (i := 3) rfl)) (fun _ h9 => h9) rfl (by decide +kernel) rfl rfl (Nat.le_of_ble_eq_true rfl) dX6_seat_46 (E2 := (cf_E cT nc ng (cf_s3 S 6 0 23 2) P O ad)) (cf_upS 6 0 (upd (S 6 0) 23 2) rfl) (fun H locs hW hS => ?_)
        refine lv_aload_n hx hb dX6_seat_49 rfl (lv_at hl 0 rfl) ?_
        refine cf_get (v := .int 2) (ci := 6) (C := RX6) (T := TX6) (N := 24) hx hb hts (fun _ h => List.mem_cons_of_mem _ (List.mem_append_right _ (h))) hown hT.1 hW cf_e6 rfl 23 (by decide) (hts (.fieldLink RX6 70 "GameCafeModel" "thrown" "I") (List.mem_of_getElem? (i := 3) rfl)) (fun _ h9 => h9) (congrArg (fun x => some (Value.int x)) (by simp [cf_s3, cf_g2, upd] : (cf_s3 S 6 0 23 2) 6 0 23 = 2)) dX6_seat_50 ?_
        refine lv_if_le (tgt := 58) hx hb dX6_seat_53 (by decide) (fun c53_35 => (by first | exact absurd c53_35 (by decide) | exact absurd (by decide) c53_35)) (fun c53_35 => ?_)
        refine lv_iconst (v := 0) hx hb dX6_seat_56 (by decide) ?_
        exact W.iret (v := 0) hx hb hr (fun t9 ht9 hw9 => ⟨⟨0, (cf_s3 S 6 0 23 2), rfl, Or.inr ⟨gm, hg, hyg, Or.inl ⟨fun q => hlm q.2, rfl⟩⟩, cf_W.re ht9 hW⟩, hS.F ht9⟩) hS.2.2 dX6_seat_57
  · have hi := h0.f c5_2
    refine lv_iconst (v := 1) hx hb dX6_seat_8 (by decide) ?_
    refine lv_goto (tgt := 46) hx hb dX6_seat_9 (by decide) ?_
    refine cf_putE (v := .int 1) (ty := .int) (ci := 6) (C := RX6) (T := TX6) (N := 24) hx hb hts (fun _ h => List.mem_cons_of_mem _ (List.mem_append_right _ (h))) tyX6 tyX6_ok nmX6 hown hT.1 hW hS cf_e6 rfl 23 (by decide) (hts (.fieldLink RX6 70 "GameCafeModel" "thrown" "I") (List.mem_of_getElem? (i := 3) rfl)) (fun _ h9 => h9) rfl (by decide +kernel) rfl rfl (Nat.le_of_ble_eq_true rfl) dX6_seat_46 (E2 := (cf_E cT nc ng (cf_s3 S 6 0 23 1) P O ad)) (cf_upS 6 0 (upd (S 6 0) 23 1) rfl) (fun H locs hW hS => ?_)
    refine lv_aload_n hx hb dX6_seat_49 rfl (lv_at hl 0 rfl) ?_
    refine cf_get (v := .int 1) (ci := 6) (C := RX6) (T := TX6) (N := 24) hx hb hts (fun _ h => List.mem_cons_of_mem _ (List.mem_append_right _ (h))) hown hT.1 hW cf_e6 rfl 23 (by decide) (hts (.fieldLink RX6 70 "GameCafeModel" "thrown" "I") (List.mem_of_getElem? (i := 3) rfl)) (fun _ h9 => h9) (congrArg (fun x => some (Value.int x)) (by simp [cf_s3, cf_g2, upd] : (cf_s3 S 6 0 23 1) 6 0 23 = 1)) dX6_seat_50 ?_
    refine lv_if_le (tgt := 58) hx hb dX6_seat_53 (by decide) (fun c53_36 => (by first | exact absurd c53_36 (by decide) | exact absurd (by decide) c53_36)) (fun c53_36 => ?_)
    refine lv_iconst (v := 0) hx hb dX6_seat_56 (by decide) ?_
    exact W.iret (v := 0) hx hb hr (fun t9 ht9 hw9 => ⟨⟨0, (cf_s3 S 6 0 23 1), rfl, Or.inl ⟨hi, rfl⟩, cf_W.re ht9 hW⟩, hS.F ht9⟩) hS.2.2 dX6_seat_57
set_option maxHeartbeats 4000000 in
set_option maxRecDepth 100000 in
/-- X6_propose -/
theorem c_X6_propose (l : Launch) (D : va_G) (cT : Nat → ClassId) (z : Nat) (ad : cf_Ad) (nc ng : Nat) (S : cf_S) (P : cf_Pt) (O : Nat → Int64) (x : Int32) (hng : S 6 0 15 = nI ng) (hng60 : ng ≤ 60) (hn : S 6 0 11 = nI nc) (hnc : nc ≤ 15) (hM : ∀ j, j < nc → S 17 12 j = nI (P 0 j 0) ∧ P 0 j 0 < 5) : Met l yX6_propose wsX6_propose ({ frames := 2, cells := 0, slots := 0, locals := 45 }) (va_Pc [.ref (ad 6 0), .int x] (cf_P D cT z (cf_E cT nc ng S P O ad) ad)) (cf_Qi D z (fun (r : Int32) (T : cf_S) => (¬ cf_rg x 1 8 ∧ T = (cf_s3 S 6 0 23 1)) ∨ (cf_rg x 1 8 ∧ T = (cf_s3 S 6 0 23 0) ∧ ∃ b : Option Nat, r = cf_oi b ∧ b = cf_best (cf_okPM S P nc ng x) (cf_ltPM S) 5)) (fun T => cf_E cT nc ng T P O ad) (fun _ => ad)) 0 0 (fun q => z ≤ q) := by
  refine Met.ofW (cc := cX6_propose) (maxL := 5) (ret := (some .int)) (by decide) rfl ?_
  intro p e s m args below meth c s₁ B hml hv
  obtain ⟨rfl, hW, hT⟩ := hv
  have hx := B.exec
  have hb := B.bytes
  have hr := B.returns
  have hts := atoms_spec (ws := wsX6_propose) B.pre
  have hown : s.vm.findClass RX6 = some m.cls := findClass_of_methodNamed B.named
  have hlocks := B.notSynchronized
  have hS : va_S (fun q => z ≤ q) s.heap s.heap [] := va_S.rf
  have hl := lv_entry ([.ref (ad 6 0), .int x]) (n := 5) (Nat.le_of_ble_eq_true rfl)
  rw [lg_entry_eq]
  generalize (lg_sl ([.ref (ad 6 0), .int x]) ++ List.replicate (5 - (lg_sl ([.ref (ad 6 0), .int x])).length) Slot.unset).toArray = ls at hl ⊢
  have hl : lv_has ls 5 [(0, .ref (ad 6 0)), (1, .int x)] := hl
  skip
  refine lv_aload_n hx hb dX6_propose_0 rfl (lv_at hl 0 rfl) ?_
  refine lv_iload_n hx hb dX6_propose_1 rfl (lv_at hl 1 rfl) ?_
  refine lv_iconst (v := 1) hx hb dX6_propose_2 (by decide) ?_
  refine lv_bipush (v := 8) hx hb dX6_propose_3 (by decide) ?_
  refine va_calli (va_runS (As := [.int x, .int 1, .int 8]) (rest := [.ref (ad 6 0)]) ⟨hx, hb, hml, hown, hts⟩ (c_X6_in l D cT z ad _ x 1 8) (va_cwS 3 hts gX6_propose_X6_in rfl rfl rfl (by decide +kernel) ⟨Nat.le_of_ble_eq_true rfl, Nat.le_of_ble_eq_true rfl⟩) (cf_preS hT hS hW) rfl rfl hl.1 rfl (lv_room (Nat.le_of_ble_eq_true rfl)) dX6_propose_5 ⟨Nat.le_of_ble_eq_true rfl, Nat.le_of_ble_eq_true rfl⟩) hS (fun _ _ h => h) (fun _ h => h) (fun r1 ur1 t9 H locs ht hvm hw hW hz1 hk1 hS => ?_)
  have hW := cf_W.er ht hW
  have h0 := hw
  refine lv_if_eq (tgt := 15) hx hb dX6_propose_8 (by decide) (fun c8_2 => ?_) (fun c8_2 => ?_)
  · have hi := h0.f c8_2
    refine lv_iconst (v := 1) hx hb dX6_propose_15 (by decide) ?_
    refine cf_putE (v := .int 1) (ty := .int) (ci := 6) (C := RX6) (T := TX6) (N := 24) hx hb hts (fun _ h => List.mem_cons_of_mem _ (List.mem_append_right _ (h))) tyX6 tyX6_ok nmX6 hown hT.1 hW hS cf_e6 rfl 23 (by decide) (hts (.fieldLink RX6 70 "GameCafeModel" "thrown" "I") (List.mem_of_getElem? (i := 1) rfl)) (fun _ h9 => h9) rfl (by decide +kernel) rfl rfl (Nat.le_of_ble_eq_true rfl) dX6_propose_16 (E2 := (cf_E cT nc ng (cf_s3 S 6 0 23 1) P O ad)) (cf_upS 6 0 (upd (S 6 0) 23 1) rfl) (fun H locs hW hS => ?_)
    refine lv_aload_n hx hb dX6_propose_19 rfl (lv_at hl 0 rfl) ?_
    refine cf_get (v := .int 1) (ci := 6) (C := RX6) (T := TX6) (N := 24) hx hb hts (fun _ h => List.mem_cons_of_mem _ (List.mem_append_right _ (h))) hown hT.1 hW cf_e6 rfl 23 (by decide) (hts (.fieldLink RX6 70 "GameCafeModel" "thrown" "I") (List.mem_of_getElem? (i := 1) rfl)) (fun _ h9 => h9) (congrArg (fun x => some (Value.int x)) (by simp [cf_s3, cf_g2, upd] : (cf_s3 S 6 0 23 1) 6 0 23 = 1)) dX6_propose_20 ?_
    refine lv_if_le (tgt := 28) hx hb dX6_propose_23 (by decide) (fun c23_3 => (by first | exact absurd c23_3 (by decide) | exact absurd (by decide) c23_3)) (fun c23_3 => ?_)
    refine lv_iconst (v := 0) hx hb dX6_propose_26 (by decide) ?_
    exact W.iret (v := 0) hx hb hr (fun t9 ht9 hw9 => ⟨⟨0, (cf_s3 S 6 0 23 1), rfl, Or.inl ⟨hi, rfl⟩, cf_W.re ht9 hW⟩, hS.F ht9⟩) hS.2.2 dX6_propose_27
  · have hi := h0.t c8_2
    refine lv_iconst (v := 0) hx hb dX6_propose_11 (by decide) ?_
    refine lv_goto (tgt := 16) hx hb dX6_propose_12 (by decide) ?_
    refine cf_putE (v := .int 0) (ty := .int) (ci := 6) (C := RX6) (T := TX6) (N := 24) hx hb hts (fun _ h => List.mem_cons_of_mem _ (List.mem_append_right _ (h))) tyX6 tyX6_ok nmX6 hown hT.1 hW hS cf_e6 rfl 23 (by decide) (hts (.fieldLink RX6 70 "GameCafeModel" "thrown" "I") (List.mem_of_getElem? (i := 1) rfl)) (fun _ h9 => h9) rfl (by decide +kernel) rfl rfl (Nat.le_of_ble_eq_true rfl) dX6_propose_16 (E2 := (cf_E cT nc ng (cf_s3 S 6 0 23 0) P O ad)) (cf_upS 6 0 (upd (S 6 0) 23 0) rfl) (fun H locs hW hS => ?_)
    refine lv_aload_n hx hb dX6_propose_19 rfl (lv_at hl 0 rfl) ?_
    refine cf_get (v := .int 0) (ci := 6) (C := RX6) (T := TX6) (N := 24) hx hb hts (fun _ h => List.mem_cons_of_mem _ (List.mem_append_right _ (h))) hown hT.1 hW cf_e6 rfl 23 (by decide) (hts (.fieldLink RX6 70 "GameCafeModel" "thrown" "I") (List.mem_of_getElem? (i := 1) rfl)) (fun _ h9 => h9) (congrArg (fun x => some (Value.int x)) (by simp [cf_s3, cf_g2, upd] : (cf_s3 S 6 0 23 0) 6 0 23 = 0)) dX6_propose_20 ?_
    refine lv_if_le (tgt := 28) hx hb dX6_propose_23 (by decide) (fun c23_4 => ?_) (fun c23_4 => (by first | exact absurd (by decide) c23_4 | exact absurd c23_4 (by decide)))
    have hng : (cf_s3 S 6 0 23 0) 6 0 15 = nI ng := hng
    refine lv_iconst (v := (-1)) hx hb dX6_propose_28 (by decide) ?_
    refine lv_istore_n (lv' := [(2, .int (-1)), (0, .ref (ad 6 0)), (1, .int x)]) hx hb dX6_propose_29 rfl hl (by decide) rfl (fun ls hl => ?_)
    refine lv_iconst (v := 0) hx hb dX6_propose_30 (by decide) ?_
    refine lv_istore_n (lv' := [(3, .int 0), (2, .int (-1)), (0, .ref (ad 6 0)), (1, .int x)]) hx hb dX6_propose_31 rfl hl (by decide) rfl (fun ls hl => ?_)
    have hiP := hi
    refine cf_loopW (β := Option Nat) (fun i H locs ls b => cf_W D z (cf_E cT nc ng (cf_s3 S 6 0 23 0) P O ad) ad H ∧ va_S (fun q => z ≤ q) s.heap H locs ∧ lv_has ls 5 [(0, .ref (ad 6 0)), (1, .int x), (2, .int (cf_oi b)), (3, .int (nI i))] ∧ b = cf_best (cf_okPM S P nc ng x) (cf_ltPM S) i) 5 (fun H locs ls b hI => ?_) (fun i H locs ls b hi hI ih => ?_) none ⟨hW, hS, lv_sub hl [2, 3, 1, 0] rfl, rfl⟩
    · obtain ⟨hW, hS, hl, hI⟩ := hI
      refine lv_iload_n hx hb dX6_propose_32 rfl (lv_at hl 3 rfl) ?_
      refine lv_iconst (v := 5) hx hb dX6_propose_33 (by decide) ?_
      refine lv_icmp_ge (tgt := 127) hx hb dX6_propose_34 (by decide) (fun c34_5 => ?_) (fun c34_5 => (by first | exact absurd (nI_le (Nat.le_refl 5) (by decide)) c34_5 | exact absurd c34_5 (nI_le (Nat.le_refl 5) (by decide))))
      refine lv_iload_n hx hb dX6_propose_127 rfl (lv_at hl 2 rfl) ?_
      exact W.iret (v := (cf_oi b)) hx hb hr (fun t9 ht9 hw9 => ⟨⟨(cf_oi b), (cf_s3 S 6 0 23 0), rfl, Or.inr ⟨hi, rfl, b, rfl, hI⟩, cf_W.re ht9 hW⟩, hS.F ht9⟩) hS.2.2 dX6_propose_128
    · obtain ⟨hW, hS, hl, hI⟩ := hI
      have hi5 := hi
      have hi := hiP
      refine lv_iload_n hx hb dX6_propose_32 rfl (lv_at hl 3 rfl) ?_
      refine lv_iconst (v := 5) hx hb dX6_propose_33 (by decide) ?_
      refine lv_icmp_ge (tgt := 127) hx hb dX6_propose_34 (by decide) (fun c34_6 => (by first | exact absurd c34_6 (nI_ge hi5 (by decide)) | exact absurd (nI_ge hi5 (by decide)) c34_6)) (fun c34_6 => ?_)
      refine lv_aload_n hx hb dX6_propose_37 rfl (lv_at hl 0 rfl) ?_
      refine cf_get (v := .int (nI ng)) (ci := 6) (C := RX6) (T := TX6) (N := 24) hx hb hts (fun _ h => List.mem_cons_of_mem _ (List.mem_append_right _ (h))) hown hT.1 hW cf_e6 rfl 15 (by decide) (hts (.fieldLink RX6 81 "GameCafeModel" "groups" "I") (List.mem_of_getElem? (i := 2) rfl)) (fun _ h9 => h9) (by rw [hng]; rfl) dX6_propose_38 ?_
      refine lv_bipush (v := 60) hx hb dX6_propose_41 (by decide) ?_
      refine lv_icmp_ge (tgt := 127) hx hb dX6_propose_43 (by decide) (fun c43_7 => ?_) (fun c43_7 => ?_)
      · refine lv_iload_n hx hb dX6_propose_127 rfl (lv_at hl 2 rfl) ?_
        exact W.iret (v := (cf_oi b)) hx hb hr (fun t9 ht9 hw9 => ⟨⟨(cf_oi b), (cf_s3 S 6 0 23 0), rfl, Or.inr ⟨hi, rfl, b, rfl, (hI.trans ((cf_best_none (ok := cf_okPM S P nc ng x) (fun g9 _ => cf_dec_f (p := cf_canM S P nc ng x g9) (fun q => absurd q.1 (by have h9 : ¬ ng < 60 := fun h8 => absurd (nI_lt h8 (by decide) : nI ng < nI 60) (Int32.not_lt.mpr c43_7); exact h9)))).trans (cf_best_none (ok := cf_okPM S P nc ng x) (fun g9 _ => cf_dec_f (p := cf_canM S P nc ng x g9) (fun q => absurd q.1 (by have h9 : ¬ ng < 60 := fun h8 => absurd (nI_lt h8 (by decide) : nI ng < nI 60) (Int32.not_lt.mpr c43_7); exact h9)))).symm))⟩, cf_W.re ht9 hW⟩, hS.F ht9⟩) hS.2.2 dX6_propose_128
      · have hn60 : ng < 60 := by rcases Nat.lt_or_ge ng 60 with h9 | h9; exact h9; exact absurd (show (60 : Int32) ≤ nI ng by rw [show ng = 60 by omega]; decide) c43_7
        refine lv_aload_n hx hb dX6_propose_46 rfl (lv_at hl 0 rfl) ?_
        refine lv_iload_n hx hb dX6_propose_47 rfl (lv_at hl 1 rfl) ?_
        refine va_calli (va_runV (As := [.int x]) (rest := []) ⟨hx, hb, hml, hown, hts⟩ (c_X6_tableFor l D cT z ad nc ng (cf_s3 S 6 0 23 0) P O x) (cwV 1 hts gX6_propose_X6_tableFor rfl rfl rfl (by decide +kernel) ⟨Nat.le_of_ble_eq_true rfl, Nat.le_of_ble_eq_true rfl⟩) (cf_preV (T := TX6) (N := 24) hT hS hW cf_e6 rfl) rfl rfl hl.1 rfl (lv_room (Nat.le_of_ble_eq_true rfl)) dX6_propose_48 ⟨Nat.le_of_ble_eq_true rfl, Nat.le_of_ble_eq_true rfl⟩) hS (fun _ _ h => h) (fun _ h => h) (fun r8 ur8 t9 H locs ht hvm hw hW hz1 hk1 hS => ?_)
        have hW := cf_W.er ht hW
        obtain ⟨b0, hb0, hrb⟩ := hw
        subst hrb
        have hb0 : b0 = cf_best (cf_okTM S x) (cf_ltTM S) 6 := hb0
        rcases b0 with _ | t0
        · have hl : lv_has ls 5 [(0, .ref (ad 6 0)), (1, .int x), (2, .int (cf_oi b)), (3, .int (nI i))] := hl
          refine lv_iconst (v := (-1)) hx hb dX6_propose_51 (by decide) ?_
          refine lv_icmp_eq (tgt := 127) hx hb dX6_propose_52 (by decide) (fun c52_9 => ?_) (fun c52_9 => (by first | exact absurd rfl c52_9 | exact absurd c52_9 rfl))
          refine lv_iload_n hx hb dX6_propose_127 rfl (lv_at hl 2 rfl) ?_
          exact W.iret (v := (cf_oi b)) hx hb hr (fun t9 ht9 hw9 => ⟨⟨(cf_oi b), (cf_s3 S 6 0 23 0), rfl, Or.inr ⟨hi, rfl, b, rfl, (hI.trans ((cf_best_none (ok := cf_okPM S P nc ng x) (fun g9 _ => cf_dec_f (p := cf_canM S P nc ng x g9) (fun q => q.2.1 hb0.symm))).trans (cf_best_none (ok := cf_okPM S P nc ng x) (fun g9 _ => cf_dec_f (p := cf_canM S P nc ng x g9) (fun q => q.2.1 hb0.symm))).symm))⟩, cf_W.re ht9 hW⟩, hS.F ht9⟩) hS.2.2 dX6_propose_128
        · have hl : lv_has ls 5 [(0, .ref (ad 6 0)), (1, .int x), (2, .int (cf_oi b)), (3, .int (nI i))] := hl
          have ht6 : t0 < 6 := (cf_best_in hb0.symm).1
          have htn : ¬ cf_best (cf_okTM S x) (cf_ltTM S) 6 = none := by rw [← hb0]; exact fun q => nomatch q
          refine lv_iconst (v := (-1)) hx hb dX6_propose_51 (by decide) ?_
          refine lv_icmp_eq (tgt := 127) hx hb dX6_propose_52 (by decide) (fun c52_10 => (by first | exact absurd c52_10 (cf_nIm1 (by omega)) | exact absurd (cf_nIm1 (by omega)) c52_10)) (fun c52_10 => ?_)
          refine lv_iload_n hx hb dX6_propose_55 rfl (lv_at hl 1 rfl) ?_
          refine lv_aload_n hx hb dX6_propose_56 rfl (lv_at hl 0 rfl) ?_
          refine cf_get (v := .ref (ad 17 1)) (ci := 6) (C := RX6) (T := TX6) (N := 24) hx hb hts (fun _ h => List.mem_cons_of_mem _ (List.mem_append_right _ (h))) hown hT.1 hW cf_e6 rfl 1 (by decide) (hts (.fieldLink RX6 7 "GameCafeModel" "leasts" "[I") (List.mem_of_getElem? (i := 3) rfl)) (fun _ h9 => h9) rfl dX6_propose_57 ?_
          refine lv_iload_n hx hb dX6_propose_60 rfl (lv_at hl 3 rfl) ?_
          refine cf_ildN (t0 := 0) (n := 5) (f := (cf_s3 S 6 0 23 0) 17 1) (v := ((cf_s3 S 6 0 23 0) 17 1 i)) hx hb hT.1 hW (cf_e17 (i := 1) (by decide)) rfl i rfl hi5 (by decide) dX6_propose_61 rfl ?_
          refine lv_aload_n hx hb dX6_propose_62 rfl (lv_at hl 0 rfl) ?_
          refine cf_get (v := .ref (ad 17 2)) (ci := 6) (C := RX6) (T := TX6) (N := 24) hx hb hts (fun _ h => List.mem_cons_of_mem _ (List.mem_append_right _ (h))) hown hT.1 hW cf_e6 rfl 2 (by decide) (hts (.fieldLink RX6 13 "GameCafeModel" "mosts" "[I") (List.mem_of_getElem? (i := 4) rfl)) (fun _ h9 => h9) rfl dX6_propose_63 ?_
          refine lv_iload_n hx hb dX6_propose_66 rfl (lv_at hl 3 rfl) ?_
          refine cf_ildN (t0 := 0) (n := 5) (f := (cf_s3 S 6 0 23 0) 17 2) (v := ((cf_s3 S 6 0 23 0) 17 2 i)) hx hb hT.1 hW (cf_e17 (i := 2) (by decide)) rfl i rfl hi5 (by decide) dX6_propose_67 rfl ?_
          refine va_calli (va_runS (As := [.int x, .int ((cf_s3 S 6 0 23 0) 17 1 i), .int ((cf_s3 S 6 0 23 0) 17 2 i)]) (rest := []) ⟨hx, hb, hml, hown, hts⟩ (c_X6_in l D cT z ad _ x ((cf_s3 S 6 0 23 0) 17 1 i) ((cf_s3 S 6 0 23 0) 17 2 i)) (va_cwS 3 hts gX6_propose_X6_in rfl rfl rfl (by decide +kernel) ⟨Nat.le_of_ble_eq_true rfl, Nat.le_of_ble_eq_true rfl⟩) (cf_preS hT hS hW) rfl rfl hl.1 rfl (lv_room (Nat.le_of_ble_eq_true rfl)) dX6_propose_68 ⟨Nat.le_of_ble_eq_true rfl, Nat.le_of_ble_eq_true rfl⟩) hS (fun _ _ h => h) (fun _ h => h) (fun r11 ur11 t9 H locs ht hvm hw hW hz1 hk1 hS => ?_)
          have hW := cf_W.er ht hW
          have k0 := hw
          refine lv_if_eq (tgt := 87) hx hb dX6_propose_71 (by decide) (fun c71_12 => ?_) (fun c71_12 => ?_)
          · have h18 := k0.f c71_12
            refine lv_iconst (v := 0) hx hb dX6_propose_87 (by decide) ?_
            refine lv_istore (lv' := [(4, .int 0), (0, .ref (ad 6 0)), (1, .int x), (2, .int (cf_oi b)), (3, .int (nI i))]) hx hb dX6_propose_88 hl (by decide) rfl (fun ls hl => ?_)
            refine lv_iload hx hb dX6_propose_90 (lv_at hl 0 rfl) ?_
            refine lv_if_eq (tgt := 119) hx hb dX6_propose_92 (by decide) (fun c92_13 => ?_) (fun c92_13 => (by first | exact absurd rfl c92_13 | exact absurd c92_13 rfl))
            refine lv_iload_n hx hb dX6_propose_119 rfl (lv_at hl 3 rfl) ?_
            refine lv_istore_n (lv' := [(2, .int (cf_oi b)), (4, .int 0), (0, .ref (ad 6 0)), (1, .int x), (3, .int (nI i))]) hx hb dX6_propose_120 rfl hl (by decide) rfl (fun ls hl => ?_)
            refine lv_iinc (v := (nI (i + 1))) (lv' := [(3, .int (nI (i + 1))), (2, .int (cf_oi b)), (4, .int 0), (0, .ref (ad 6 0)), (1, .int x)]) hx hb dX6_propose_121 hl (k := 4) rfl (nI_1 i) (by decide) rfl (fun ls hl => ?_)
            refine lv_goto (tgt := 32) hx hb dX6_propose_124 (by decide) ?_
            exact ih _ _ _ b ⟨hW, hS, lv_sub hl [3, 4, 1, 0] rfl, (hI.trans (cf_best_no (cf_dec_f (fun q => h18 q.2.2.1))).symm)⟩
          · have h18 := k0.t c71_12
            refine lv_aload_n hx hb dX6_propose_74 rfl (lv_at hl 0 rfl) ?_
            refine lv_iload_n hx hb dX6_propose_75 rfl (lv_at hl 3 rfl) ?_
            refine va_calli (va_runV (As := [.int (nI i)]) (rest := []) ⟨hx, hb, hml, hown, hts⟩ (c_X6_copyFor l D cT z ad nc ng (cf_s3 S 6 0 23 0) P O (nI i) rfl hi5 hn hnc hM) (cwV 1 hts gX6_propose_X6_copyFor rfl rfl rfl (by decide +kernel) ⟨Nat.le_of_ble_eq_true rfl, Nat.le_of_ble_eq_true rfl⟩) (cf_preV (T := TX6) (N := 24) hT hS hW cf_e6 rfl) rfl rfl hl.1 rfl (lv_room (Nat.le_of_ble_eq_true rfl)) dX6_propose_76 ⟨Nat.le_of_ble_eq_true rfl, Nat.le_of_ble_eq_true rfl⟩) hS (fun _ _ h => h) (fun _ h => h) (fun r14 ur14 t9 H locs ht hvm hw hW hz1 hk1 hS => ?_)
            have hW := cf_W.er ht hW
            obtain ⟨c0, hc0, hrc⟩ := hw
            subst hrc
            have hc0 : cf_fst (cf_okCM S P i) nc c0 := hc0
            rcases c0 with _ | c9
            · have hl : lv_has ls 5 [(0, .ref (ad 6 0)), (1, .int x), (2, .int (cf_oi b)), (3, .int (nI i))] := hl
              refine lv_iconst (v := (-1)) hx hb dX6_propose_79 (by decide) ?_
              refine lv_icmp_eq (tgt := 87) hx hb dX6_propose_80 (by decide) (fun c80_15 => ?_) (fun c80_15 => (by first | exact absurd rfl c80_15 | exact absurd c80_15 rfl))
              refine lv_iconst (v := 0) hx hb dX6_propose_87 (by decide) ?_
              refine lv_istore (lv' := [(4, .int 0), (0, .ref (ad 6 0)), (1, .int x), (2, .int (cf_oi b)), (3, .int (nI i))]) hx hb dX6_propose_88 hl (by decide) rfl (fun ls hl => ?_)
              refine lv_iload hx hb dX6_propose_90 (lv_at hl 0 rfl) ?_
              refine lv_if_eq (tgt := 119) hx hb dX6_propose_92 (by decide) (fun c92_16 => ?_) (fun c92_16 => (by first | exact absurd rfl c92_16 | exact absurd c92_16 rfl))
              refine lv_iload_n hx hb dX6_propose_119 rfl (lv_at hl 3 rfl) ?_
              refine lv_istore_n (lv' := [(2, .int (cf_oi b)), (4, .int 0), (0, .ref (ad 6 0)), (1, .int x), (3, .int (nI i))]) hx hb dX6_propose_120 rfl hl (by decide) rfl (fun ls hl => ?_)
              refine lv_iinc (v := (nI (i + 1))) (lv' := [(3, .int (nI (i + 1))), (2, .int (cf_oi b)), (4, .int 0), (0, .ref (ad 6 0)), (1, .int x)]) hx hb dX6_propose_121 hl (k := 4) rfl (nI_1 i) (by decide) rfl (fun ls hl => ?_)
              refine lv_goto (tgt := 32) hx hb dX6_propose_124 (by decide) ?_
              exact ih _ _ _ b ⟨hW, hS, lv_sub hl [3, 4, 1, 0] rfl, (hI.trans (cf_best_no (cf_dec_f (fun q => cf_fst_no hc0 q.2.2.2))).symm)⟩
            · have hl : lv_has ls 5 [(0, .ref (ad 6 0)), (1, .int x), (2, .int (cf_oi b)), (3, .int (nI i))] := hl
              have hcn : c9 < nc := (cf_fst_so hc0).1
              refine lv_iconst (v := (-1)) hx hb dX6_propose_79 (by decide) ?_
              refine lv_icmp_eq (tgt := 87) hx hb dX6_propose_80 (by decide) (fun c80_17 => (by first | exact absurd c80_17 (cf_nIm1 (by omega)) | exact absurd (cf_nIm1 (by omega)) c80_17)) (fun c80_17 => ?_)
              have hok : cf_okPM S P nc ng x i = true := cf_dec_t ⟨hn60, htn, h18, c9, cf_fst_so hc0⟩
              refine lv_iconst (v := 1) hx hb dX6_propose_83 (by decide) ?_
              refine lv_goto (tgt := 88) hx hb dX6_propose_84 (by decide) ?_
              refine lv_istore (lv' := [(4, .int 1), (0, .ref (ad 6 0)), (1, .int x), (2, .int (cf_oi b)), (3, .int (nI i))]) hx hb dX6_propose_88 hl (by decide) rfl (fun ls hl => ?_)
              refine lv_iload hx hb dX6_propose_90 (lv_at hl 0 rfl) ?_
              refine lv_if_eq (tgt := 119) hx hb dX6_propose_92 (by decide) (fun c92_18 => (by first | exact absurd c92_18 (by decide) | exact absurd (by decide) c92_18)) (fun c92_18 => ?_)
              rcases b with _ | t
              · have hl : lv_has ls 5 [(4, .int 1), (0, .ref (ad 6 0)), (1, .int x), (2, .int (-1)), (3, .int (nI i))] := hl
                refine lv_iload_n hx hb dX6_propose_95 rfl (lv_at hl 3 rfl) ?_
                refine lv_iconst (v := (-1)) hx hb dX6_propose_96 (by decide) ?_
                refine lv_icmp_eq (tgt := 115) hx hb dX6_propose_97 (by decide) (fun c97_19 => ?_) (fun c97_19 => (by first | exact absurd rfl c97_19 | exact absurd c97_19 rfl))
                refine lv_iload_n hx hb dX6_propose_115 rfl (lv_at hl 4 rfl) ?_
                refine lv_goto (tgt := 120) hx hb dX6_propose_116 (by decide) ?_
                refine lv_istore_n (lv' := [(2, .int (nI i)), (4, .int 1), (0, .ref (ad 6 0)), (1, .int x), (3, .int (nI i))]) hx hb dX6_propose_120 rfl hl (by decide) rfl (fun ls hl => ?_)
                refine lv_iinc (v := (nI (i + 1))) (lv' := [(3, .int (nI (i + 1))), (2, .int (nI i)), (4, .int 1), (0, .ref (ad 6 0)), (1, .int x)]) hx hb dX6_propose_121 hl (k := 4) rfl (nI_1 i) (by decide) rfl (fun ls hl => ?_)
                refine lv_goto (tgt := 32) hx hb dX6_propose_124 (by decide) ?_
                exact ih _ _ _ (some i) ⟨hW, hS, lv_sub hl [3, 4, 1, 0] rfl, ((cf_best_first hok hI.symm).symm)⟩
              · have hl : lv_has ls 5 [(4, .int 1), (0, .ref (ad 6 0)), (1, .int x), (2, .int (nI t)), (3, .int (nI i))] := hl
                have ht5 : t < 5 := Nat.lt_trans (cf_best_in hI.symm).1 hi5
                refine lv_iload_n hx hb dX6_propose_95 rfl (lv_at hl 3 rfl) ?_
                refine lv_iconst (v := (-1)) hx hb dX6_propose_96 (by decide) ?_
                refine lv_icmp_eq (tgt := 115) hx hb dX6_propose_97 (by decide) (fun c97_20 => (by first | exact absurd c97_20 (cf_nIm1 (by omega)) | exact absurd (cf_nIm1 (by omega)) c97_20)) (fun c97_20 => ?_)
                refine lv_aload_n hx hb dX6_propose_100 rfl (lv_at hl 1 rfl) ?_
                refine cf_get (v := .ref (ad 17 6)) (ci := 6) (C := RX6) (T := TX6) (N := 24) hx hb hts (fun _ h => List.mem_cons_of_mem _ (List.mem_append_right _ (h))) hown hT.1 hW cf_e6 rfl 6 (by decide) (hts (.fieldLink RX6 25 "GameCafeModel" "played" "[I") (List.mem_of_getElem? (i := 5) rfl)) (fun _ h9 => h9) rfl dX6_propose_101 ?_
                refine lv_iload_n hx hb dX6_propose_104 rfl (lv_at hl 4 rfl) ?_
                refine cf_ildN (t0 := 0) (n := 5) (f := (cf_s3 S 6 0 23 0) 17 6) (v := ((cf_s3 S 6 0 23 0) 17 6 i)) hx hb hT.1 hW (cf_e17 (i := 6) (by decide)) rfl i rfl hi5 (by decide) dX6_propose_105 rfl ?_
                refine lv_aload_n hx hb dX6_propose_106 rfl (lv_at hl 1 rfl) ?_
                refine cf_get (v := .ref (ad 17 6)) (ci := 6) (C := RX6) (T := TX6) (N := 24) hx hb hts (fun _ h => List.mem_cons_of_mem _ (List.mem_append_right _ (h))) hown hT.1 hW cf_e6 rfl 6 (by decide) (hts (.fieldLink RX6 25 "GameCafeModel" "played" "[I") (List.mem_of_getElem? (i := 5) rfl)) (fun _ h9 => h9) rfl dX6_propose_107 ?_
                refine lv_iload_n hx hb dX6_propose_110 rfl (lv_at hl 3 rfl) ?_
                refine cf_ildN (t0 := 0) (n := 5) (f := (cf_s3 S 6 0 23 0) 17 6) (v := ((cf_s3 S 6 0 23 0) 17 6 t)) hx hb hT.1 hW (cf_e17 (i := 6) (by decide)) rfl t rfl ht5 (by decide) dX6_propose_111 rfl ?_
                refine lv_icmp_le (tgt := 119) hx hb dX6_propose_112 (by decide) (fun c112_21 => ?_) (fun c112_21 => ?_)
                · refine lv_iload_n hx hb dX6_propose_119 rfl (lv_at hl 3 rfl) ?_
                  refine lv_istore_n (lv' := [(2, .int (nI t)), (4, .int 1), (0, .ref (ad 6 0)), (1, .int x), (3, .int (nI i))]) hx hb dX6_propose_120 rfl hl (by decide) rfl (fun ls hl => ?_)
                  refine lv_iinc (v := (nI (i + 1))) (lv' := [(3, .int (nI (i + 1))), (2, .int (nI t)), (4, .int 1), (0, .ref (ad 6 0)), (1, .int x)]) hx hb dX6_propose_121 hl (k := 4) rfl (nI_1 i) (by decide) rfl (fun ls hl => ?_)
                  refine lv_goto (tgt := 32) hx hb dX6_propose_124 (by decide) ?_
                  exact ih _ _ _ (some t) ⟨hW, hS, lv_sub hl [3, 4, 1, 0] rfl, ((cf_best_old hI.symm (decide_eq_false (Int32.not_lt.mpr c112_21))).symm)⟩
                · refine lv_iload_n hx hb dX6_propose_115 rfl (lv_at hl 4 rfl) ?_
                  refine lv_goto (tgt := 120) hx hb dX6_propose_116 (by decide) ?_
                  refine lv_istore_n (lv' := [(2, .int (nI i)), (4, .int 1), (0, .ref (ad 6 0)), (1, .int x), (3, .int (nI i))]) hx hb dX6_propose_120 rfl hl (by decide) rfl (fun ls hl => ?_)
                  refine lv_iinc (v := (nI (i + 1))) (lv' := [(3, .int (nI (i + 1))), (2, .int (nI i)), (4, .int 1), (0, .ref (ad 6 0)), (1, .int x)]) hx hb dX6_propose_121 hl (k := 4) rfl (nI_1 i) (by decide) rfl (fun ls hl => ?_)
                  refine lv_goto (tgt := 32) hx hb dX6_propose_124 (by decide) ?_
                  exact ih _ _ _ (some i) ⟨hW, hS, lv_sub hl [3, 4, 1, 0] rfl, ((cf_best_new hok hI.symm (decide_eq_true (Int32.not_le.mp c112_21))).symm)⟩
