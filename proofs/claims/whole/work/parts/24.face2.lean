set_option maxHeartbeats 4000000 in
set_option maxRecDepth 100000 in
/-- X5_count -/
theorem c_X5_count (l : Launch) (D : va_G) (cT : Nat → ClassId) (z : Nat) (ad : cf_Ad) (nc ng : Nat) (S : cf_S) (P : cf_Pt) (O : Nat → Int64) (hl0 : l.stackTraces = false) (x y a1 : Int32) (hnc : nc ≤ 15) (hO : ∀ j, j < 15 → P 14 0 j = if j < nc then j + 1 else 0) : vx_Met l yX5_count wsX5_count ({ frames := 7, cells := 4, slots := 24, locals := 104 }) (va_Pc [.ref (ad 5 0), .int x, .int y, .int a1] (cf_P D cT z (cf_E cT nc ng S P O ad) ad)) (cf_Qi D z (fun (r : Int32) (T : cf_S) => ∃ cp k : Nat, cp < nc ∧ x = nI cp ∧ k < 4 ∧ y = nI k ∧ (cf_rg a1 (-20) 20) ∧ S 0 cp 0 ≠ 2 ∧ cf_rg (S 7 cp k + a1) 0 40 ∧ r = S 7 cp k + a1 ∧ T = cf_s3 S 7 cp k (S 7 cp k + a1)) (fun T => cf_E cT nc ng T P O ad) (fun _ => ad)) (cf_X D z (cf_E cT nc ng S P O ad) ad (cf_x123 (cf_ix x nc ∧ cf_ix y 4) (cf_rg a1 (-20) 20) (∀ cp k : Nat, x = nI cp → cp < nc → y = nI k → k < 4 → S 0 cp 0 ≠ 2 ∧ cf_rg (S 7 cp k + a1) 0 40))) 4 24 (fun q => z ≤ q) := by
  refine vx_ofW (cc := cX5_count) (maxL := 6) (ret := (some .int)) (by decide) rfl ?_
  intro p e s m args below meth c s₁ B hml htab hv
  obtain ⟨rfl, hW, hT⟩ := hv
  have hx := B.exec
  have hb := B.bytes
  have hr := B.returns
  have hts := atoms_spec (ws := wsX5_count) B.pre
  have hown : s.vm.findClass RX5 = some m.cls := findClass_of_methodNamed B.named
  have hlocks := B.notSynchronized
  have hS : va_S (fun q => z ≤ q) s.heap s.heap [] := va_S.rf
  have hl := lv_entry ([.ref (ad 5 0), .int x, .int y, .int a1]) (n := 6) (Nat.le_of_ble_eq_true rfl)
  rw [lg_entry_eq]
  generalize (lg_sl ([.ref (ad 5 0), .int x, .int y, .int a1]) ++ List.replicate (6 - (lg_sl ([.ref (ad 5 0), .int x, .int y, .int a1])).length) Slot.unset).toArray = ls at hl ⊢
  have hl : lv_has ls 6 [(0, .ref (ad 5 0)), (1, .int x), (2, .int y), (3, .int a1)] := hl
  skip
  refine lv_aload_n hx hb dX5_count_0 rfl (lv_at hl 0 rfl) ?_
  refine lv_iload_n hx hb dX5_count_1 rfl (lv_at hl 1 rfl) ?_
  refine vx_callq (vx_runV (As := [.int x]) (rest := []) ⟨hx, hb, hml, hown, hts⟩ (c_X5_copyNumbered l D cT z ad nc ng S P O hl0 x hnc hO) (cwV 1 hts gX5_count_X5_copyNumbered rfl rfl rfl (by decide +kernel) ⟨Nat.le_of_ble_eq_true rfl, Nat.le_of_ble_eq_true rfl⟩) (cf_preV (T := TX5) (N := 9) hT hS hW cf_e5 rfl) rfl rfl hl.1 rfl (lv_room (Nat.le_of_ble_eq_true rfl)) dX5_count_2 ⟨Nat.le_of_ble_eq_true rfl, Nat.le_of_ble_eq_true rfl⟩) hS (fun _ _ h => h) (fun _ h => h) (fun _ _ h => h) (fun E9 ce q9 u9 t9 H locs ht hvm hu hB hz1 hk1 hS hce hcv hcl => ?_) (fun r1 ur1 t9 H locs ht hvm hw hW hz1 hk1 hS => ?_)
  · obtain ⟨hp, hW⟩ := hB
    have hW := cf_W.er ht hW
    exact cf_pass htab hlocks hce hcv hcl hS hW (Or.inl ⟨hp.1, fun q => hp.2 q.1⟩) ⟨Nat.le_of_ble_eq_true rfl, Nat.le_of_ble_eq_true rfl⟩
  have hW := cf_W.er ht hW
  obtain ⟨cp, hc, hxc, rfl⟩ := hw
  refine lv_astore (lv' := [(4, .ref (ad 0 cp)), (0, .ref (ad 5 0)), (1, .int x), (2, .int y), (3, .int a1)]) hx hb dX5_count_5 hl (by decide) rfl (fun ls hl => ?_)
  refine lv_iload_n hx hb dX5_count_7 rfl (lv_at hl 3 rfl) ?_
  refine lv_iconst (v := 4) hx hb dX5_count_8 (by decide) ?_
  refine vx_callv (vx_runS (As := [.int y, .int 4]) (rest := []) ⟨hx, hb, hml, hown, hts⟩ (c_X5_checkNumber l D cT z ad _ y 4 4 (by decide) rfl hl0) (va_cwS 2 hts gX5_count_X5_checkNumber rfl rfl rfl (by decide +kernel) ⟨Nat.le_of_ble_eq_true rfl, Nat.le_of_ble_eq_true rfl⟩) (cf_preS hT hS hW) rfl rfl hl.1 rfl (lv_room (Nat.le_of_ble_eq_true rfl)) dX5_count_9 ⟨Nat.le_of_ble_eq_true rfl, Nat.le_of_ble_eq_true rfl⟩) hS (fun _ _ h => h) (fun _ h => h) (fun _ _ h => h) (fun E9 ce q9 u9 t9 H locs ht hvm hu hB hz1 hk1 hS hce hcv hcl => ?_) (fun ur2 t9 H locs ht hvm hw hW hz1 hk1 hS => ?_)
  · obtain ⟨hp, hW⟩ := hB
    have hW := cf_W.er ht hW
    exact cf_pass htab hlocks hce hcv hcl hS hW (Or.inl ⟨hp.1, fun q => hp.2 q.2⟩) ⟨Nat.le_of_ble_eq_true rfl, Nat.le_of_ble_eq_true rfl⟩
  have hW := cf_W.er ht hW
  have hy := hw
  have hA : cf_ix x nc ∧ cf_ix y 4 := ⟨⟨cp, hc, hxc⟩, hy⟩
  refine lv_iload_n hx hb dX5_count_12 rfl (lv_at hl 4 rfl) ?_
  refine lv_bipush (v := (-20)) hx hb dX5_count_13 (by decide) ?_
  refine lv_bipush (v := 20) hx hb dX5_count_15 (by decide) ?_
  refine vx_callv (vx_runS (As := [.int a1, .int (-20), .int 20]) (rest := []) ⟨hx, hb, hml, hown, hts⟩ (c_X5_checkRange l D cT z ad _ a1 (-20) 20 hl0) (va_cwS 3 hts gX5_count_X5_checkRange rfl rfl rfl (by decide +kernel) ⟨Nat.le_of_ble_eq_true rfl, Nat.le_of_ble_eq_true rfl⟩) (cf_preS hT hS hW) rfl rfl hl.1 rfl (lv_room (Nat.le_of_ble_eq_true rfl)) dX5_count_17 ⟨Nat.le_of_ble_eq_true rfl, Nat.le_of_ble_eq_true rfl⟩) hS (fun _ _ h => h) (fun _ h => h) (fun _ _ h => h) (fun E9 ce q9 u9 t9 H locs ht hvm hu hB hz1 hk1 hS hce hcv hcl => ?_) (fun ur3 t9 H locs ht hvm hw hW hz1 hk1 hS => ?_)
  · obtain ⟨hp, hW⟩ := hB
    have hW := cf_W.er ht hW
    exact cf_pass htab hlocks hce hcv hcl hS hW (Or.inr (Or.inl ⟨hp.1, hA, hp.2⟩)) ⟨Nat.le_of_ble_eq_true rfl, Nat.le_of_ble_eq_true rfl⟩
  have hW := cf_W.er ht hW
  have h1 := hw
  obtain ⟨k, hk, hyk⟩ := hy
  refine lv_aload hx hb dX5_count_20 (lv_at hl 0 rfl) ?_
  refine cf_get (v := .ref (ad 7 cp)) (ci := 0) (C := RX0) (T := TX0) (N := 4) hx hb hts (fun _ h => List.mem_cons_of_mem _ (List.mem_append_left _ (List.mem_append_left _ (List.mem_append_left _ (List.mem_append_left _ (List.mem_append_right _ (h))))))) hown hT.1 hW (cf_e0 hc) rfl 2 (by decide) (hts (.fieldLink RX5 106 "GameCafe$Copy" "has" "[I") (List.mem_of_getElem? (i := 3) rfl)) (fun _ h9 => h9) rfl dX5_count_22 ?_
  refine lv_iload_n hx hb dX5_count_25 rfl (lv_at hl 3 rfl) ?_
  refine cf_ildN (t0 := 0) (n := 4) (f := S 7 cp) (v := (S 7 cp k)) hx hb hT.1 hW (cf_e7 hc) rfl k hyk hk (by decide) dX5_count_26 rfl ?_
  refine lv_iload_n hx hb dX5_count_27 rfl (lv_at hl 4 rfl) ?_
  refine lv_iadd hx hb dX5_count_28 ?_
  refine lv_istore (lv' := [(5, .int ((S 7 cp k) + a1)), (4, .ref (ad 0 cp)), (0, .ref (ad 5 0)), (1, .int x), (2, .int y), (3, .int a1)]) hx hb dX5_count_29 hl (by decide) rfl (fun ls hl => ?_)
  refine lv_aload hx hb dX5_count_31 (lv_at hl 1 rfl) ?_
  refine cf_get (v := .int (S 0 cp 0)) (ci := 0) (C := RX0) (T := TX0) (N := 4) hx hb hts (fun _ h => List.mem_cons_of_mem _ (List.mem_append_left _ (List.mem_append_left _ (List.mem_append_left _ (List.mem_append_left _ (List.mem_append_right _ (h))))))) hown hT.1 hW (cf_e0 hc) rfl 3 (by decide) (hts (.fieldLink RX5 109 "GameCafe$Copy" "place" "I") (List.mem_of_getElem? (i := 4) rfl)) (fun _ h9 => h9) rfl dX5_count_33 ?_
  refine lv_iconst (v := 2) hx hb dX5_count_36 (by decide) ?_
  refine lv_icmp_eq (tgt := 52) hx hb dX5_count_37 (by decide) (fun c37_4 => ?_) (fun c37_4 => ?_)
  · exact cf_throw (text := "the parts of the copy cannot change so") hx hb hl0 hown (by decide +kernel) (hts (.classLink RX5 83 "java/lang/IllegalStateException") (List.mem_of_getElem? (i := 1) rfl)) (hts (.initialized "java/lang/IllegalStateException") (List.mem_of_getElem? (i := 2) rfl)) (List.mem_of_getElem? (i := 5) rfl) (List.mem_of_getElem? (i := 2) rfl) (fun w h => hts w (List.mem_cons_of_mem _ (List.mem_append_left _ (List.mem_append_left _ (List.mem_append_right _ (h)))))) cf_ng_ise cf_gd_ise hT hW hS (hl.1.trans hml.symm) dX5_count_52 dX5_count_55 dX5_count_56 dX5_count_58 dX5_count_61 htab (by decide) hlocks (Or.inr (Or.inr ⟨rfl, hA, h1, fun q => (q cp k hxc hc hyk hk).1 c37_4⟩)) (by decide)
  · refine lv_iload hx hb dX5_count_40 (lv_at hl 0 rfl) ?_
    refine lv_if_lt (tgt := 52) hx hb dX5_count_42 (by decide) (fun c42_5 => ?_) (fun c42_5 => ?_)
    · exact cf_throw (text := "the parts of the copy cannot change so") hx hb hl0 hown (by decide +kernel) (hts (.classLink RX5 83 "java/lang/IllegalStateException") (List.mem_of_getElem? (i := 1) rfl)) (hts (.initialized "java/lang/IllegalStateException") (List.mem_of_getElem? (i := 2) rfl)) (List.mem_of_getElem? (i := 5) rfl) (List.mem_of_getElem? (i := 2) rfl) (fun w h => hts w (List.mem_cons_of_mem _ (List.mem_append_left _ (List.mem_append_left _ (List.mem_append_right _ (h)))))) cf_ng_ise cf_gd_ise hT hW hS (hl.1.trans hml.symm) dX5_count_52 dX5_count_55 dX5_count_56 dX5_count_58 dX5_count_61 htab (by decide) hlocks (Or.inr (Or.inr ⟨rfl, hA, h1, fun q => absurd c42_5 (Int32.not_lt.mpr (q cp k hxc hc hyk hk).2.1)⟩)) (by decide)
    · refine lv_iload hx hb dX5_count_45 (lv_at hl 0 rfl) ?_
      refine lv_bipush (v := 40) hx hb dX5_count_47 (by decide) ?_
      refine lv_icmp_le (tgt := 62) hx hb dX5_count_49 (by decide) (fun c49_6 => ?_) (fun c49_6 => ?_)
      · refine lv_aload hx hb dX5_count_62 (lv_at hl 1 rfl) ?_
        refine cf_get (v := .ref (ad 7 cp)) (ci := 0) (C := RX0) (T := TX0) (N := 4) hx hb hts (fun _ h => List.mem_cons_of_mem _ (List.mem_append_left _ (List.mem_append_left _ (List.mem_append_left _ (List.mem_append_left _ (List.mem_append_right _ (h))))))) hown hT.1 hW (cf_e0 hc) rfl 2 (by decide) (hts (.fieldLink RX5 106 "GameCafe$Copy" "has" "[I") (List.mem_of_getElem? (i := 3) rfl)) (fun _ h9 => h9) rfl dX5_count_64 ?_
        refine lv_iload_n hx hb dX5_count_67 rfl (lv_at hl 4 rfl) ?_
        refine lv_iload hx hb dX5_count_68 (lv_at hl 0 rfl) ?_
        refine cf_istN (t0 := 0) (n := 4) (f := S 7 cp) hx hb hT.1 hW hS (cf_e7 hc) rfl k hyk hk (by decide) dX5_count_70 (E2 := (cf_E cT nc ng (cf_s3 S 7 cp k ((S 7 cp k) + a1)) P O ad)) (cf_upS 7 cp (upd (S 7 cp) k ((S 7 cp k) + a1)) (cf_c7 hc)) (fun H locs hW hS => ?_)
        refine lv_iload hx hb dX5_count_71 (lv_at hl 0 rfl) ?_
        refine vx_ret ?_
        refine W.widen (k := 4) (n := 24) (by omega) (by omega) ?_
        exact W.iret (v := ((S 7 cp k) + a1)) hx hb hr (fun t9 ht9 hw9 => ⟨⟨((S 7 cp k) + a1), (cf_s3 S 7 cp k ((S 7 cp k) + a1)), rfl, ⟨cp, k, hc, hxc, hk, hyk, h1, c37_4, ⟨Int32.not_lt.mp c42_5, c49_6⟩, rfl, rfl⟩, cf_W.re ht9 hW⟩, hS.F ht9⟩) hS.2.2 dX5_count_73
      · exact cf_throw (text := "the parts of the copy cannot change so") hx hb hl0 hown (by decide +kernel) (hts (.classLink RX5 83 "java/lang/IllegalStateException") (List.mem_of_getElem? (i := 1) rfl)) (hts (.initialized "java/lang/IllegalStateException") (List.mem_of_getElem? (i := 2) rfl)) (List.mem_of_getElem? (i := 5) rfl) (List.mem_of_getElem? (i := 2) rfl) (fun w h => hts w (List.mem_cons_of_mem _ (List.mem_append_left _ (List.mem_append_left _ (List.mem_append_right _ (h)))))) cf_ng_ise cf_gd_ise hT hW hS (hl.1.trans hml.symm) dX5_count_52 dX5_count_55 dX5_count_56 dX5_count_58 dX5_count_61 htab (by decide) hlocks (Or.inr (Or.inr ⟨rfl, hA, h1, fun q => c49_6 (q cp k hxc hc hyk hk).2.2⟩)) (by decide)
set_option maxHeartbeats 4000000 in
set_option maxRecDepth 100000 in
/-- X5_lend -/
theorem c_X5_lend (l : Launch) (D : va_G) (cT : Nat → ClassId) (z : Nat) (ad : cf_Ad) (nc ng : Nat) (S : cf_S) (P : cf_Pt) (O : Nat → Int64) (hl0 : l.stackTraces = false) (x y : Int32) (hnc : nc ≤ 15) (hO : ∀ j, j < 15 → P 14 0 j = if j < nc then j + 1 else 0) : vx_Met l yX5_lend wsX5_lend ({ frames := 7, cells := 3, slots := 18, locals := 103 }) (va_Pc [.ref (ad 5 0), .int x, .int y] (cf_P D cT z (cf_E cT nc ng S P O ad) ad)) (cf_Qi D z (fun (r : Int32) (T : cf_S × cf_Pt) => ∃ cp b : Nat, cp < nc ∧ x = nI cp ∧ b < 6 ∧ y = nI b ∧ S 0 cp 0 = 0 ∧ P 16 0 b = 0 ∧ r = cf_worth (S 7 cp) ∧ T = (cf_s3 S 0 cp 0 2, cf_p3 P 16 0 b (cp + 1))) (fun T => cf_E cT nc ng T.1 T.2 O ad) (fun _ => ad)) (cf_X D z (cf_E cT nc ng S P O ad) ad (cf_x13 (cf_ix x nc ∧ cf_ix y 6) (∀ cp b : Nat, x = nI cp → cp < nc → y = nI b → b < 6 → S 0 cp 0 = 0 ∧ P 16 0 b = 0))) 3 18 (fun q => z ≤ q) := by
  refine vx_ofW (cc := cX5_lend) (maxL := 4) (ret := (some .int)) (by decide) rfl ?_
  intro p e s m args below meth c s₁ B hml htab hv
  obtain ⟨rfl, hW, hT⟩ := hv
  have hx := B.exec
  have hb := B.bytes
  have hr := B.returns
  have hts := atoms_spec (ws := wsX5_lend) B.pre
  have hown : s.vm.findClass RX5 = some m.cls := findClass_of_methodNamed B.named
  have hlocks := B.notSynchronized
  have hS : va_S (fun q => z ≤ q) s.heap s.heap [] := va_S.rf
  have hl := lv_entry ([.ref (ad 5 0), .int x, .int y]) (n := 4) (Nat.le_of_ble_eq_true rfl)
  rw [lg_entry_eq]
  generalize (lg_sl ([.ref (ad 5 0), .int x, .int y]) ++ List.replicate (4 - (lg_sl ([.ref (ad 5 0), .int x, .int y])).length) Slot.unset).toArray = ls at hl ⊢
  have hl : lv_has ls 4 [(0, .ref (ad 5 0)), (1, .int x), (2, .int y)] := hl
  skip
  refine lv_aload_n hx hb dX5_lend_0 rfl (lv_at hl 0 rfl) ?_
  refine lv_iload_n hx hb dX5_lend_1 rfl (lv_at hl 1 rfl) ?_
  refine vx_callq (vx_runV (As := [.int x]) (rest := []) ⟨hx, hb, hml, hown, hts⟩ (c_X5_copyNumbered l D cT z ad nc ng S P O hl0 x hnc hO) (cwV 1 hts gX5_lend_X5_copyNumbered rfl rfl rfl (by decide +kernel) ⟨Nat.le_of_ble_eq_true rfl, Nat.le_of_ble_eq_true rfl⟩) (cf_preV (T := TX5) (N := 9) hT hS hW cf_e5 rfl) rfl rfl hl.1 rfl (lv_room (Nat.le_of_ble_eq_true rfl)) dX5_lend_2 ⟨Nat.le_of_ble_eq_true rfl, Nat.le_of_ble_eq_true rfl⟩) hS (fun _ _ h => h) (fun _ h => h) (fun _ _ h => h) (fun E9 ce q9 u9 t9 H locs ht hvm hu hB hz1 hk1 hS hce hcv hcl => ?_) (fun r1 ur1 t9 H locs ht hvm hw hW hz1 hk1 hS => ?_)
  · obtain ⟨hp, hW⟩ := hB
    have hW := cf_W.er ht hW
    exact cf_pass htab hlocks hce hcv hcl hS hW (Or.inl ⟨hp.1, fun q => hp.2 q.1⟩) ⟨Nat.le_of_ble_eq_true rfl, Nat.le_of_ble_eq_true rfl⟩
  have hW := cf_W.er ht hW
  obtain ⟨cp, hc, hxc, rfl⟩ := hw
  refine lv_astore_n (lv' := [(3, .ref (ad 0 cp)), (0, .ref (ad 5 0)), (1, .int x), (2, .int y)]) hx hb dX5_lend_5 rfl hl (by decide) rfl (fun ls hl => ?_)
  refine lv_iload_n hx hb dX5_lend_6 rfl (lv_at hl 3 rfl) ?_
  refine lv_bipush (v := 6) hx hb dX5_lend_7 (by decide) ?_
  refine vx_callv (vx_runS (As := [.int y, .int 6]) (rest := []) ⟨hx, hb, hml, hown, hts⟩ (c_X5_checkNumber l D cT z ad _ y 6 6 (by decide) rfl hl0) (va_cwS 2 hts gX5_lend_X5_checkNumber rfl rfl rfl (by decide +kernel) ⟨Nat.le_of_ble_eq_true rfl, Nat.le_of_ble_eq_true rfl⟩) (cf_preS hT hS hW) rfl rfl hl.1 rfl (lv_room (Nat.le_of_ble_eq_true rfl)) dX5_lend_9 ⟨Nat.le_of_ble_eq_true rfl, Nat.le_of_ble_eq_true rfl⟩) hS (fun _ _ h => h) (fun _ h => h) (fun _ _ h => h) (fun E9 ce q9 u9 t9 H locs ht hvm hu hB hz1 hk1 hS hce hcv hcl => ?_) (fun ur2 t9 H locs ht hvm hw hW hz1 hk1 hS => ?_)
  · obtain ⟨hp, hW⟩ := hB
    have hW := cf_W.er ht hW
    exact cf_pass htab hlocks hce hcv hcl hS hW (Or.inl ⟨hp.1, fun q => hp.2 q.2⟩) ⟨Nat.le_of_ble_eq_true rfl, Nat.le_of_ble_eq_true rfl⟩
  have hW := cf_W.er ht hW
  have hy := hw
  have hA : cf_ix x nc ∧ cf_ix y 6 := ⟨⟨cp, hc, hxc⟩, hy⟩
  obtain ⟨k, hk, hyk⟩ := hy
  refine lv_aload_n hx hb dX5_lend_12 rfl (lv_at hl 0 rfl) ?_
  refine cf_get (v := .int (S 0 cp 0)) (ci := 0) (C := RX0) (T := TX0) (N := 4) hx hb hts (fun _ h => List.mem_cons_of_mem _ (List.mem_append_left _ (List.mem_append_left _ (List.mem_append_left _ (List.mem_append_right _ (h)))))) hown hT.1 hW (cf_e0 hc) rfl 3 (by decide) (hts (.fieldLink RX5 109 "GameCafe$Copy" "place" "I") (List.mem_of_getElem? (i := 3) rfl)) (fun _ h9 => h9) rfl dX5_lend_13 ?_
  refine lv_if_ne (tgt := 28) hx hb dX5_lend_16 (by decide) (fun c16_3 => ?_) (fun c16_3 => ?_)
  · exact cf_throw (text := "the copy cannot be lent to the borrower") hx hb hl0 hown (by decide +kernel) (hts (.classLink RX5 83 "java/lang/IllegalStateException") (List.mem_of_getElem? (i := 1) rfl)) (hts (.initialized "java/lang/IllegalStateException") (List.mem_of_getElem? (i := 2) rfl)) (List.mem_of_getElem? (i := 13) rfl) (List.mem_of_getElem? (i := 2) rfl) (fun w h => hts w (List.mem_cons_of_mem _ (List.mem_append_left _ (List.mem_append_right _ (h))))) cf_ng_ise cf_gd_ise hT hW hS (hl.1.trans hml.symm) dX5_lend_28 dX5_lend_31 dX5_lend_32 dX5_lend_34 dX5_lend_37 htab (by decide) hlocks (Or.inr ⟨rfl, hA, fun q => c16_3 (q cp k hxc hc hyk hk).1⟩) (by decide)
  · refine lv_aload_n hx hb dX5_lend_19 rfl (lv_at hl 1 rfl) ?_
    refine cf_get (v := .ref (ad 16 0)) (ci := 5) (C := RX5) (T := TX5) (N := 9) hx hb hts (fun _ h => List.mem_cons_of_mem _ (List.mem_append_left _ (List.mem_append_left _ (List.mem_append_right _ (h))))) hown hT.1 hW cf_e5 rfl 5 (by decide) (hts (.fieldLink RX5 39 "GameCafe" "borrowed" "[LGameCafe$Copy;") (List.mem_of_getElem? (i := 4) rfl)) (fun _ h9 => h9) rfl dX5_lend_20 ?_
    refine lv_iload_n hx hb dX5_lend_23 rfl (lv_at hl 3 rfl) ?_
    rcases Nat.eq_zero_or_pos (P 16 0 k) with h0 | h0
    · refine cf_aldN (t0 := 6) (C := RX0) (n := 6) (v := .null) hx hb hT.1 hW cf_e16 rfl k hyk hk (by decide) dX5_lend_24 (cf_rw0 h0) ?_
      refine lv_ifnullN (tgt := 38) hx hb dX5_lend_25 (by decide) ?_
      refine lv_aload_n hx hb dX5_lend_38 rfl (lv_at hl 0 rfl) ?_
      refine lv_iconst (v := 2) hx hb dX5_lend_39 (by decide) ?_
      refine cf_putE (v := .int 2) (ty := .int) (ci := 0) (C := RX0) (T := TX0) (N := 4) hx hb hts (fun _ h => List.mem_cons_of_mem _ (List.mem_append_left _ (List.mem_append_left _ (List.mem_append_left _ (List.mem_append_right _ (h)))))) tyX0 tyX0_ok nmX0 hown hT.1 hW hS (cf_e0 hc) rfl 3 (by decide) (hts (.fieldLink RX5 109 "GameCafe$Copy" "place" "I") (List.mem_of_getElem? (i := 3) rfl)) (fun _ h9 => h9) rfl (by decide +kernel) rfl rfl (Nat.le_of_ble_eq_true rfl) dX5_lend_40 (E2 := (cf_E cT nc ng (cf_s3 S 0 cp 0 2) P O ad)) (cf_upS 0 cp (upd (S 0 cp) 0 2) (cf_c0 hc)) (fun H locs hW hS => ?_)
      refine lv_aload_n hx hb dX5_lend_43 rfl (lv_at hl 1 rfl) ?_
      refine cf_get (v := .ref (ad 16 0)) (ci := 5) (C := RX5) (T := TX5) (N := 9) hx hb hts (fun _ h => List.mem_cons_of_mem _ (List.mem_append_left _ (List.mem_append_left _ (List.mem_append_right _ (h))))) hown hT.1 hW cf_e5 rfl 5 (by decide) (hts (.fieldLink RX5 39 "GameCafe" "borrowed" "[LGameCafe$Copy;") (List.mem_of_getElem? (i := 4) rfl)) (fun _ h9 => h9) rfl dX5_lend_44 ?_
      refine lv_iload_n hx hb dX5_lend_47 rfl (lv_at hl 3 rfl) ?_
      refine lv_aload_n hx hb dX5_lend_48 rfl (lv_at hl 0 rfl) ?_
      refine cf_astN (t0 := 6) (ci := 0) (r := (RX0, TX0, 4)) (n := 6) hx hb hT.1 hW hS cf_e16 rfl (cf_e0 hc) rfl k hyk hk (by decide) dX5_lend_49 (E2 := (cf_E cT nc ng (cf_s3 S 0 cp 0 2) (cf_p3 P 16 0 k (cp + 1)) O ad)) cf_up16 (fun H locs hW hS => ?_)
      refine lv_aload_n hx hb dX5_lend_50 rfl (lv_at hl 0 rfl) ?_
      refine va_calli (va_runV (As := []) (rest := []) ⟨hx, hb, hml, hown, hts⟩ (c_X0_worth l D cT z ad nc ng (cf_s3 S 0 cp 0 2) (cf_p3 P 16 0 k (cp + 1)) O hc) (cwV 0 hts gX5_lend_X0_worth rfl rfl rfl (by decide +kernel) ⟨Nat.le_of_ble_eq_true rfl, Nat.le_of_ble_eq_true rfl⟩) (cf_preV (T := TX0) (N := 4) hT hS hW (cf_e0 hc) rfl) rfl rfl hl.1 rfl (lv_room (Nat.le_of_ble_eq_true rfl)) dX5_lend_51 ⟨Nat.le_of_ble_eq_true rfl, Nat.le_of_ble_eq_true rfl⟩) hS (fun _ _ h => h) (fun _ h => h) (fun r4 ur4 t9 H locs ht hvm hw hW hz1 hk1 hS => ?_)
      have hW := cf_W.er ht hW
      refine vx_ret ?_
      refine W.widen (k := 3) (n := 18) (by omega) (by omega) ?_
      exact W.iret (v := r4) hx hb hr (fun t9 ht9 hw9 => ⟨⟨r4, ((cf_s3 S 0 cp 0 2), (cf_p3 P 16 0 k (cp + 1))), rfl, ⟨cp, k, hc, hxc, hk, hyk, c16_3, h0, hw, rfl⟩, cf_W.re ht9 hW⟩, hS.F ht9⟩) hS.2.2 dX5_lend_54
    · obtain ⟨n, hn⟩ : ∃ n, P 16 0 k = n + 1 := ⟨P 16 0 k - 1, by omega⟩
      refine cf_aldN (t0 := 6) (C := RX0) (n := 6) (v := .ref (ad 0 n)) hx hb hT.1 hW cf_e16 rfl k hyk hk (by decide) dX5_lend_24 (cf_rwS hn) ?_
      refine lv_ifnull hx hb dX5_lend_25 ?_
      exact cf_throw (text := "the copy cannot be lent to the borrower") hx hb hl0 hown (by decide +kernel) (hts (.classLink RX5 83 "java/lang/IllegalStateException") (List.mem_of_getElem? (i := 1) rfl)) (hts (.initialized "java/lang/IllegalStateException") (List.mem_of_getElem? (i := 2) rfl)) (List.mem_of_getElem? (i := 13) rfl) (List.mem_of_getElem? (i := 2) rfl) (fun w h => hts w (List.mem_cons_of_mem _ (List.mem_append_left _ (List.mem_append_right _ (h))))) cf_ng_ise cf_gd_ise hT hW hS (hl.1.trans hml.symm) dX5_lend_28 dX5_lend_31 dX5_lend_32 dX5_lend_34 dX5_lend_37 htab (by decide) hlocks (Or.inr ⟨rfl, hA, fun q => absurd (q cp k hxc hc hyk hk).2 (by omega)⟩) (by decide)
set_option maxHeartbeats 4000000 in
set_option maxRecDepth 100000 in
/-- X5_giveBack -/
theorem c_X5_giveBack (l : Launch) (D : va_G) (cT : Nat → ClassId) (z : Nat) (ad : cf_Ad) (nc ng : Nat) (S : cf_S) (P : cf_Pt) (O : Nat → Int64) (hl0 : l.stackTraces = false) (x y a1 : Int32) (hB : ∀ j, j < 6 → P 16 0 j ≤ nc) : vx_Met l yX5_giveBack wsX5_giveBack ({ frames := 7, cells := 4, slots := 24, locals := 104 }) (va_Pc [.ref (ad 5 0), .int x, .int y, .int a1] (cf_P D cT z (cf_E cT nc ng S P O ad) ad)) (cf_Qi D z (fun (r : Int32) (T : cf_S × cf_Pt) => ∃ cp b k : Nat, cp < nc ∧ P 16 0 b = cp + 1 ∧ b < 6 ∧ x = nI b ∧ k < 4 ∧ y = nI k ∧ (cf_rg a1 0 20) ∧ a1 ≤ S 7 cp k ∧ r = cf_worth (S 7 cp) - a1 * (100 * (y + 1)) ∧ T = (cf_s3 (cf_s3 S 7 cp k (S 7 cp k - a1)) 0 cp 0 0, cf_p3 P 16 0 b 0)) (fun T => cf_E cT nc ng T.1 T.2 O ad) (fun _ => ad)) (cf_X D z (cf_E cT nc ng S P O ad) ad (cf_x123 (cf_ix x 6 ∧ cf_ix y 4) (cf_rg a1 0 20) (∀ b k : Nat, x = nI b → b < 6 → y = nI k → k < 4 → P 16 0 b ≠ 0 ∧ a1 ≤ S 7 (P 16 0 b - 1) k))) 4 24 (fun q => z ≤ q) := by
  refine vx_ofW (cc := cX5_giveBack) (maxL := 6) (ret := (some .int)) (by decide) rfl ?_
  intro p e s m args below meth c s₁ B hml htab hv
  obtain ⟨rfl, hW, hT⟩ := hv
  have hx := B.exec
  have hb := B.bytes
  have hr := B.returns
  have hts := atoms_spec (ws := wsX5_giveBack) B.pre
  have hown : s.vm.findClass RX5 = some m.cls := findClass_of_methodNamed B.named
  have hlocks := B.notSynchronized
  have hS : va_S (fun q => z ≤ q) s.heap s.heap [] := va_S.rf
  have hl := lv_entry ([.ref (ad 5 0), .int x, .int y, .int a1]) (n := 6) (Nat.le_of_ble_eq_true rfl)
  rw [lg_entry_eq]
  generalize (lg_sl ([.ref (ad 5 0), .int x, .int y, .int a1]) ++ List.replicate (6 - (lg_sl ([.ref (ad 5 0), .int x, .int y, .int a1])).length) Slot.unset).toArray = ls at hl ⊢
  have hl : lv_has ls 6 [(0, .ref (ad 5 0)), (1, .int x), (2, .int y), (3, .int a1)] := hl
  skip
  refine lv_iload_n hx hb dX5_giveBack_0 rfl (lv_at hl 1 rfl) ?_
  refine lv_bipush (v := 6) hx hb dX5_giveBack_1 (by decide) ?_
  refine vx_callv (vx_runS (As := [.int x, .int 6]) (rest := []) ⟨hx, hb, hml, hown, hts⟩ (c_X5_checkNumber l D cT z ad _ x 6 6 (by decide) rfl hl0) (va_cwS 2 hts gX5_giveBack_X5_checkNumber rfl rfl rfl (by decide +kernel) ⟨Nat.le_of_ble_eq_true rfl, Nat.le_of_ble_eq_true rfl⟩) (cf_preS hT hS hW) rfl rfl hl.1 rfl (lv_room (Nat.le_of_ble_eq_true rfl)) dX5_giveBack_3 ⟨Nat.le_of_ble_eq_true rfl, Nat.le_of_ble_eq_true rfl⟩) hS (fun _ _ h => h) (fun _ h => h) (fun _ _ h => h) (fun E9 ce q9 u9 t9 H locs ht hvm hu hB hz1 hk1 hS hce hcv hcl => ?_) (fun ur1 t9 H locs ht hvm hw hW hz1 hk1 hS => ?_)
  · obtain ⟨hp, hW⟩ := hB
    have hW := cf_W.er ht hW
    exact cf_pass htab hlocks hce hcv hcl hS hW (Or.inl ⟨hp.1, fun q => hp.2 q.1⟩) ⟨Nat.le_of_ble_eq_true rfl, Nat.le_of_ble_eq_true rfl⟩
  have hW := cf_W.er ht hW
  have hi := hw
  refine lv_iload_n hx hb dX5_giveBack_6 rfl (lv_at hl 2 rfl) ?_
  refine lv_iconst (v := 4) hx hb dX5_giveBack_7 (by decide) ?_
  refine vx_callv (vx_runS (As := [.int y, .int 4]) (rest := []) ⟨hx, hb, hml, hown, hts⟩ (c_X5_checkNumber l D cT z ad _ y 4 4 (by decide) rfl hl0) (va_cwS 2 hts gX5_giveBack_X5_checkNumber rfl rfl rfl (by decide +kernel) ⟨Nat.le_of_ble_eq_true rfl, Nat.le_of_ble_eq_true rfl⟩) (cf_preS hT hS hW) rfl rfl hl.1 rfl (lv_room (Nat.le_of_ble_eq_true rfl)) dX5_giveBack_8 ⟨Nat.le_of_ble_eq_true rfl, Nat.le_of_ble_eq_true rfl⟩) hS (fun _ _ h => h) (fun _ h => h) (fun _ _ h => h) (fun E9 ce q9 u9 t9 H locs ht hvm hu hB hz1 hk1 hS hce hcv hcl => ?_) (fun ur2 t9 H locs ht hvm hw hW hz1 hk1 hS => ?_)
  · obtain ⟨hp, hW⟩ := hB
    have hW := cf_W.er ht hW
    exact cf_pass htab hlocks hce hcv hcl hS hW (Or.inl ⟨hp.1, fun q => hp.2 q.2⟩) ⟨Nat.le_of_ble_eq_true rfl, Nat.le_of_ble_eq_true rfl⟩
  have hW := cf_W.er ht hW
  have hy := hw
  refine lv_iload_n hx hb dX5_giveBack_11 rfl (lv_at hl 3 rfl) ?_
  refine lv_iconst (v := 0) hx hb dX5_giveBack_12 (by decide) ?_
  refine lv_bipush (v := 20) hx hb dX5_giveBack_13 (by decide) ?_
  have hA : cf_ix x 6 ∧ cf_ix y 4 := ⟨hi, hy⟩
  refine vx_callv (vx_runS (As := [.int a1, .int 0, .int 20]) (rest := []) ⟨hx, hb, hml, hown, hts⟩ (c_X5_checkRange l D cT z ad _ a1 0 20 hl0) (va_cwS 3 hts gX5_giveBack_X5_checkRange rfl rfl rfl (by decide +kernel) ⟨Nat.le_of_ble_eq_true rfl, Nat.le_of_ble_eq_true rfl⟩) (cf_preS hT hS hW) rfl rfl hl.1 rfl (lv_room (Nat.le_of_ble_eq_true rfl)) dX5_giveBack_15 ⟨Nat.le_of_ble_eq_true rfl, Nat.le_of_ble_eq_true rfl⟩) hS (fun _ _ h => h) (fun _ h => h) (fun _ _ h => h) (fun E9 ce q9 u9 t9 H locs ht hvm hu hB hz1 hk1 hS hce hcv hcl => ?_) (fun ur3 t9 H locs ht hvm hw hW hz1 hk1 hS => ?_)
  · obtain ⟨hp, hW⟩ := hB
    have hW := cf_W.er ht hW
    exact cf_pass htab hlocks hce hcv hcl hS hW (Or.inr (Or.inl ⟨hp.1, hA, hp.2⟩)) ⟨Nat.le_of_ble_eq_true rfl, Nat.le_of_ble_eq_true rfl⟩
  have hW := cf_W.er ht hW
  have h1 := hw
  obtain ⟨b0, hb0, hxb⟩ := hi
  obtain ⟨k, hk, hyk⟩ := hy
  refine lv_aload_n hx hb dX5_giveBack_18 rfl (lv_at hl 0 rfl) ?_
  refine cf_get (v := .ref (ad 16 0)) (ci := 5) (C := RX5) (T := TX5) (N := 9) hx hb hts (fun _ h => List.mem_cons_of_mem _ (List.mem_append_left _ (List.mem_append_left _ (List.mem_append_left _ (List.mem_append_left _ (List.mem_append_right _ (h))))))) hown hT.1 hW cf_e5 rfl 5 (by decide) (hts (.fieldLink RX5 39 "GameCafe" "borrowed" "[LGameCafe$Copy;") (List.mem_of_getElem? (i := 3) rfl)) (fun _ h9 => h9) rfl dX5_giveBack_19 ?_
  refine lv_iload_n hx hb dX5_giveBack_22 rfl (lv_at hl 1 rfl) ?_
  rcases Nat.eq_zero_or_pos (P 16 0 b0) with h0 | h0
  · refine cf_aldN (t0 := 6) (C := RX0) (n := 6) (v := .null) hx hb hT.1 hW cf_e16 rfl b0 hxb hb0 (by decide) dX5_giveBack_23 (cf_rw0 h0) ?_
    refine lv_astoreN (lv' := [(4, .null), (0, .ref (ad 5 0)), (1, .int x), (2, .int y), (3, .int a1)]) hx hb dX5_giveBack_24 hl (by decide) rfl (fun ls hl => ?_)
    refine lv_aloadN hx hb dX5_giveBack_26 (lv_at hl 0 rfl) ?_
    refine lv_ifnullN (tgt := 42) hx hb dX5_giveBack_28 (by decide) ?_
    exact cf_throw (text := "there is no such copy to come back") hx hb hl0 hown (by decide +kernel) (hts (.classLink RX5 83 "java/lang/IllegalStateException") (List.mem_of_getElem? (i := 1) rfl)) (hts (.initialized "java/lang/IllegalStateException") (List.mem_of_getElem? (i := 2) rfl)) (List.mem_of_getElem? (i := 14) rfl) (List.mem_of_getElem? (i := 2) rfl) (fun w h => hts w (List.mem_cons_of_mem _ (List.mem_append_left _ (List.mem_append_left _ (List.mem_append_right _ (h)))))) cf_ng_ise cf_gd_ise hT hW hS (hl.1.trans hml.symm) dX5_giveBack_42 dX5_giveBack_45 dX5_giveBack_46 dX5_giveBack_48 dX5_giveBack_51 htab (by decide) hlocks (Or.inr (Or.inr ⟨rfl, hA, h1, fun q => (q b0 k hxb hb0 hyk hk).1 h0⟩)) (by decide)
  · obtain ⟨cp, hcp⟩ : ∃ n, P 16 0 b0 = n + 1 := ⟨P 16 0 b0 - 1, by omega⟩
    have hc : cp < nc := by have := hB b0 hb0; omega
    refine cf_aldN (t0 := 6) (C := RX0) (n := 6) (v := .ref (ad 0 cp)) hx hb hT.1 hW cf_e16 rfl b0 hxb hb0 (by decide) dX5_giveBack_23 (cf_rwS hcp) ?_
    refine lv_astore (lv' := [(4, .ref (ad 0 cp)), (0, .ref (ad 5 0)), (1, .int x), (2, .int y), (3, .int a1)]) hx hb dX5_giveBack_24 hl (by decide) rfl (fun ls hl => ?_)
    refine lv_aload hx hb dX5_giveBack_26 (lv_at hl 0 rfl) ?_
    refine lv_ifnull hx hb dX5_giveBack_28 ?_
    refine lv_aload hx hb dX5_giveBack_31 (lv_at hl 0 rfl) ?_
    refine cf_get (v := .ref (ad 7 cp)) (ci := 0) (C := RX0) (T := TX0) (N := 4) hx hb hts (fun _ h => List.mem_cons_of_mem _ (List.mem_append_left _ (List.mem_append_left _ (List.mem_append_left _ (List.mem_append_right _ (h)))))) hown hT.1 hW (cf_e0 hc) rfl 2 (by decide) (hts (.fieldLink RX5 106 "GameCafe$Copy" "has" "[I") (List.mem_of_getElem? (i := 4) rfl)) (fun _ h9 => h9) rfl dX5_giveBack_33 ?_
    refine lv_iload_n hx hb dX5_giveBack_36 rfl (lv_at hl 3 rfl) ?_
    refine cf_ildN (t0 := 0) (n := 4) (f := S 7 cp) (v := (S 7 cp k)) hx hb hT.1 hW (cf_e7 hc) rfl k hyk hk (by decide) dX5_giveBack_37 rfl ?_
    refine lv_iload_n hx hb dX5_giveBack_38 rfl (lv_at hl 4 rfl) ?_
    refine lv_icmp_ge (tgt := 52) hx hb dX5_giveBack_39 (by decide) (fun c39_4 => ?_) (fun c39_4 => ?_)
    · refine lv_aload hx hb dX5_giveBack_52 (lv_at hl 0 rfl) ?_
      refine va_calli (va_runV (As := []) (rest := []) ⟨hx, hb, hml, hown, hts⟩ (c_X0_worth l D cT z ad nc ng S P O hc) (cwV 0 hts gX5_giveBack_X0_worth rfl rfl rfl (by decide +kernel) ⟨Nat.le_of_ble_eq_true rfl, Nat.le_of_ble_eq_true rfl⟩) (cf_preV (T := TX0) (N := 4) hT hS hW (cf_e0 hc) rfl) rfl rfl hl.1 rfl (lv_room (Nat.le_of_ble_eq_true rfl)) dX5_giveBack_54 ⟨Nat.le_of_ble_eq_true rfl, Nat.le_of_ble_eq_true rfl⟩) hS (fun _ _ h => h) (fun _ h => h) (fun r5 ur5 t9 H locs ht hvm hw hW hz1 hk1 hS => ?_)
      have hW := cf_W.er ht hW
      have hw1 := hw
      refine lv_istore (lv' := [(5, .int r5), (4, .ref (ad 0 cp)), (0, .ref (ad 5 0)), (1, .int x), (2, .int y), (3, .int a1)]) hx hb dX5_giveBack_57 hl (by decide) rfl (fun ls hl => ?_)
      refine lv_aload hx hb dX5_giveBack_59 (lv_at hl 1 rfl) ?_
      refine cf_get (v := .ref (ad 7 cp)) (ci := 0) (C := RX0) (T := TX0) (N := 4) hx hb hts (fun _ h => List.mem_cons_of_mem _ (List.mem_append_left _ (List.mem_append_left _ (List.mem_append_left _ (List.mem_append_right _ (h)))))) hown hT.1 hW (cf_e0 hc) rfl 2 (by decide) (hts (.fieldLink RX5 106 "GameCafe$Copy" "has" "[I") (List.mem_of_getElem? (i := 4) rfl)) (fun _ h9 => h9) rfl dX5_giveBack_61 ?_
      refine lv_iload_n hx hb dX5_giveBack_64 rfl (lv_at hl 4 rfl) ?_
      refine lv_dup2_11 hx hb dX5_giveBack_65 rfl rfl ?_
      refine cf_ildN (t0 := 0) (n := 4) (f := S 7 cp) (v := (S 7 cp k)) hx hb hT.1 hW (cf_e7 hc) rfl k hyk hk (by decide) dX5_giveBack_66 rfl ?_
      refine lv_iload_n hx hb dX5_giveBack_67 rfl (lv_at hl 5 rfl) ?_
      refine lv_isub hx hb dX5_giveBack_68 ?_
      refine cf_istN (t0 := 0) (n := 4) (f := S 7 cp) hx hb hT.1 hW hS (cf_e7 hc) rfl k hyk hk (by decide) dX5_giveBack_69 (E2 := (cf_E cT nc ng (cf_s3 S 7 cp k ((S 7 cp k) - a1)) P O ad)) (cf_upS 7 cp (upd (S 7 cp) k ((S 7 cp k) - a1)) (cf_c7 hc)) (fun H locs hW hS => ?_)
      refine lv_aload hx hb dX5_giveBack_70 (lv_at hl 1 rfl) ?_
      refine lv_iconst (v := 0) hx hb dX5_giveBack_72 (by decide) ?_
      refine cf_putE (v := .int 0) (ty := .int) (ci := 0) (C := RX0) (T := TX0) (N := 4) hx hb hts (fun _ h => List.mem_cons_of_mem _ (List.mem_append_left _ (List.mem_append_left _ (List.mem_append_left _ (List.mem_append_right _ (h)))))) tyX0 tyX0_ok nmX0 hown hT.1 hW hS (cf_e0 hc) rfl 3 (by decide) (hts (.fieldLink RX5 109 "GameCafe$Copy" "place" "I") (List.mem_of_getElem? (i := 5) rfl)) (fun _ h9 => h9) rfl (by decide +kernel) rfl rfl (Nat.le_of_ble_eq_true rfl) dX5_giveBack_73 (E2 := (cf_E cT nc ng (cf_s3 (cf_s3 S 7 cp k ((S 7 cp k) - a1)) 0 cp 0 0) P O ad)) (cf_upS 0 cp (upd ((cf_s3 S 7 cp k ((S 7 cp k) - a1)) 0 cp) 0 0) (cf_c0 hc)) (fun H locs hW hS => ?_)
      refine lv_aload_n hx hb dX5_giveBack_76 rfl (lv_at hl 2 rfl) ?_
      refine cf_get (v := .ref (ad 16 0)) (ci := 5) (C := RX5) (T := TX5) (N := 9) hx hb hts (fun _ h => List.mem_cons_of_mem _ (List.mem_append_left _ (List.mem_append_left _ (List.mem_append_left _ (List.mem_append_left _ (List.mem_append_right _ (h))))))) hown hT.1 hW cf_e5 rfl 5 (by decide) (hts (.fieldLink RX5 39 "GameCafe" "borrowed" "[LGameCafe$Copy;") (List.mem_of_getElem? (i := 3) rfl)) (fun _ h9 => h9) rfl dX5_giveBack_77 ?_
      refine lv_iload_n hx hb dX5_giveBack_80 rfl (lv_at hl 3 rfl) ?_
      refine lv_null hx hb dX5_giveBack_81 ?_
      refine cf_astNN (t0 := 6) (C := RX0) (n := 6) hx hb hT.1 hW hS cf_e16 rfl b0 hxb hb0 (by decide) dX5_giveBack_82 (E2 := (cf_E cT nc ng (cf_s3 (cf_s3 S 7 cp k ((S 7 cp k) - a1)) 0 cp 0 0) (cf_p3 P 16 0 b0 0) O ad)) cf_up16N (fun H locs hW hS => ?_)
      refine lv_iload hx hb dX5_giveBack_83 (lv_at hl 0 rfl) ?_
      refine lv_iload_n hx hb dX5_giveBack_85 rfl (lv_at hl 5 rfl) ?_
      refine lv_iload_n hx hb dX5_giveBack_86 rfl (lv_at hl 4 rfl) ?_
      refine va_calli (va_runS (As := [.int y]) (rest := [.int a1, .int r5]) ⟨hx, hb, hml, hown, hts⟩ (c_X5_worthOfPart l D cT z ad _ y) (va_cwS 1 hts gX5_giveBack_X5_worthOfPart rfl rfl rfl (by decide +kernel) ⟨Nat.le_of_ble_eq_true rfl, Nat.le_of_ble_eq_true rfl⟩) (cf_preS hT hS hW) rfl rfl hl.1 rfl (lv_room (Nat.le_of_ble_eq_true rfl)) dX5_giveBack_87 ⟨Nat.le_of_ble_eq_true rfl, Nat.le_of_ble_eq_true rfl⟩) hS (fun _ _ h => h) (fun _ h => h) (fun r6 ur6 t9 H locs ht hvm hw hW hz1 hk1 hS => ?_)
      have hW := cf_W.er ht hW
      refine lv_imul hx hb dX5_giveBack_90 ?_
      refine lv_isub hx hb dX5_giveBack_91 ?_
      refine vx_ret ?_
      refine W.widen (k := 4) (n := 24) (by omega) (by omega) ?_
      exact W.iret (v := (r5 - (a1 * r6))) hx hb hr (fun t9 ht9 hw9 => ⟨⟨(r5 - (a1 * r6)), ((cf_s3 (cf_s3 S 7 cp k ((S 7 cp k) - a1)) 0 cp 0 0), (cf_p3 P 16 0 b0 0)), rfl, ⟨cp, b0, k, hc, hcp, hb0, hxb, hk, hyk, h1, c39_4, by rw [hw1, hw], rfl⟩, cf_W.re ht9 hW⟩, hS.F ht9⟩) hS.2.2 dX5_giveBack_92
    · exact cf_throw (text := "there is no such copy to come back") hx hb hl0 hown (by decide +kernel) (hts (.classLink RX5 83 "java/lang/IllegalStateException") (List.mem_of_getElem? (i := 1) rfl)) (hts (.initialized "java/lang/IllegalStateException") (List.mem_of_getElem? (i := 2) rfl)) (List.mem_of_getElem? (i := 14) rfl) (List.mem_of_getElem? (i := 2) rfl) (fun w h => hts w (List.mem_cons_of_mem _ (List.mem_append_left _ (List.mem_append_left _ (List.mem_append_right _ (h)))))) cf_ng_ise cf_gd_ise hT hW hS (hl.1.trans hml.symm) dX5_giveBack_42 dX5_giveBack_45 dX5_giveBack_46 dX5_giveBack_48 dX5_giveBack_51 htab (by decide) hlocks (Or.inr (Or.inr ⟨rfl, hA, h1, fun q => c39_4 (by have q2 := (q b0 k hxb hb0 hyk hk).2; rw [hcp] at q2; exact q2)⟩)) (by decide)
set_option maxHeartbeats 4000000 in
set_option maxRecDepth 100000 in
/-- X5_go -/
theorem c_X5_go (l : Launch) (D : va_G) (cT : Nat → ClassId) (z : Nat) (ad : cf_Ad) (nc ng : Nat) (S : cf_S) (P : cf_Pt) (O : Nat → Int64) (hl0 : l.stackTraces = false) (x : Int32) (hG : ∀ j, j < nc → P 0 j 0 < 5) (hQ : ∀ j, j < 60 → P 15 0 j = 0 ∨ (P 15 0 j = j + 1 ∧ j < ng)) (hL : ∀ j, j < ng → P 2 j 0 < nc ∧ P 2 j 1 < 6) : vx_Met l yX5_go wsX5_go ({ frames := 7, cells := 1, slots := 6, locals := 103 }) (va_Pc [.ref (ad 5 0), .int x] (cf_P D cT z (cf_E cT nc ng S P O ad) ad)) (cf_Qi D z (fun (r : Int32) (T : cf_S × cf_Pt) => ∃ gp : Nat, gp < 60 ∧ x = nI gp ∧ P 15 0 gp = gp + 1 ∧ gp < ng ∧ r = S 5 0 2 - S 2 gp 0 ∧ T = (cf_s3 (cf_s3 (cf_s3 S 3 (P 2 gp 1) 1 (-1)) 0 (P 2 gp 0) 0 0) 1 (P 0 (P 2 gp 0) 0) 3 (S 1 (P 0 (P 2 gp 0) 0) 3 + 1), cf_p3 P 15 0 gp 0)) (fun T => cf_E cT nc ng T.1 T.2 O ad) (fun _ => ad)) (cf_X D z (cf_E cT nc ng S P O ad) ad (cf_x1 (cf_lv P x))) 1 6 (fun q => z ≤ q) := by
  refine vx_ofW (cc := cX5_go) (maxL := 3) (ret := (some .int)) (by decide) rfl ?_
  intro p e s m args below meth c s₁ B hml htab hv
  obtain ⟨rfl, hW, hT⟩ := hv
  have hx := B.exec
  have hb := B.bytes
  have hr := B.returns
  have hts := atoms_spec (ws := wsX5_go) B.pre
  have hown : s.vm.findClass RX5 = some m.cls := findClass_of_methodNamed B.named
  have hlocks := B.notSynchronized
  have hS : va_S (fun q => z ≤ q) s.heap s.heap [] := va_S.rf
  have hl := lv_entry ([.ref (ad 5 0), .int x]) (n := 3) (Nat.le_of_ble_eq_true rfl)
  rw [lg_entry_eq]
  generalize (lg_sl ([.ref (ad 5 0), .int x]) ++ List.replicate (3 - (lg_sl ([.ref (ad 5 0), .int x])).length) Slot.unset).toArray = ls at hl ⊢
  have hl : lv_has ls 3 [(0, .ref (ad 5 0)), (1, .int x)] := hl
  skip
  refine lv_aload_n hx hb dX5_go_0 rfl (lv_at hl 0 rfl) ?_
  refine lv_iload_n hx hb dX5_go_1 rfl (lv_at hl 1 rfl) ?_
  refine vx_callq (vx_runV (As := [.int x]) (rest := []) ⟨hx, hb, hml, hown, hts⟩ (c_X5_groupNumbered l D cT z ad nc ng S P O hl0 x hQ) (cwV 1 hts gX5_go_X5_groupNumbered rfl rfl rfl (by decide +kernel) ⟨Nat.le_of_ble_eq_true rfl, Nat.le_of_ble_eq_true rfl⟩) (cf_preV (T := TX5) (N := 9) hT hS hW cf_e5 rfl) rfl rfl hl.1 rfl (lv_room (Nat.le_of_ble_eq_true rfl)) dX5_go_2 ⟨Nat.le_of_ble_eq_true rfl, Nat.le_of_ble_eq_true rfl⟩) hS (fun _ _ h => h) (fun _ h => h) (fun _ _ h => h) (fun E9 ce q9 u9 t9 H locs ht hvm hu hB hz1 hk1 hS hce hcv hcl => ?_) (fun r1 ur1 t9 H locs ht hvm hw hW hz1 hk1 hS => ?_)
  · obtain ⟨hp, hW⟩ := hB
    have hW := cf_W.er ht hW
    exact cf_pass htab hlocks hce hcv hcl hS hW (hp) ⟨Nat.le_of_ble_eq_true rfl, Nat.le_of_ble_eq_true rfl⟩
  have hW := cf_W.er ht hW
  obtain ⟨gp, hg60, hxg, hgP, hgn, rfl⟩ := hw
  have hl0g := hL gp hgn
  have hgm : P 0 (P 2 gp 0) 0 < 5 := hG _ hl0g.1
  refine lv_astore_n (lv' := [(2, .ref (ad 2 gp)), (0, .ref (ad 5 0)), (1, .int x)]) hx hb dX5_go_5 rfl hl (by decide) rfl (fun ls hl => ?_)
  refine lv_aload_n hx hb dX5_go_6 rfl (lv_at hl 0 rfl) ?_
  refine cf_get (v := .ref (ad 3 (P 2 gp 1))) (ci := 2) (C := RX2) (T := TX2) (N := 4) hx hb hts (fun _ h => List.mem_cons_of_mem _ (List.mem_append_left _ (List.mem_append_left _ (List.mem_append_left _ (List.mem_append_left _ (List.mem_append_left _ (List.mem_append_right _ (h)))))))) hown hT.1 hW (cf_e2 hgn) rfl 3 (by decide) (hts (.fieldLink RX5 166 "GameCafe$Group" "table" "LGameCafe$Table;") (List.mem_of_getElem? (i := 1) rfl)) (fun _ h9 => h9) rfl dX5_go_7 ?_
  refine lv_iconst (v := (-1)) hx hb dX5_go_10 (by decide) ?_
  refine cf_putE (v := .int (-1)) (ty := .int) (ci := 3) (C := RX3) (T := TX3) (N := 3) hx hb hts (fun _ h => List.mem_cons_of_mem _ (List.mem_append_left _ (List.mem_append_left _ (List.mem_append_left _ (List.mem_append_left _ (List.mem_append_right _ (h))))))) tyX3 tyX3_ok nmX3 hown hT.1 hW hS (cf_e3 hl0g.2) rfl 2 (by decide) (hts (.fieldLink RX5 80 "GameCafe$Table" "group" "I") (List.mem_of_getElem? (i := 2) rfl)) (fun _ h9 => h9) rfl (by decide +kernel) rfl rfl (Nat.le_of_ble_eq_true rfl) dX5_go_11 (E2 := (cf_E cT nc ng (cf_s3 S 3 (P 2 gp 1) 1 (-1)) P O ad)) (cf_upS 3 (P 2 gp 1) (upd (S 3 (P 2 gp 1)) 1 (-1)) (cf_c3 hl0g.2)) (fun H locs hW hS => ?_)
  refine lv_aload_n hx hb dX5_go_14 rfl (lv_at hl 0 rfl) ?_
  refine cf_get (v := .ref (ad 0 (P 2 gp 0))) (ci := 2) (C := RX2) (T := TX2) (N := 4) hx hb hts (fun _ h => List.mem_cons_of_mem _ (List.mem_append_left _ (List.mem_append_left _ (List.mem_append_left _ (List.mem_append_left _ (List.mem_append_left _ (List.mem_append_right _ (h)))))))) hown hT.1 hW (cf_e2 hgn) rfl 0 (by decide) (hts (.fieldLink RX5 162 "GameCafe$Group" "copy" "LGameCafe$Copy;") (List.mem_of_getElem? (i := 3) rfl)) (fun _ h9 => h9) rfl dX5_go_15 ?_
  refine lv_iconst (v := 0) hx hb dX5_go_18 (by decide) ?_
  refine cf_putE (v := .int 0) (ty := .int) (ci := 0) (C := RX0) (T := TX0) (N := 4) hx hb hts (fun _ h => List.mem_cons_of_mem _ (List.mem_append_left _ (List.mem_append_left _ (List.mem_append_left _ (List.mem_append_right _ (h)))))) tyX0 tyX0_ok nmX0 hown hT.1 hW hS (cf_e0 hl0g.1) rfl 3 (by decide) (hts (.fieldLink RX5 109 "GameCafe$Copy" "place" "I") (List.mem_of_getElem? (i := 4) rfl)) (fun _ h9 => h9) rfl (by decide +kernel) rfl rfl (Nat.le_of_ble_eq_true rfl) dX5_go_19 (E2 := (cf_E cT nc ng (cf_s3 (cf_s3 S 3 (P 2 gp 1) 1 (-1)) 0 (P 2 gp 0) 0 0) P O ad)) (cf_upS 0 (P 2 gp 0) (upd ((cf_s3 S 3 (P 2 gp 1) 1 (-1)) 0 (P 2 gp 0)) 0 0) (cf_c0 hl0g.1)) (fun H locs hW hS => ?_)
  refine lv_aload_n hx hb dX5_go_22 rfl (lv_at hl 0 rfl) ?_
  refine cf_get (v := .ref (ad 0 (P 2 gp 0))) (ci := 2) (C := RX2) (T := TX2) (N := 4) hx hb hts (fun _ h => List.mem_cons_of_mem _ (List.mem_append_left _ (List.mem_append_left _ (List.mem_append_left _ (List.mem_append_left _ (List.mem_append_left _ (List.mem_append_right _ (h)))))))) hown hT.1 hW (cf_e2 hgn) rfl 0 (by decide) (hts (.fieldLink RX5 162 "GameCafe$Group" "copy" "LGameCafe$Copy;") (List.mem_of_getElem? (i := 3) rfl)) (fun _ h9 => h9) rfl dX5_go_23 ?_
  refine cf_get (v := .ref (ad 1 (P 0 (P 2 gp 0) 0))) (ci := 0) (C := RX0) (T := TX0) (N := 4) hx hb hts (fun _ h => List.mem_cons_of_mem _ (List.mem_append_left _ (List.mem_append_left _ (List.mem_append_left _ (List.mem_append_right _ (h)))))) hown hT.1 hW (cf_e0 hl0g.1) rfl 1 (by decide) (hts (.fieldLink RX5 114 "GameCafe$Copy" "game" "LGameCafe$Game;") (List.mem_of_getElem? (i := 5) rfl)) (fun _ h9 => h9) rfl dX5_go_26 ?_
  refine lv_dup hx hb dX5_go_29 rfl ?_
  refine cf_get (v := .int (S 1 (P 0 (P 2 gp 0) 0) 3)) (ci := 1) (C := RX1) (T := TX1) (N := 6) hx hb hts (fun _ h => List.mem_cons_of_mem _ (List.mem_append_left _ (List.mem_append_left _ (List.mem_append_right _ (h))))) hown hT.1 hW (cf_e1 hgm) rfl 3 (by decide) (hts (.fieldLink RX5 175 "GameCafe$Game" "timesPlayed" "I") (List.mem_of_getElem? (i := 6) rfl)) (fun _ h9 => h9) (congrArg (fun x => some (Value.int x)) (by simp [cf_s3, cf_g2, upd] : (cf_s3 (cf_s3 S 3 (P 2 gp 1) 1 (-1)) 0 (P 2 gp 0) 0 0) 1 (P 0 (P 2 gp 0) 0) 3 = S 1 (P 0 (P 2 gp 0) 0) 3)) dX5_go_30 ?_
  refine lv_iconst (v := 1) hx hb dX5_go_33 (by decide) ?_
  refine lv_iadd hx hb dX5_go_34 ?_
  refine cf_putE (v := .int ((S 1 (P 0 (P 2 gp 0) 0) 3) + 1)) (ty := .int) (ci := 1) (C := RX1) (T := TX1) (N := 6) hx hb hts (fun _ h => List.mem_cons_of_mem _ (List.mem_append_left _ (List.mem_append_left _ (List.mem_append_right _ (h))))) tyX1 tyX1_ok nmX1 hown hT.1 hW hS (cf_e1 hgm) rfl 3 (by decide) (hts (.fieldLink RX5 175 "GameCafe$Game" "timesPlayed" "I") (List.mem_of_getElem? (i := 6) rfl)) (fun _ h9 => h9) rfl (by decide +kernel) rfl rfl (Nat.le_of_ble_eq_true rfl) dX5_go_35 (E2 := (cf_E cT nc ng (cf_s3 (cf_s3 (cf_s3 S 3 (P 2 gp 1) 1 (-1)) 0 (P 2 gp 0) 0 0) 1 (P 0 (P 2 gp 0) 0) 3 ((S 1 (P 0 (P 2 gp 0) 0) 3) + 1)) P O ad)) (cf_upS 1 (P 0 (P 2 gp 0) 0) (upd ((cf_s3 (cf_s3 S 3 (P 2 gp 1) 1 (-1)) 0 (P 2 gp 0) 0 0) 1 (P 0 (P 2 gp 0) 0)) 3 ((S 1 (P 0 (P 2 gp 0) 0) 3) + 1)) (cf_c1 hgm)) (fun H locs hW hS => ?_)
  refine lv_aload_n hx hb dX5_go_38 rfl (lv_at hl 1 rfl) ?_
  refine cf_get (v := .ref (ad 15 0)) (ci := 5) (C := RX5) (T := TX5) (N := 9) hx hb hts (fun _ h => List.mem_cons_of_mem _ (List.mem_append_left _ (List.mem_append_right _ (h)))) hown hT.1 hW cf_e5 rfl 4 (by decide) (hts (.fieldLink RX5 35 "GameCafe" "groups" "[LGameCafe$Group;") (List.mem_of_getElem? (i := 7) rfl)) (fun _ h9 => h9) rfl dX5_go_39 ?_
  refine lv_iload_n hx hb dX5_go_42 rfl (lv_at hl 2 rfl) ?_
  refine lv_null hx hb dX5_go_43 ?_
  refine cf_astNN (t0 := 7) (C := RX2) (n := 60) hx hb hT.1 hW hS cf_e15 rfl gp hxg hg60 (by decide) dX5_go_44 (E2 := (cf_E cT nc ng (cf_s3 (cf_s3 (cf_s3 S 3 (P 2 gp 1) 1 (-1)) 0 (P 2 gp 0) 0 0) 1 (P 0 (P 2 gp 0) 0) 3 ((S 1 (P 0 (P 2 gp 0) 0) 3) + 1)) (cf_p3 P 15 0 gp 0) O ad)) cf_up15N (fun H locs hW hS => ?_)
  refine lv_aload_n hx hb dX5_go_45 rfl (lv_at hl 1 rfl) ?_
  refine cf_get (v := .int (S 5 0 2)) (ci := 5) (C := RX5) (T := TX5) (N := 9) hx hb hts (fun _ h => List.mem_cons_of_mem _ (List.mem_append_left _ (List.mem_append_right _ (h)))) hown hT.1 hW cf_e5 rfl 8 (by decide) (hts (.fieldLink RX5 49 "GameCafe" "now" "I") (List.mem_of_getElem? (i := 8) rfl)) (fun _ h9 => h9) (congrArg (fun x => some (Value.int x)) (by simp [cf_s3, cf_g2, upd] : (cf_s3 (cf_s3 (cf_s3 S 3 (P 2 gp 1) 1 (-1)) 0 (P 2 gp 0) 0 0) 1 (P 0 (P 2 gp 0) 0) 3 ((S 1 (P 0 (P 2 gp 0) 0) 3) + 1)) 5 0 2 = S 5 0 2)) dX5_go_46 ?_
  refine lv_aload_n hx hb dX5_go_49 rfl (lv_at hl 0 rfl) ?_
  refine cf_get (v := .int (S 2 gp 0)) (ci := 2) (C := RX2) (T := TX2) (N := 4) hx hb hts (fun _ h => List.mem_cons_of_mem _ (List.mem_append_left _ (List.mem_append_left _ (List.mem_append_left _ (List.mem_append_left _ (List.mem_append_left _ (List.mem_append_right _ (h)))))))) hown hT.1 hW (cf_e2 hgn) rfl 1 (by decide) (hts (.fieldLink RX5 178 "GameCafe$Group" "since" "I") (List.mem_of_getElem? (i := 9) rfl)) (fun _ h9 => h9) (congrArg (fun x => some (Value.int x)) (by simp [cf_s3, cf_g2, upd] : (cf_s3 (cf_s3 (cf_s3 S 3 (P 2 gp 1) 1 (-1)) 0 (P 2 gp 0) 0 0) 1 (P 0 (P 2 gp 0) 0) 3 ((S 1 (P 0 (P 2 gp 0) 0) 3) + 1)) 2 gp 0 = S 2 gp 0)) dX5_go_50 ?_
  refine lv_isub hx hb dX5_go_53 ?_
  refine vx_ret ?_
  refine W.widen (k := 1) (n := 6) (by omega) (by omega) ?_
  exact W.iret (v := ((S 5 0 2) - (S 2 gp 0))) hx hb hr (fun t9 ht9 hw9 => ⟨⟨((S 5 0 2) - (S 2 gp 0)), ((cf_s3 (cf_s3 (cf_s3 S 3 (P 2 gp 1) 1 (-1)) 0 (P 2 gp 0) 0 0) 1 (P 0 (P 2 gp 0) 0) 3 ((S 1 (P 0 (P 2 gp 0) 0) 3) + 1)), (cf_p3 P 15 0 gp 0)), rfl, ⟨gp, hg60, hxg, hgP, hgn, rfl, rfl⟩, cf_W.re ht9 hW⟩, hS.F ht9⟩) hS.2.2 dX5_go_54
set_option maxHeartbeats 4000000 in
set_option maxRecDepth 100000 in
/-- X5_grow -/
theorem c_X5_grow (l : Launch) (D : va_G) (cT : Nat → ClassId) (z : Nat) (ad : cf_Ad) (nc ng : Nat) (S : cf_S) (P : cf_Pt) (O : Nat → Int64) (hl0 : l.stackTraces = false) (x a1 : Int32) (hG : ∀ j, j < nc → P 0 j 0 < 5) (hQ : ∀ j, j < 60 → P 15 0 j = 0 ∨ (P 15 0 j = j + 1 ∧ j < ng)) (hL : ∀ j, j < ng → P 2 j 0 < nc ∧ P 2 j 1 < 6) : vx_Met l yX5_grow wsX5_grow ({ frames := 7, cells := 4, slots := 24, locals := 104 }) (va_Pc [.ref (ad 5 0), .int x, .int a1] (cf_P D cT z (cf_E cT nc ng S P O ad) ad)) (cf_Qi D z (fun (r : Int32) (T : cf_S × cf_Pt) => ∃ gp t : Nat, gp < 60 ∧ x = nI gp ∧ P 15 0 gp = gp + 1 ∧ gp < ng ∧ (cf_rg a1 1 7) ∧ S 2 gp 1 + a1 ≤ S 1 (P 0 (P 2 gp 0) 0) 1 ∧ ((S 2 gp 1 + a1 ≤ S 3 (P 2 gp 1) 0 ∧ t = P 2 gp 1) ∨ (S 3 (P 2 gp 1) 0 < S 2 gp 1 + a1 ∧ cf_best (cf_okT S (S 2 gp 1 + a1)) (cf_ltT S) 6 = some t)) ∧ r = nI t ∧ T = (cf_s3 (cf_s3 (cf_s3 S 3 (P 2 gp 1) 1 (-1)) 3 t 1 x) 2 gp 1 (S 2 gp 1 + a1), cf_p3 P 2 gp 1 t)) (fun T => cf_E cT nc ng T.1 T.2 O ad) (fun _ => ad)) (cf_X D z (cf_E cT nc ng S P O ad) ad (cf_x123 (cf_lv P x) (cf_rg a1 1 7) (∀ gp : Nat, x = nI gp → gp < 60 → P 15 0 gp = gp + 1 → gp < ng → S 2 gp 1 + a1 ≤ S 1 (P 0 (P 2 gp 0) 0) 1 ∧ (S 2 gp 1 + a1 ≤ S 3 (P 2 gp 1) 0 ∨ ∃ t, cf_best (cf_okT S (S 2 gp 1 + a1)) (cf_ltT S) 6 = some t)))) 4 24 (fun q => z ≤ q) := by
  refine vx_ofW (cc := cX5_grow) (maxL := 6) (ret := (some .int)) (by decide) rfl ?_
  intro p e s m args below meth c s₁ B hml htab hv
  obtain ⟨rfl, hW, hT⟩ := hv
  have hx := B.exec
  have hb := B.bytes
  have hr := B.returns
  have hts := atoms_spec (ws := wsX5_grow) B.pre
  have hown : s.vm.findClass RX5 = some m.cls := findClass_of_methodNamed B.named
  have hlocks := B.notSynchronized
  have hS : va_S (fun q => z ≤ q) s.heap s.heap [] := va_S.rf
  have hl := lv_entry ([.ref (ad 5 0), .int x, .int a1]) (n := 6) (Nat.le_of_ble_eq_true rfl)
  rw [lg_entry_eq]
  generalize (lg_sl ([.ref (ad 5 0), .int x, .int a1]) ++ List.replicate (6 - (lg_sl ([.ref (ad 5 0), .int x, .int a1])).length) Slot.unset).toArray = ls at hl ⊢
  have hl : lv_has ls 6 [(0, .ref (ad 5 0)), (1, .int x), (2, .int a1)] := hl
  skip
  refine lv_aload_n hx hb dX5_grow_0 rfl (lv_at hl 0 rfl) ?_
  refine lv_iload_n hx hb dX5_grow_1 rfl (lv_at hl 1 rfl) ?_
  refine vx_callq (vx_runV (As := [.int x]) (rest := []) ⟨hx, hb, hml, hown, hts⟩ (c_X5_groupNumbered l D cT z ad nc ng S P O hl0 x hQ) (cwV 1 hts gX5_grow_X5_groupNumbered rfl rfl rfl (by decide +kernel) ⟨Nat.le_of_ble_eq_true rfl, Nat.le_of_ble_eq_true rfl⟩) (cf_preV (T := TX5) (N := 9) hT hS hW cf_e5 rfl) rfl rfl hl.1 rfl (lv_room (Nat.le_of_ble_eq_true rfl)) dX5_grow_2 ⟨Nat.le_of_ble_eq_true rfl, Nat.le_of_ble_eq_true rfl⟩) hS (fun _ _ h => h) (fun _ h => h) (fun _ _ h => h) (fun E9 ce q9 u9 t9 H locs ht hvm hu hB hz1 hk1 hS hce hcv hcl => ?_) (fun r1 ur1 t9 H locs ht hvm hw hW hz1 hk1 hS => ?_)
  · obtain ⟨hp, hW⟩ := hB
    have hW := cf_W.er ht hW
    exact cf_pass htab hlocks hce hcv hcl hS hW (Or.inl hp) ⟨Nat.le_of_ble_eq_true rfl, Nat.le_of_ble_eq_true rfl⟩
  have hW := cf_W.er ht hW
  obtain ⟨gp, hg60, hxg, hgP, hgn, rfl⟩ := hw
  have hl0g := hL gp hgn
  have hgm : P 0 (P 2 gp 0) 0 < 5 := hG _ hl0g.1
  have hA : cf_lv P x := ⟨gp, hg60, hxg, by omega⟩
  refine lv_astore_n (lv' := [(3, .ref (ad 2 gp)), (0, .ref (ad 5 0)), (1, .int x), (2, .int a1)]) hx hb dX5_grow_5 rfl hl (by decide) rfl (fun ls hl => ?_)
  refine lv_iload_n hx hb dX5_grow_6 rfl (lv_at hl 3 rfl) ?_
  refine lv_iconst (v := 1) hx hb dX5_grow_7 (by decide) ?_
  refine lv_bipush (v := 7) hx hb dX5_grow_8 (by decide) ?_
  refine vx_callv (vx_runS (As := [.int a1, .int 1, .int 7]) (rest := []) ⟨hx, hb, hml, hown, hts⟩ (c_X5_checkRange l D cT z ad _ a1 1 7 hl0) (va_cwS 3 hts gX5_grow_X5_checkRange rfl rfl rfl (by decide +kernel) ⟨Nat.le_of_ble_eq_true rfl, Nat.le_of_ble_eq_true rfl⟩) (cf_preS hT hS hW) rfl rfl hl.1 rfl (lv_room (Nat.le_of_ble_eq_true rfl)) dX5_grow_10 ⟨Nat.le_of_ble_eq_true rfl, Nat.le_of_ble_eq_true rfl⟩) hS (fun _ _ h => h) (fun _ h => h) (fun _ _ h => h) (fun E9 ce q9 u9 t9 H locs ht hvm hu hB hz1 hk1 hS hce hcv hcl => ?_) (fun ur2 t9 H locs ht hvm hw hW hz1 hk1 hS => ?_)
  · obtain ⟨hp, hW⟩ := hB
    have hW := cf_W.er ht hW
    exact cf_pass htab hlocks hce hcv hcl hS hW (Or.inr (Or.inl ⟨hp.1, hA, hp.2⟩)) ⟨Nat.le_of_ble_eq_true rfl, Nat.le_of_ble_eq_true rfl⟩
  have hW := cf_W.er ht hW
  have h1 := hw
  refine lv_aload_n hx hb dX5_grow_13 rfl (lv_at hl 0 rfl) ?_
  refine cf_get (v := .int (S 2 gp 1)) (ci := 2) (C := RX2) (T := TX2) (N := 4) hx hb hts (fun _ h => List.mem_cons_of_mem _ (List.mem_append_left _ (List.mem_append_left _ (List.mem_append_left _ (List.mem_append_left _ (List.mem_append_left _ (List.mem_append_left _ (List.mem_append_left _ (List.mem_append_right _ (h)))))))))) hown hT.1 hW (cf_e2 hgn) rfl 2 (by decide) (hts (.fieldLink RX5 159 "GameCafe$Group" "people" "I") (List.mem_of_getElem? (i := 3) rfl)) (fun _ h9 => h9) rfl dX5_grow_14 ?_
  refine lv_iload_n hx hb dX5_grow_17 rfl (lv_at hl 3 rfl) ?_
  refine lv_iadd hx hb dX5_grow_18 ?_
  refine lv_istore (lv' := [(4, .int ((S 2 gp 1) + a1)), (3, .ref (ad 2 gp)), (0, .ref (ad 5 0)), (1, .int x), (2, .int a1)]) hx hb dX5_grow_19 hl (by decide) rfl (fun ls hl => ?_)
  refine lv_iload hx hb dX5_grow_21 (lv_at hl 0 rfl) ?_
  refine lv_aload_n hx hb dX5_grow_23 rfl (lv_at hl 1 rfl) ?_
  refine cf_get (v := .ref (ad 0 (P 2 gp 0))) (ci := 2) (C := RX2) (T := TX2) (N := 4) hx hb hts (fun _ h => List.mem_cons_of_mem _ (List.mem_append_left _ (List.mem_append_left _ (List.mem_append_left _ (List.mem_append_left _ (List.mem_append_left _ (List.mem_append_left _ (List.mem_append_left _ (List.mem_append_right _ (h)))))))))) hown hT.1 hW (cf_e2 hgn) rfl 0 (by decide) (hts (.fieldLink RX5 162 "GameCafe$Group" "copy" "LGameCafe$Copy;") (List.mem_of_getElem? (i := 4) rfl)) (fun _ h9 => h9) rfl dX5_grow_24 ?_
  refine cf_get (v := .ref (ad 1 (P 0 (P 2 gp 0) 0))) (ci := 0) (C := RX0) (T := TX0) (N := 4) hx hb hts (fun _ h => List.mem_cons_of_mem _ (List.mem_append_left _ (List.mem_append_left _ (List.mem_append_left _ (List.mem_append_left _ (List.mem_append_left _ (List.mem_append_left _ (List.mem_append_right _ (h))))))))) hown hT.1 hW (cf_e0 hl0g.1) rfl 1 (by decide) (hts (.fieldLink RX5 114 "GameCafe$Copy" "game" "LGameCafe$Game;") (List.mem_of_getElem? (i := 5) rfl)) (fun _ h9 => h9) rfl dX5_grow_27 ?_
  refine cf_get (v := .int (S 1 (P 0 (P 2 gp 0) 0) 1)) (ci := 1) (C := RX1) (T := TX1) (N := 6) hx hb hts (fun _ h => List.mem_cons_of_mem _ (List.mem_append_left _ (List.mem_append_left _ (List.mem_append_left _ (List.mem_append_left _ (List.mem_append_left _ (List.mem_append_right _ (h)))))))) hown hT.1 hW (cf_e1 hgm) rfl 1 (by decide) (hts (.fieldLink RX5 67 "GameCafe$Game" "most" "I") (List.mem_of_getElem? (i := 6) rfl)) (fun _ h9 => h9) rfl dX5_grow_30 ?_
  refine lv_icmp_le (tgt := 46) hx hb dX5_grow_33 (by decide) (fun c33_3 => ?_) (fun c33_3 => ?_)
  · have hmost := c33_3
    refine lv_iload hx hb dX5_grow_46 (lv_at hl 0 rfl) ?_
    refine lv_aload_n hx hb dX5_grow_48 rfl (lv_at hl 1 rfl) ?_
    refine cf_get (v := .ref (ad 3 (P 2 gp 1))) (ci := 2) (C := RX2) (T := TX2) (N := 4) hx hb hts (fun _ h => List.mem_cons_of_mem _ (List.mem_append_left _ (List.mem_append_left _ (List.mem_append_left _ (List.mem_append_left _ (List.mem_append_left _ (List.mem_append_left _ (List.mem_append_left _ (List.mem_append_right _ (h)))))))))) hown hT.1 hW (cf_e2 hgn) rfl 3 (by decide) (hts (.fieldLink RX5 166 "GameCafe$Group" "table" "LGameCafe$Table;") (List.mem_of_getElem? (i := 7) rfl)) (fun _ h9 => h9) rfl dX5_grow_49 ?_
    refine cf_get (v := .int (S 3 (P 2 gp 1) 0)) (ci := 3) (C := RX3) (T := TX3) (N := 3) hx hb hts (fun _ h => List.mem_cons_of_mem _ (List.mem_append_left _ (List.mem_append_left _ (List.mem_append_left _ (List.mem_append_left _ (List.mem_append_right _ (h))))))) hown hT.1 hW (cf_e3 hl0g.2) rfl 1 (by decide) (hts (.fieldLink RX5 90 "GameCafe$Table" "seats" "I") (List.mem_of_getElem? (i := 8) rfl)) (fun _ h9 => h9) rfl dX5_grow_52 ?_
    refine lv_icmp_gt (tgt := 65) hx hb dX5_grow_55 (by decide) (fun c55_4 => ?_) (fun c55_4 => ?_)
    · refine lv_aload_n hx hb dX5_grow_65 rfl (lv_at hl 2 rfl) ?_
      refine lv_iload hx hb dX5_grow_66 (lv_at hl 0 rfl) ?_
      refine va_callq (va_runV (As := [.int ((S 2 gp 1) + a1)]) (rest := []) ⟨hx, hb, hml, hown, hts⟩ (c_X5_freeTableFor l D cT z ad nc ng S P O (S 2 gp 1 + a1)) (cwV 1 hts gX5_grow_X5_freeTableFor rfl rfl rfl (by decide +kernel) ⟨Nat.le_of_ble_eq_true rfl, Nat.le_of_ble_eq_true rfl⟩) (cf_preV (T := TX5) (N := 9) hT hS hW cf_e5 rfl) rfl rfl hl.1 rfl (lv_room (Nat.le_of_ble_eq_true rfl)) dX5_grow_68 ⟨Nat.le_of_ble_eq_true rfl, Nat.le_of_ble_eq_true rfl⟩) hS (fun _ _ h => h) (fun _ h => h) (fun r5 ur5 t9 H locs ht hvm hw hW hz1 hk1 hS => ?_)
      have hW := cf_W.er ht hW
      obtain ⟨b1, hb1, rfl⟩ := hw
      rcases b1 with _ | t1
      · refine lv_astoreN (lv' := [(5, .null), (4, .int ((S 2 gp 1) + a1)), (3, .ref (ad 2 gp)), (0, .ref (ad 5 0)), (1, .int x), (2, .int a1)]) hx hb dX5_grow_71 hl (by decide) rfl (fun ls hl => ?_)
        refine lv_aloadN hx hb dX5_grow_73 (lv_at hl 0 rfl) ?_
        refine lv_ifnonnullN hx hb dX5_grow_75 ?_
        exact cf_throw (text := "no table can be had") hx hb hl0 hown (by decide +kernel) (hts (.classLink RX5 83 "java/lang/IllegalStateException") (List.mem_of_getElem? (i := 1) rfl)) (hts (.initialized "java/lang/IllegalStateException") (List.mem_of_getElem? (i := 2) rfl)) (List.mem_of_getElem? (i := 11) rfl) (List.mem_of_getElem? (i := 2) rfl) (fun w h => hts w (List.mem_cons_of_mem _ (List.mem_append_left _ (List.mem_append_left _ (List.mem_append_right _ (h)))))) cf_ng_ise cf_gd_ise hT hW hS (hl.1.trans hml.symm) dX5_grow_78 dX5_grow_81 dX5_grow_82 dX5_grow_84 dX5_grow_87 htab (by decide) hlocks (Or.inr (Or.inr ⟨rfl, hA, h1, fun q => by rcases (q gp hxg hg60 hgP hgn).2 with h9 | ⟨t, h9⟩; exact absurd c55_4 (Int32.not_lt.mpr h9); rw [h9] at hb1; cases hb1⟩)) (by decide)
      · have ht6 : t1 < 6 := (cf_best_in hb1.symm).1
        refine lv_astore (lv' := [(5, .ref (ad 3 t1)), (4, .int ((S 2 gp 1) + a1)), (3, .ref (ad 2 gp)), (0, .ref (ad 5 0)), (1, .int x), (2, .int a1)]) hx hb dX5_grow_71 hl (by decide) rfl (fun ls hl => ?_)
        refine lv_aload hx hb dX5_grow_73 (lv_at hl 0 rfl) ?_
        refine lv_ifnonnull (tgt := 88) hx hb dX5_grow_75 (by decide) ?_
        refine lv_aload_n hx hb dX5_grow_88 rfl (lv_at hl 2 rfl) ?_
        refine cf_get (v := .ref (ad 3 (P 2 gp 1))) (ci := 2) (C := RX2) (T := TX2) (N := 4) hx hb hts (fun _ h => List.mem_cons_of_mem _ (List.mem_append_left _ (List.mem_append_left _ (List.mem_append_left _ (List.mem_append_left _ (List.mem_append_left _ (List.mem_append_left _ (List.mem_append_left _ (List.mem_append_right _ (h)))))))))) hown hT.1 hW (cf_e2 hgn) rfl 3 (by decide) (hts (.fieldLink RX5 166 "GameCafe$Group" "table" "LGameCafe$Table;") (List.mem_of_getElem? (i := 7) rfl)) (fun _ h9 => h9) rfl dX5_grow_89 ?_
        refine lv_iconst (v := (-1)) hx hb dX5_grow_92 (by decide) ?_
        refine cf_putE (v := .int (-1)) (ty := .int) (ci := 3) (C := RX3) (T := TX3) (N := 3) hx hb hts (fun _ h => List.mem_cons_of_mem _ (List.mem_append_left _ (List.mem_append_left _ (List.mem_append_left _ (List.mem_append_left _ (List.mem_append_right _ (h))))))) tyX3 tyX3_ok nmX3 hown hT.1 hW hS (cf_e3 hl0g.2) rfl 2 (by decide) (hts (.fieldLink RX5 80 "GameCafe$Table" "group" "I") (List.mem_of_getElem? (i := 9) rfl)) (fun _ h9 => h9) rfl (by decide +kernel) rfl rfl (Nat.le_of_ble_eq_true rfl) dX5_grow_93 (E2 := (cf_E cT nc ng (cf_s3 S 3 (P 2 gp 1) 1 (-1)) P O ad)) (cf_upS 3 (P 2 gp 1) (upd (S 3 (P 2 gp 1)) 1 (-1)) (cf_c3 hl0g.2)) (fun H locs hW hS => ?_)
        refine lv_aload hx hb dX5_grow_96 (lv_at hl 0 rfl) ?_
        refine lv_iload_n hx hb dX5_grow_98 rfl (lv_at hl 4 rfl) ?_
        refine cf_putE (v := .int x) (ty := .int) (ci := 3) (C := RX3) (T := TX3) (N := 3) hx hb hts (fun _ h => List.mem_cons_of_mem _ (List.mem_append_left _ (List.mem_append_left _ (List.mem_append_left _ (List.mem_append_left _ (List.mem_append_right _ (h))))))) tyX3 tyX3_ok nmX3 hown hT.1 hW hS (cf_e3 ht6) rfl 2 (by decide) (hts (.fieldLink RX5 80 "GameCafe$Table" "group" "I") (List.mem_of_getElem? (i := 9) rfl)) (fun _ h9 => h9) rfl (by decide +kernel) rfl rfl (Nat.le_of_ble_eq_true rfl) dX5_grow_99 (E2 := (cf_E cT nc ng (cf_s3 (cf_s3 S 3 (P 2 gp 1) 1 (-1)) 3 t1 1 x) P O ad)) (cf_upS 3 t1 (upd ((cf_s3 S 3 (P 2 gp 1) 1 (-1)) 3 t1) 1 x) (cf_c3 ht6)) (fun H locs hW hS => ?_)
        refine lv_aload_n hx hb dX5_grow_102 rfl (lv_at hl 2 rfl) ?_
        refine lv_aload hx hb dX5_grow_103 (lv_at hl 0 rfl) ?_
        refine cf_putE (v := .ref (ad 3 t1)) (ty := .object "GameCafe$Table") (ci := 2) (C := RX2) (T := TX2) (N := 4) hx hb hts (fun _ h => List.mem_cons_of_mem _ (List.mem_append_left _ (List.mem_append_left _ (List.mem_append_left _ (List.mem_append_left _ (List.mem_append_left _ (List.mem_append_left _ (List.mem_append_left _ (List.mem_append_right _ (h)))))))))) tyX2 tyX2_ok nmX2 hown hT.1 hW hS (cf_e2 hgn) rfl 3 (by decide) (hts (.fieldLink RX5 166 "GameCafe$Group" "table" "LGameCafe$Table;") (List.mem_of_getElem? (i := 7) rfl)) (fun _ h9 => h9) rfl (by decide +kernel) rfl rfl (Nat.le_of_ble_eq_true rfl) dX5_grow_105 (E2 := (cf_E cT nc ng (cf_s3 (cf_s3 S 3 (P 2 gp 1) 1 (-1)) 3 t1 1 x) (cf_p3 P 2 gp 1 t1) O ad)) (cf_upP 2 gp (cf_u (P 2 gp) 1 t1) (cf_c2 hgn)) (fun H locs hW hS => ?_)
        refine lv_aload_n hx hb dX5_grow_108 rfl (lv_at hl 2 rfl) ?_
        refine lv_iload hx hb dX5_grow_109 (lv_at hl 1 rfl) ?_
        refine cf_putE (v := .int ((S 2 gp 1) + a1)) (ty := .int) (ci := 2) (C := RX2) (T := TX2) (N := 4) hx hb hts (fun _ h => List.mem_cons_of_mem _ (List.mem_append_left _ (List.mem_append_left _ (List.mem_append_left _ (List.mem_append_left _ (List.mem_append_left _ (List.mem_append_left _ (List.mem_append_left _ (List.mem_append_right _ (h)))))))))) tyX2 tyX2_ok nmX2 hown hT.1 hW hS (cf_e2 hgn) rfl 2 (by decide) (hts (.fieldLink RX5 159 "GameCafe$Group" "people" "I") (List.mem_of_getElem? (i := 3) rfl)) (fun _ h9 => h9) rfl (by decide +kernel) rfl rfl (Nat.le_of_ble_eq_true rfl) dX5_grow_111 (E2 := (cf_E cT nc ng (cf_s3 (cf_s3 (cf_s3 S 3 (P 2 gp 1) 1 (-1)) 3 t1 1 x) 2 gp 1 ((S 2 gp 1) + a1)) (cf_p3 P 2 gp 1 t1) O ad)) (cf_upS 2 gp (upd ((cf_s3 (cf_s3 S 3 (P 2 gp 1) 1 (-1)) 3 t1 1 x) 2 gp) 1 ((S 2 gp 1) + a1)) (cf_c2 hgn)) (fun H locs hW hS => ?_)
        refine lv_aload hx hb dX5_grow_114 (lv_at hl 0 rfl) ?_
        refine cf_get (v := .int (nI t1)) (ci := 3) (C := RX3) (T := TX3) (N := 3) hx hb hts (fun _ h => List.mem_cons_of_mem _ (List.mem_append_left _ (List.mem_append_left _ (List.mem_append_left _ (List.mem_append_left _ (List.mem_append_right _ (h))))))) hown hT.1 hW (cf_e3 ht6) rfl 0 (by decide) (hts (.fieldLink RX5 172 "GameCafe$Table" "number" "I") (List.mem_of_getElem? (i := 10) rfl)) (fun _ h9 => h9) rfl dX5_grow_116 ?_
        refine vx_ret ?_
        refine W.widen (k := 4) (n := 24) (by omega) (by omega) ?_
        exact W.iret (v := (nI t1)) hx hb hr (fun t9 ht9 hw9 => ⟨⟨(nI t1), ((cf_s3 (cf_s3 (cf_s3 S 3 (P 2 gp 1) 1 (-1)) 3 t1 1 x) 2 gp 1 ((S 2 gp 1) + a1)), (cf_p3 P 2 gp 1 t1)), rfl, ⟨gp, t1, hg60, hxg, hgP, hgn, h1, hmost, Or.inr ⟨c55_4, hb1.symm⟩, rfl, rfl⟩, cf_W.re ht9 hW⟩, hS.F ht9⟩) hS.2.2 dX5_grow_119
    · refine lv_aload_n hx hb dX5_grow_58 rfl (lv_at hl 1 rfl) ?_
      refine cf_get (v := .ref (ad 3 (P 2 gp 1))) (ci := 2) (C := RX2) (T := TX2) (N := 4) hx hb hts (fun _ h => List.mem_cons_of_mem _ (List.mem_append_left _ (List.mem_append_left _ (List.mem_append_left _ (List.mem_append_left _ (List.mem_append_left _ (List.mem_append_left _ (List.mem_append_left _ (List.mem_append_right _ (h)))))))))) hown hT.1 hW (cf_e2 hgn) rfl 3 (by decide) (hts (.fieldLink RX5 166 "GameCafe$Group" "table" "LGameCafe$Table;") (List.mem_of_getElem? (i := 7) rfl)) (fun _ h9 => h9) rfl dX5_grow_59 ?_
      refine lv_goto (tgt := 71) hx hb dX5_grow_62 (by decide) ?_
      refine lv_astore (lv' := [(5, .ref (ad 3 (P 2 gp 1))), (4, .int ((S 2 gp 1) + a1)), (3, .ref (ad 2 gp)), (0, .ref (ad 5 0)), (1, .int x), (2, .int a1)]) hx hb dX5_grow_71 hl (by decide) rfl (fun ls hl => ?_)
      refine lv_aload hx hb dX5_grow_73 (lv_at hl 0 rfl) ?_
      refine lv_ifnonnull (tgt := 88) hx hb dX5_grow_75 (by decide) ?_
      refine lv_aload_n hx hb dX5_grow_88 rfl (lv_at hl 2 rfl) ?_
      refine cf_get (v := .ref (ad 3 (P 2 gp 1))) (ci := 2) (C := RX2) (T := TX2) (N := 4) hx hb hts (fun _ h => List.mem_cons_of_mem _ (List.mem_append_left _ (List.mem_append_left _ (List.mem_append_left _ (List.mem_append_left _ (List.mem_append_left _ (List.mem_append_left _ (List.mem_append_left _ (List.mem_append_right _ (h)))))))))) hown hT.1 hW (cf_e2 hgn) rfl 3 (by decide) (hts (.fieldLink RX5 166 "GameCafe$Group" "table" "LGameCafe$Table;") (List.mem_of_getElem? (i := 7) rfl)) (fun _ h9 => h9) rfl dX5_grow_89 ?_
      refine lv_iconst (v := (-1)) hx hb dX5_grow_92 (by decide) ?_
      refine cf_putE (v := .int (-1)) (ty := .int) (ci := 3) (C := RX3) (T := TX3) (N := 3) hx hb hts (fun _ h => List.mem_cons_of_mem _ (List.mem_append_left _ (List.mem_append_left _ (List.mem_append_left _ (List.mem_append_left _ (List.mem_append_right _ (h))))))) tyX3 tyX3_ok nmX3 hown hT.1 hW hS (cf_e3 hl0g.2) rfl 2 (by decide) (hts (.fieldLink RX5 80 "GameCafe$Table" "group" "I") (List.mem_of_getElem? (i := 9) rfl)) (fun _ h9 => h9) rfl (by decide +kernel) rfl rfl (Nat.le_of_ble_eq_true rfl) dX5_grow_93 (E2 := (cf_E cT nc ng (cf_s3 S 3 (P 2 gp 1) 1 (-1)) P O ad)) (cf_upS 3 (P 2 gp 1) (upd (S 3 (P 2 gp 1)) 1 (-1)) (cf_c3 hl0g.2)) (fun H locs hW hS => ?_)
      refine lv_aload hx hb dX5_grow_96 (lv_at hl 0 rfl) ?_
      refine lv_iload_n hx hb dX5_grow_98 rfl (lv_at hl 4 rfl) ?_
      refine cf_putE (v := .int x) (ty := .int) (ci := 3) (C := RX3) (T := TX3) (N := 3) hx hb hts (fun _ h => List.mem_cons_of_mem _ (List.mem_append_left _ (List.mem_append_left _ (List.mem_append_left _ (List.mem_append_left _ (List.mem_append_right _ (h))))))) tyX3 tyX3_ok nmX3 hown hT.1 hW hS (cf_e3 hl0g.2) rfl 2 (by decide) (hts (.fieldLink RX5 80 "GameCafe$Table" "group" "I") (List.mem_of_getElem? (i := 9) rfl)) (fun _ h9 => h9) rfl (by decide +kernel) rfl rfl (Nat.le_of_ble_eq_true rfl) dX5_grow_99 (E2 := (cf_E cT nc ng (cf_s3 (cf_s3 S 3 (P 2 gp 1) 1 (-1)) 3 (P 2 gp 1) 1 x) P O ad)) (cf_upS 3 (P 2 gp 1) (upd ((cf_s3 S 3 (P 2 gp 1) 1 (-1)) 3 (P 2 gp 1)) 1 x) (cf_c3 hl0g.2)) (fun H locs hW hS => ?_)
      refine lv_aload_n hx hb dX5_grow_102 rfl (lv_at hl 2 rfl) ?_
      refine lv_aload hx hb dX5_grow_103 (lv_at hl 0 rfl) ?_
      refine cf_putE (v := .ref (ad 3 (P 2 gp 1))) (ty := .object "GameCafe$Table") (ci := 2) (C := RX2) (T := TX2) (N := 4) hx hb hts (fun _ h => List.mem_cons_of_mem _ (List.mem_append_left _ (List.mem_append_left _ (List.mem_append_left _ (List.mem_append_left _ (List.mem_append_left _ (List.mem_append_left _ (List.mem_append_left _ (List.mem_append_right _ (h)))))))))) tyX2 tyX2_ok nmX2 hown hT.1 hW hS (cf_e2 hgn) rfl 3 (by decide) (hts (.fieldLink RX5 166 "GameCafe$Group" "table" "LGameCafe$Table;") (List.mem_of_getElem? (i := 7) rfl)) (fun _ h9 => h9) rfl (by decide +kernel) rfl rfl (Nat.le_of_ble_eq_true rfl) dX5_grow_105 (E2 := (cf_E cT nc ng (cf_s3 (cf_s3 S 3 (P 2 gp 1) 1 (-1)) 3 (P 2 gp 1) 1 x) (cf_p3 P 2 gp 1 (P 2 gp 1)) O ad)) (cf_upP 2 gp (cf_u (P 2 gp) 1 (P 2 gp 1)) (cf_c2 hgn)) (fun H locs hW hS => ?_)
      refine lv_aload_n hx hb dX5_grow_108 rfl (lv_at hl 2 rfl) ?_
      refine lv_iload hx hb dX5_grow_109 (lv_at hl 1 rfl) ?_
      refine cf_putE (v := .int ((S 2 gp 1) + a1)) (ty := .int) (ci := 2) (C := RX2) (T := TX2) (N := 4) hx hb hts (fun _ h => List.mem_cons_of_mem _ (List.mem_append_left _ (List.mem_append_left _ (List.mem_append_left _ (List.mem_append_left _ (List.mem_append_left _ (List.mem_append_left _ (List.mem_append_left _ (List.mem_append_right _ (h)))))))))) tyX2 tyX2_ok nmX2 hown hT.1 hW hS (cf_e2 hgn) rfl 2 (by decide) (hts (.fieldLink RX5 159 "GameCafe$Group" "people" "I") (List.mem_of_getElem? (i := 3) rfl)) (fun _ h9 => h9) rfl (by decide +kernel) rfl rfl (Nat.le_of_ble_eq_true rfl) dX5_grow_111 (E2 := (cf_E cT nc ng (cf_s3 (cf_s3 (cf_s3 S 3 (P 2 gp 1) 1 (-1)) 3 (P 2 gp 1) 1 x) 2 gp 1 ((S 2 gp 1) + a1)) (cf_p3 P 2 gp 1 (P 2 gp 1)) O ad)) (cf_upS 2 gp (upd ((cf_s3 (cf_s3 S 3 (P 2 gp 1) 1 (-1)) 3 (P 2 gp 1) 1 x) 2 gp) 1 ((S 2 gp 1) + a1)) (cf_c2 hgn)) (fun H locs hW hS => ?_)
      refine lv_aload hx hb dX5_grow_114 (lv_at hl 0 rfl) ?_
      refine cf_get (v := .int (nI (P 2 gp 1))) (ci := 3) (C := RX3) (T := TX3) (N := 3) hx hb hts (fun _ h => List.mem_cons_of_mem _ (List.mem_append_left _ (List.mem_append_left _ (List.mem_append_left _ (List.mem_append_left _ (List.mem_append_right _ (h))))))) hown hT.1 hW (cf_e3 hl0g.2) rfl 0 (by decide) (hts (.fieldLink RX5 172 "GameCafe$Table" "number" "I") (List.mem_of_getElem? (i := 10) rfl)) (fun _ h9 => h9) rfl dX5_grow_116 ?_
      refine vx_ret ?_
      refine W.widen (k := 4) (n := 24) (by omega) (by omega) ?_
      exact W.iret (v := (nI (P 2 gp 1))) hx hb hr (fun t9 ht9 hw9 => ⟨⟨(nI (P 2 gp 1)), ((cf_s3 (cf_s3 (cf_s3 S 3 (P 2 gp 1) 1 (-1)) 3 (P 2 gp 1) 1 x) 2 gp 1 ((S 2 gp 1) + a1)), (cf_p3 P 2 gp 1 (P 2 gp 1))), rfl, ⟨gp, (P 2 gp 1), hg60, hxg, hgP, hgn, h1, hmost, Or.inl ⟨Int32.not_lt.mp c55_4, rfl⟩, rfl, rfl⟩, cf_W.re ht9 hW⟩, hS.F ht9⟩) hS.2.2 dX5_grow_119
  · exact cf_throw (text := "the game is not for so many people") hx hb hl0 hown (by decide +kernel) (hts (.classLink RX5 83 "java/lang/IllegalStateException") (List.mem_of_getElem? (i := 1) rfl)) (hts (.initialized "java/lang/IllegalStateException") (List.mem_of_getElem? (i := 2) rfl)) (List.mem_of_getElem? (i := 8) rfl) (List.mem_of_getElem? (i := 2) rfl) (fun w h => hts w (List.mem_cons_of_mem _ (List.mem_append_left _ (List.mem_append_left _ (List.mem_append_right _ (h)))))) cf_ng_ise cf_gd_ise hT hW hS (hl.1.trans hml.symm) dX5_grow_36 dX5_grow_39 dX5_grow_40 dX5_grow_42 dX5_grow_45 htab (by decide) hlocks (Or.inr (Or.inr ⟨rfl, hA, h1, fun q => c33_3 (q gp hxg hg60 hgP hgn).1⟩)) (by decide)
