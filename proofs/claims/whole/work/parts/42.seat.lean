/-- how often the best so far was played -/
def cf_oj (S : cf_S) (b : Option Nat) : Int32 := match b with
  | none => -1
  | some t => S 1 t 3
noncomputable def cf_okP (nc : Nat) (S : cf_S) (P : cf_Pt) (x : Int32) : Nat → Bool := fun g => cf_dec ((fun gm => (S 5 0 1 < 60 ∧ (¬ x < S 1 gm 0 ∧ ¬ S 1 gm 1 < x) ∧ (∃ t, cf_best (cf_okT S x) (cf_ltT S) 6 = some t) ∧ ∃ u, cf_fst (cf_okC nc S P gm) 15 (some u))) g)
def cf_ltP (S : cf_S) : Nat → Nat → Bool := fun u t => decide (S 1 t 3 < S 1 u 3)
theorem cf_P_le {nc : Nat} {S : cf_S} {P : cf_Pt} {x : Int32} {i : Nat} {b : Option Nat} (hp0 : ∀ j, j < 5 → 0 ≤ S 1 j 3) (hi : i < 5) (hI : b = cf_best (cf_okP nc S P x) (cf_ltP S) i) (h : S 1 i 3 ≤ cf_oj S b) : cf_best (cf_okP nc S P x) (cf_ltP S) (i + 1) = cf_best (cf_okP nc S P x) (cf_ltP S) i := by
  cases b with
  | none => exact absurd (Int32.le_trans (hp0 i hi) h) (show ¬ (0 : Int32) ≤ -1 by decide)
  | some t => rw [← hI]; exact cf_best_old hI.symm (decide_eq_false (Int32.not_lt.mpr h))
theorem cf_P_gt {nc : Nat} {S : cf_S} {P : cf_Pt} {x : Int32} {i : Nat} {b : Option Nat} (hI : b = cf_best (cf_okP nc S P x) (cf_ltP S) i) (h : ¬ S 1 i 3 ≤ cf_oj S b) (hok : cf_okP nc S P x i = true) : cf_best (cf_okP nc S P x) (cf_ltP S) (i + 1) = some i := by
  cases b with
  | none => exact cf_best_first hok hI.symm
  | some t => exact cf_best_new hok hI.symm (decide_eq_true (Int32.not_le.mp h))
set_option maxHeartbeats 4000000 in
set_option maxRecDepth 100000 in
/-- X5_seat -/
theorem c_X5_seat (l : Launch) (D : va_G) (cT : Nat → ClassId) (z : Nat) (ad : cf_Ad) (nc ng : Nat) (S : cf_S) (P : cf_Pt) (O : Nat → Int64) (hl0 : l.stackTraces = false) (x y b1 : Int32) (hst : S 5 0 1 = nI ng) (hng60 : ng ≤ 60) (hnc : nc ≤ 15) (hO2 : ∀ j, P 14 0 j = if j < nc then j + 1 else 0) (hG : ∀ j, j < nc → P 0 j 0 < 5) (hQ2 : ∀ j, P 15 0 j ≤ ng) : vx_Met l yX5_seat wsX5_seat ({ frames := 7, cells := 4, slots := 22, locals := 104 }) (va_Pc [.ref (ad 5 0), .int x, .int y, .int b1] (cf_P D cT z (cf_E cT nc ng S P O ad) ad)) (cf_Qi D z (fun (r : Int32) (T : cf_S × cf_Pt × cf_Ad) => ∃ gm : Nat, gm < 5 ∧ y = nI gm ∧ ng < 60 ∧ (cf_rg x 1 8 ∧ ¬ x < S 1 gm 0 ∧ ¬ S 1 gm 1 < x) ∧ ∃ t c9 : Nat, cf_best (cf_okT S x) (cf_ltT S) 6 = some t ∧ cf_fst (cf_okC nc S P gm) 15 (some c9) ∧ r = nI ng ∧ T.2.1 = cf_seatP P ng c9 t ∧ (∀ k i, k ≠ 2 → T.2.2 k i = ad k i) ∧ ((¬ b1 = 0 ∧ T.1 = (cf_s3 (cf_s3 (cf_s3 (cf_seatS S ng x (S 5 0 2)) 5 0 1 ((nI ng) + 1)) 3 t 1 (nI ng)) 0 c9 0 1)) ∨ (b1 = 0 ∧ ∃ u9, cf_fst (cf_okS S gm) 3 (some u9) ∧ T.1 = (cf_s3 (cf_s3 (cf_s3 (cf_seatS (cf_s3 S 4 u9 0 ((S 5 0 2) + (S 1 gm 2))) ng x (S 5 0 2)) 5 0 1 ((nI ng) + 1)) 3 t 1 (nI ng)) 0 c9 0 1)))) (fun T => cf_E cT nc (ng + 1) T.1 T.2.1 O T.2.2) (fun T => T.2.2)) (cf_X D z (cf_E cT nc ng S P O ad) ad (cf_x123 (cf_ix y 5) (∀ gm : Nat, gm < 5 → y = nI gm → cf_rg x 1 8 ∧ ¬ x < S 1 gm 0 ∧ ¬ S 1 gm 1 < x) (∀ gm : Nat, gm < 5 → y = nI gm → ng < 60 ∧ (∃ t, cf_best (cf_okT S x) (cf_ltT S) 6 = some t) ∧ (∃ u, cf_fst (cf_okC nc S P gm) 15 (some u)) ∧ (b1 = 0 → ∃ u, cf_fst (cf_okS S gm) 3 (some u))))) 4 22 (fun q => z ≤ q) := by
  refine vx_ofW (cc := cX5_seat) (maxL := 9) (ret := (some .int)) (by decide) rfl ?_
  intro p e s m args below meth c s₁ B hml htab hv
  obtain ⟨rfl, hW, hT⟩ := hv
  have hx := B.exec
  have hb := B.bytes
  have hr := B.returns
  have hts := atoms_spec (ws := wsX5_seat) B.pre
  have hown : s.vm.findClass RX5 = some m.cls := findClass_of_methodNamed B.named
  have hlocks := B.notSynchronized
  have hS : va_S (fun q => z ≤ q) s.heap s.heap [] := va_S.rf
  have hl := lv_entry ([.ref (ad 5 0), .int x, .int y, .int b1]) (n := 9) (Nat.le_of_ble_eq_true rfl)
  rw [lg_entry_eq]
  generalize (lg_sl ([.ref (ad 5 0), .int x, .int y, .int b1]) ++ List.replicate (9 - (lg_sl ([.ref (ad 5 0), .int x, .int y, .int b1])).length) Slot.unset).toArray = ls at hl ⊢
  have hl : lv_has ls 9 [(0, .ref (ad 5 0)), (1, .int x), (2, .int y), (3, .int b1)] := hl
  skip
  refine lv_iload_n hx hb dX5_seat_0 rfl (lv_at hl 2 rfl) ?_
  refine lv_iconst (v := 5) hx hb dX5_seat_1 (by decide) ?_
  refine vx_callv (vx_runS (As := [.int y, .int 5]) (rest := []) ⟨hx, hb, hml, hown, hts⟩ (c_X5_checkNumber l D cT z ad _ y 5 5 (by decide) rfl hl0) (va_cwS 2 hts gX5_seat_X5_checkNumber rfl rfl rfl (by decide +kernel) ⟨Nat.le_of_ble_eq_true rfl, Nat.le_of_ble_eq_true rfl⟩) (cf_preS hT hS hW) rfl rfl hl.1 rfl (lv_room (Nat.le_of_ble_eq_true rfl)) dX5_seat_2 ⟨Nat.le_of_ble_eq_true rfl, Nat.le_of_ble_eq_true rfl⟩) hS (fun _ _ h => h) (fun _ h => h) (fun _ _ h => h) (fun E9 ce q9 u9 t9 H locs ht hvm hu hB hz1 hk1 hS hce hcv hcl => ?_) (fun ur1 t9 H locs ht hvm hw hW hz1 hk1 hS => ?_)
  · obtain ⟨hp, hW⟩ := hB
    have hW := cf_W.er ht hW
    exact cf_pass htab hlocks hce hcv hcl hS hW (Or.inl ⟨hp.1, hp.2⟩) ⟨Nat.le_of_ble_eq_true rfl, Nat.le_of_ble_eq_true rfl⟩
  have hW := cf_W.er ht hW
  have hi := hw
  have hA := hi
  obtain ⟨gm, hg, hyg⟩ := hi
  refine lv_iload_n hx hb dX5_seat_5 rfl (lv_at hl 1 rfl) ?_
  refine lv_iconst (v := 1) hx hb dX5_seat_6 (by decide) ?_
  refine lv_bipush (v := 8) hx hb dX5_seat_7 (by decide) ?_
  refine vx_callv (vx_runS (As := [.int x, .int 1, .int 8]) (rest := []) ⟨hx, hb, hml, hown, hts⟩ (c_X5_checkRange l D cT z ad _ x 1 8 hl0) (va_cwS 3 hts gX5_seat_X5_checkRange rfl rfl rfl (by decide +kernel) ⟨Nat.le_of_ble_eq_true rfl, Nat.le_of_ble_eq_true rfl⟩) (cf_preS hT hS hW) rfl rfl hl.1 rfl (lv_room (Nat.le_of_ble_eq_true rfl)) dX5_seat_9 ⟨Nat.le_of_ble_eq_true rfl, Nat.le_of_ble_eq_true rfl⟩) hS (fun _ _ h => h) (fun _ h => h) (fun _ _ h => h) (fun E9 ce q9 u9 t9 H locs ht hvm hu hB hz1 hk1 hS hce hcv hcl => ?_) (fun ur2 t9 H locs ht hvm hw hW hz1 hk1 hS => ?_)
  · obtain ⟨hp, hW⟩ := hB
    have hW := cf_W.er ht hW
    exact cf_pass htab hlocks hce hcv hcl hS hW (Or.inr (Or.inl ⟨hp.1, hA, fun q => hp.2 (q gm hg hyg).1⟩)) ⟨Nat.le_of_ble_eq_true rfl, Nat.le_of_ble_eq_true rfl⟩
  have hW := cf_W.er ht hW
  have h18 := hw
  refine lv_aload_n hx hb dX5_seat_12 rfl (lv_at hl 0 rfl) ?_
  refine cf_get (v := .ref (ad 11 0)) (ci := 5) (C := RX5) (T := TX5) (N := 9) hx hb hts (fun _ h => List.mem_cons_of_mem _ (List.mem_append_left _ (List.mem_append_left _ (List.mem_append_left _ (List.mem_append_left _ (List.mem_append_left _ (List.mem_append_left _ (List.mem_append_left _ (List.mem_append_left _ (List.mem_append_right _ (h))))))))))) hown hT.1 hW cf_e5 rfl 0 (by decide) (hts (.fieldLink RX5 11 "GameCafe" "games" "[LGameCafe$Game;") (List.mem_of_getElem? (i := 5) rfl)) (fun _ h9 => h9) rfl dX5_seat_13 ?_
  refine lv_iload_n hx hb dX5_seat_16 rfl (lv_at hl 2 rfl) ?_
  refine cf_aldN (t0 := 3) (C := RX1) (n := 5) (v := .ref (ad 1 gm)) hx hb hT.1 hW cf_e11 rfl gm hyg hg (by decide) dX5_seat_17 rfl ?_
  refine lv_astore (lv' := [(4, .ref (ad 1 gm)), (0, .ref (ad 5 0)), (1, .int x), (2, .int y), (3, .int b1)]) hx hb dX5_seat_18 hl (by decide) rfl (fun ls hl => ?_)
  refine lv_aload hx hb dX5_seat_20 (lv_at hl 0 rfl) ?_
  refine lv_iload_n hx hb dX5_seat_22 rfl (lv_at hl 2 rfl) ?_
  refine va_calli (va_runV (As := [.int x]) (rest := []) ⟨hx, hb, hml, hown, hts⟩ (c_X1_isFor l D cT z ad nc ng S P O hg x) (cwV 1 hts gX5_seat_X1_isFor rfl rfl rfl (by decide +kernel) ⟨Nat.le_of_ble_eq_true rfl, Nat.le_of_ble_eq_true rfl⟩) (cf_preV (T := TX1) (N := 6) hT hS hW (cf_e1 hg) rfl) rfl rfl hl.1 rfl (lv_room (Nat.le_of_ble_eq_true rfl)) dX5_seat_23 ⟨Nat.le_of_ble_eq_true rfl, Nat.le_of_ble_eq_true rfl⟩) hS (fun _ _ h => h) (fun _ h => h) (fun r3 ur3 t9 H locs ht hvm hw hW hz1 hk1 hS => ?_)
  have hW := cf_W.er ht hW
  have hw1 := hw
  refine lv_if_ne (tgt := 39) hx hb dX5_seat_26 (by decide) (fun c26_4 => ?_) (fun c26_4 => ?_)
  · have hfor := hw1.t c26_4
    have hB9 : (∀ gm : Nat, gm < 5 → y = nI gm → cf_rg x 1 8 ∧ ¬ x < S 1 gm 0 ∧ ¬ S 1 gm 1 < x) := fun g9 h1 h2 => by have e9 : g9 = gm := cf_nI_inj (by omega) (by omega) (h2.symm.trans hyg); subst e9; exact ⟨h18, hfor⟩
    refine lv_aload_n hx hb dX5_seat_39 rfl (lv_at hl 1 rfl) ?_
    refine lv_iload_n hx hb dX5_seat_40 rfl (lv_at hl 2 rfl) ?_
    refine va_callq (va_runV (As := [.int x]) (rest := []) ⟨hx, hb, hml, hown, hts⟩ (c_X5_freeTableFor l D cT z ad nc ng S P O x) (cwV 1 hts gX5_seat_X5_freeTableFor rfl rfl rfl (by decide +kernel) ⟨Nat.le_of_ble_eq_true rfl, Nat.le_of_ble_eq_true rfl⟩) (cf_preV (T := TX5) (N := 9) hT hS hW cf_e5 rfl) rfl rfl hl.1 rfl (lv_room (Nat.le_of_ble_eq_true rfl)) dX5_seat_41 ⟨Nat.le_of_ble_eq_true rfl, Nat.le_of_ble_eq_true rfl⟩) hS (fun _ _ h => h) (fun _ h => h) (fun r5 ur5 t9 H locs ht hvm hw hW hz1 hk1 hS => ?_)
    have hW := cf_W.er ht hW
    obtain ⟨tb, htb, rfl⟩ := hw
    rcases tb with _ | t
    · refine lv_astoreN (lv' := [(5, .null), (4, .ref (ad 1 gm)), (0, .ref (ad 5 0)), (1, .int x), (2, .int y), (3, .int b1)]) hx hb dX5_seat_44 hl (by decide) rfl (fun ls hl => ?_)
      refine lv_aload_n hx hb dX5_seat_46 rfl (lv_at hl 2 rfl) ?_
      refine lv_aload hx hb dX5_seat_47 (lv_at hl 1 rfl) ?_
      refine va_callq (va_runV (As := [.ref (ad 1 gm)]) (rest := []) ⟨hx, hb, hml, hown, hts⟩ (c_X5_playableCopyOf l D cT z ad nc ng S P O hg (fun j _ => hO2 j) hG) (cwV 1 hts gX5_seat_X5_playableCopyOf rfl rfl rfl (by decide +kernel) ⟨Nat.le_of_ble_eq_true rfl, Nat.le_of_ble_eq_true rfl⟩) (cf_preV (T := TX5) (N := 9) hT hS hW cf_e5 rfl) rfl rfl hl.1 rfl (lv_room (Nat.le_of_ble_eq_true rfl)) dX5_seat_49 ⟨Nat.le_of_ble_eq_true rfl, Nat.le_of_ble_eq_true rfl⟩) hS (fun _ _ h => h) (fun _ h => h) (fun r6 ur6 t9 H locs ht hvm hw hW hz1 hk1 hS => ?_)
      have hW := cf_W.er ht hW
      obtain ⟨cb, hcb, rfl⟩ := hw
      rcases cb with _ | c9
      · refine lv_astoreN (lv' := [(6, .null), (5, .null), (4, .ref (ad 1 gm)), (0, .ref (ad 5 0)), (1, .int x), (2, .int y), (3, .int b1)]) hx hb dX5_seat_52 hl (by decide) rfl (fun ls hl => ?_)
        refine lv_iload_n hx hb dX5_seat_54 rfl (lv_at hl 6 rfl) ?_
        refine lv_if_eq (tgt := 62) hx hb dX5_seat_55 (by decide) (fun c55_7 => ?_) (fun c55_7 => ?_)
        · refine lv_aload_n hx hb dX5_seat_62 rfl (lv_at hl 3 rfl) ?_
          refine lv_iload_n hx hb dX5_seat_63 rfl (lv_at hl 5 rfl) ?_
          refine va_callq (va_runV (As := [.int y]) (rest := []) ⟨hx, hb, hml, hown, hts⟩ (c_X5_freeTeacherOf l D cT z ad nc ng S P O hg y hyg) (cwV 1 hts gX5_seat_X5_freeTeacherOf rfl rfl rfl (by decide +kernel) ⟨Nat.le_of_ble_eq_true rfl, Nat.le_of_ble_eq_true rfl⟩) (cf_preV (T := TX5) (N := 9) hT hS hW cf_e5 rfl) rfl rfl hl.1 rfl (lv_room (Nat.le_of_ble_eq_true rfl)) dX5_seat_64 ⟨Nat.le_of_ble_eq_true rfl, Nat.le_of_ble_eq_true rfl⟩) hS (fun _ _ h => h) (fun _ h => h) (fun r8 ur8 t9 H locs ht hvm hw hW hz1 hk1 hS => ?_)
          have hW := cf_W.er ht hW
          obtain ⟨ub, hub, rfl⟩ := hw
          rcases ub with _ | u9
          · refine lv_astoreN (lv' := [(7, .null), (6, .null), (5, .null), (4, .ref (ad 1 gm)), (0, .ref (ad 5 0)), (1, .int x), (2, .int y), (3, .int b1)]) hx hb dX5_seat_67 hl (by decide) rfl (fun ls hl => ?_)
            refine lv_aload_n hx hb dX5_seat_69 rfl (lv_at hl 4 rfl) ?_
            refine cf_get (v := .int (nI ng)) (ci := 5) (C := RX5) (T := TX5) (N := 9) hx hb hts (fun _ h => List.mem_cons_of_mem _ (List.mem_append_left _ (List.mem_append_left _ (List.mem_append_left _ (List.mem_append_left _ (List.mem_append_left _ (List.mem_append_left _ (List.mem_append_left _ (List.mem_append_left _ (List.mem_append_right _ (h))))))))))) hown hT.1 hW cf_e5 rfl 7 (by decide) (hts (.fieldLink RX5 46 "GameCafe" "seated" "I") (List.mem_of_getElem? (i := 6) rfl)) (fun _ h9 => h9) (by rw [hst]; rfl) dX5_seat_70 ?_
            refine lv_bipush (v := 60) hx hb dX5_seat_73 (by decide) ?_
            refine lv_icmp_ge (tgt := 97) hx hb dX5_seat_75 (by decide) (fun c75_9 => ?_) (fun c75_9 => ?_)
            · exact cf_throw (text := "the group cannot be seated") hx hb hl0 hown (by decide +kernel) (hts (.classLink RX5 83 "java/lang/IllegalStateException") (List.mem_of_getElem? (i := 3) rfl)) (hts (.initialized "java/lang/IllegalStateException") (List.mem_of_getElem? (i := 4) rfl)) (List.mem_of_getElem? (i := 9) rfl) (List.mem_of_getElem? (i := 2) rfl) (fun w h => hts w (List.mem_cons_of_mem _ (List.mem_append_left _ (List.mem_append_right _ (h))))) cf_ng_ise cf_gd_ise hT hW hS (hl.1.trans hml.symm) dX5_seat_97 dX5_seat_100 dX5_seat_101 dX5_seat_103 dX5_seat_106 htab (by decide) hlocks (Or.inr (Or.inr ⟨rfl, hA, hB9, fun q => absurd (q gm hg hyg).1 (fun q => absurd (nI_lt q (by decide)) (Int32.not_lt.mpr c75_9))⟩)) (by decide)
            · have hn60 : ng < 60 := cf_lt_of (by omega) (by decide) (Int32.not_le.mp c75_9)
              refine lv_aloadN hx hb dX5_seat_78 (lv_at hl 2 rfl) ?_
              refine lv_ifnullN (tgt := 97) hx hb dX5_seat_80 (by decide) ?_
              exact cf_throw (text := "the group cannot be seated") hx hb hl0 hown (by decide +kernel) (hts (.classLink RX5 83 "java/lang/IllegalStateException") (List.mem_of_getElem? (i := 3) rfl)) (hts (.initialized "java/lang/IllegalStateException") (List.mem_of_getElem? (i := 4) rfl)) (List.mem_of_getElem? (i := 9) rfl) (List.mem_of_getElem? (i := 2) rfl) (fun w h => hts w (List.mem_cons_of_mem _ (List.mem_append_left _ (List.mem_append_right _ (h))))) cf_ng_ise cf_gd_ise hT hW hS (hl.1.trans hml.symm) dX5_seat_97 dX5_seat_100 dX5_seat_101 dX5_seat_103 dX5_seat_106 htab (by decide) hlocks (Or.inr (Or.inr ⟨rfl, hA, hB9, fun q => by obtain ⟨t, ht⟩ := (q gm hg hyg).2.1; rw [ht] at htb; cases htb⟩)) (by decide)
          · refine lv_astore (lv' := [(7, .ref (ad 4 u9)), (6, .null), (5, .null), (4, .ref (ad 1 gm)), (0, .ref (ad 5 0)), (1, .int x), (2, .int y), (3, .int b1)]) hx hb dX5_seat_67 hl (by decide) rfl (fun ls hl => ?_)
            refine lv_aload_n hx hb dX5_seat_69 rfl (lv_at hl 4 rfl) ?_
            refine cf_get (v := .int (nI ng)) (ci := 5) (C := RX5) (T := TX5) (N := 9) hx hb hts (fun _ h => List.mem_cons_of_mem _ (List.mem_append_left _ (List.mem_append_left _ (List.mem_append_left _ (List.mem_append_left _ (List.mem_append_left _ (List.mem_append_left _ (List.mem_append_left _ (List.mem_append_left _ (List.mem_append_right _ (h))))))))))) hown hT.1 hW cf_e5 rfl 7 (by decide) (hts (.fieldLink RX5 46 "GameCafe" "seated" "I") (List.mem_of_getElem? (i := 6) rfl)) (fun _ h9 => h9) (by rw [hst]; rfl) dX5_seat_70 ?_
            refine lv_bipush (v := 60) hx hb dX5_seat_73 (by decide) ?_
            refine lv_icmp_ge (tgt := 97) hx hb dX5_seat_75 (by decide) (fun c75_10 => ?_) (fun c75_10 => ?_)
            · exact cf_throw (text := "the group cannot be seated") hx hb hl0 hown (by decide +kernel) (hts (.classLink RX5 83 "java/lang/IllegalStateException") (List.mem_of_getElem? (i := 3) rfl)) (hts (.initialized "java/lang/IllegalStateException") (List.mem_of_getElem? (i := 4) rfl)) (List.mem_of_getElem? (i := 9) rfl) (List.mem_of_getElem? (i := 2) rfl) (fun w h => hts w (List.mem_cons_of_mem _ (List.mem_append_left _ (List.mem_append_right _ (h))))) cf_ng_ise cf_gd_ise hT hW hS (hl.1.trans hml.symm) dX5_seat_97 dX5_seat_100 dX5_seat_101 dX5_seat_103 dX5_seat_106 htab (by decide) hlocks (Or.inr (Or.inr ⟨rfl, hA, hB9, fun q => absurd (q gm hg hyg).1 (fun q => absurd (nI_lt q (by decide)) (Int32.not_lt.mpr c75_10))⟩)) (by decide)
            · have hn60 : ng < 60 := cf_lt_of (by omega) (by decide) (Int32.not_le.mp c75_10)
              refine lv_aloadN hx hb dX5_seat_78 (lv_at hl 2 rfl) ?_
              refine lv_ifnullN (tgt := 97) hx hb dX5_seat_80 (by decide) ?_
              exact cf_throw (text := "the group cannot be seated") hx hb hl0 hown (by decide +kernel) (hts (.classLink RX5 83 "java/lang/IllegalStateException") (List.mem_of_getElem? (i := 3) rfl)) (hts (.initialized "java/lang/IllegalStateException") (List.mem_of_getElem? (i := 4) rfl)) (List.mem_of_getElem? (i := 9) rfl) (List.mem_of_getElem? (i := 2) rfl) (fun w h => hts w (List.mem_cons_of_mem _ (List.mem_append_left _ (List.mem_append_right _ (h))))) cf_ng_ise cf_gd_ise hT hW hS (hl.1.trans hml.symm) dX5_seat_97 dX5_seat_100 dX5_seat_101 dX5_seat_103 dX5_seat_106 htab (by decide) hlocks (Or.inr (Or.inr ⟨rfl, hA, hB9, fun q => by obtain ⟨t, ht⟩ := (q gm hg hyg).2.1; rw [ht] at htb; cases htb⟩)) (by decide)
        · refine lv_null hx hb dX5_seat_58 ?_
          refine lv_goto (tgt := 67) hx hb dX5_seat_59 (by decide) ?_
          refine lv_astoreN (lv' := [(7, .null), (6, .null), (5, .null), (4, .ref (ad 1 gm)), (0, .ref (ad 5 0)), (1, .int x), (2, .int y), (3, .int b1)]) hx hb dX5_seat_67 hl (by decide) rfl (fun ls hl => ?_)
          refine lv_aload_n hx hb dX5_seat_69 rfl (lv_at hl 4 rfl) ?_
          refine cf_get (v := .int (nI ng)) (ci := 5) (C := RX5) (T := TX5) (N := 9) hx hb hts (fun _ h => List.mem_cons_of_mem _ (List.mem_append_left _ (List.mem_append_left _ (List.mem_append_left _ (List.mem_append_left _ (List.mem_append_left _ (List.mem_append_left _ (List.mem_append_left _ (List.mem_append_left _ (List.mem_append_right _ (h))))))))))) hown hT.1 hW cf_e5 rfl 7 (by decide) (hts (.fieldLink RX5 46 "GameCafe" "seated" "I") (List.mem_of_getElem? (i := 6) rfl)) (fun _ h9 => h9) (by rw [hst]; rfl) dX5_seat_70 ?_
          refine lv_bipush (v := 60) hx hb dX5_seat_73 (by decide) ?_
          refine lv_icmp_ge (tgt := 97) hx hb dX5_seat_75 (by decide) (fun c75_11 => ?_) (fun c75_11 => ?_)
          · exact cf_throw (text := "the group cannot be seated") hx hb hl0 hown (by decide +kernel) (hts (.classLink RX5 83 "java/lang/IllegalStateException") (List.mem_of_getElem? (i := 3) rfl)) (hts (.initialized "java/lang/IllegalStateException") (List.mem_of_getElem? (i := 4) rfl)) (List.mem_of_getElem? (i := 9) rfl) (List.mem_of_getElem? (i := 2) rfl) (fun w h => hts w (List.mem_cons_of_mem _ (List.mem_append_left _ (List.mem_append_right _ (h))))) cf_ng_ise cf_gd_ise hT hW hS (hl.1.trans hml.symm) dX5_seat_97 dX5_seat_100 dX5_seat_101 dX5_seat_103 dX5_seat_106 htab (by decide) hlocks (Or.inr (Or.inr ⟨rfl, hA, hB9, fun q => absurd (q gm hg hyg).1 (fun q => absurd (nI_lt q (by decide)) (Int32.not_lt.mpr c75_11))⟩)) (by decide)
          · have hn60 : ng < 60 := cf_lt_of (by omega) (by decide) (Int32.not_le.mp c75_11)
            refine lv_aloadN hx hb dX5_seat_78 (lv_at hl 2 rfl) ?_
            refine lv_ifnullN (tgt := 97) hx hb dX5_seat_80 (by decide) ?_
            exact cf_throw (text := "the group cannot be seated") hx hb hl0 hown (by decide +kernel) (hts (.classLink RX5 83 "java/lang/IllegalStateException") (List.mem_of_getElem? (i := 3) rfl)) (hts (.initialized "java/lang/IllegalStateException") (List.mem_of_getElem? (i := 4) rfl)) (List.mem_of_getElem? (i := 9) rfl) (List.mem_of_getElem? (i := 2) rfl) (fun w h => hts w (List.mem_cons_of_mem _ (List.mem_append_left _ (List.mem_append_right _ (h))))) cf_ng_ise cf_gd_ise hT hW hS (hl.1.trans hml.symm) dX5_seat_97 dX5_seat_100 dX5_seat_101 dX5_seat_103 dX5_seat_106 htab (by decide) hlocks (Or.inr (Or.inr ⟨rfl, hA, hB9, fun q => by obtain ⟨t, ht⟩ := (q gm hg hyg).2.1; rw [ht] at htb; cases htb⟩)) (by decide)
      · refine lv_astore (lv' := [(6, .ref (ad 0 c9)), (5, .null), (4, .ref (ad 1 gm)), (0, .ref (ad 5 0)), (1, .int x), (2, .int y), (3, .int b1)]) hx hb dX5_seat_52 hl (by decide) rfl (fun ls hl => ?_)
        refine lv_iload_n hx hb dX5_seat_54 rfl (lv_at hl 6 rfl) ?_
        refine lv_if_eq (tgt := 62) hx hb dX5_seat_55 (by decide) (fun c55_12 => ?_) (fun c55_12 => ?_)
        · refine lv_aload_n hx hb dX5_seat_62 rfl (lv_at hl 3 rfl) ?_
          refine lv_iload_n hx hb dX5_seat_63 rfl (lv_at hl 5 rfl) ?_
          refine va_callq (va_runV (As := [.int y]) (rest := []) ⟨hx, hb, hml, hown, hts⟩ (c_X5_freeTeacherOf l D cT z ad nc ng S P O hg y hyg) (cwV 1 hts gX5_seat_X5_freeTeacherOf rfl rfl rfl (by decide +kernel) ⟨Nat.le_of_ble_eq_true rfl, Nat.le_of_ble_eq_true rfl⟩) (cf_preV (T := TX5) (N := 9) hT hS hW cf_e5 rfl) rfl rfl hl.1 rfl (lv_room (Nat.le_of_ble_eq_true rfl)) dX5_seat_64 ⟨Nat.le_of_ble_eq_true rfl, Nat.le_of_ble_eq_true rfl⟩) hS (fun _ _ h => h) (fun _ h => h) (fun r13 ur13 t9 H locs ht hvm hw hW hz1 hk1 hS => ?_)
          have hW := cf_W.er ht hW
          obtain ⟨ub, hub, rfl⟩ := hw
          rcases ub with _ | u9
          · refine lv_astoreN (lv' := [(7, .null), (6, .ref (ad 0 c9)), (5, .null), (4, .ref (ad 1 gm)), (0, .ref (ad 5 0)), (1, .int x), (2, .int y), (3, .int b1)]) hx hb dX5_seat_67 hl (by decide) rfl (fun ls hl => ?_)
            refine lv_aload_n hx hb dX5_seat_69 rfl (lv_at hl 4 rfl) ?_
            refine cf_get (v := .int (nI ng)) (ci := 5) (C := RX5) (T := TX5) (N := 9) hx hb hts (fun _ h => List.mem_cons_of_mem _ (List.mem_append_left _ (List.mem_append_left _ (List.mem_append_left _ (List.mem_append_left _ (List.mem_append_left _ (List.mem_append_left _ (List.mem_append_left _ (List.mem_append_left _ (List.mem_append_right _ (h))))))))))) hown hT.1 hW cf_e5 rfl 7 (by decide) (hts (.fieldLink RX5 46 "GameCafe" "seated" "I") (List.mem_of_getElem? (i := 6) rfl)) (fun _ h9 => h9) (by rw [hst]; rfl) dX5_seat_70 ?_
            refine lv_bipush (v := 60) hx hb dX5_seat_73 (by decide) ?_
            refine lv_icmp_ge (tgt := 97) hx hb dX5_seat_75 (by decide) (fun c75_14 => ?_) (fun c75_14 => ?_)
            · exact cf_throw (text := "the group cannot be seated") hx hb hl0 hown (by decide +kernel) (hts (.classLink RX5 83 "java/lang/IllegalStateException") (List.mem_of_getElem? (i := 3) rfl)) (hts (.initialized "java/lang/IllegalStateException") (List.mem_of_getElem? (i := 4) rfl)) (List.mem_of_getElem? (i := 9) rfl) (List.mem_of_getElem? (i := 2) rfl) (fun w h => hts w (List.mem_cons_of_mem _ (List.mem_append_left _ (List.mem_append_right _ (h))))) cf_ng_ise cf_gd_ise hT hW hS (hl.1.trans hml.symm) dX5_seat_97 dX5_seat_100 dX5_seat_101 dX5_seat_103 dX5_seat_106 htab (by decide) hlocks (Or.inr (Or.inr ⟨rfl, hA, hB9, fun q => absurd (q gm hg hyg).1 (fun q => absurd (nI_lt q (by decide)) (Int32.not_lt.mpr c75_14))⟩)) (by decide)
            · have hn60 : ng < 60 := cf_lt_of (by omega) (by decide) (Int32.not_le.mp c75_14)
              refine lv_aloadN hx hb dX5_seat_78 (lv_at hl 2 rfl) ?_
              refine lv_ifnullN (tgt := 97) hx hb dX5_seat_80 (by decide) ?_
              exact cf_throw (text := "the group cannot be seated") hx hb hl0 hown (by decide +kernel) (hts (.classLink RX5 83 "java/lang/IllegalStateException") (List.mem_of_getElem? (i := 3) rfl)) (hts (.initialized "java/lang/IllegalStateException") (List.mem_of_getElem? (i := 4) rfl)) (List.mem_of_getElem? (i := 9) rfl) (List.mem_of_getElem? (i := 2) rfl) (fun w h => hts w (List.mem_cons_of_mem _ (List.mem_append_left _ (List.mem_append_right _ (h))))) cf_ng_ise cf_gd_ise hT hW hS (hl.1.trans hml.symm) dX5_seat_97 dX5_seat_100 dX5_seat_101 dX5_seat_103 dX5_seat_106 htab (by decide) hlocks (Or.inr (Or.inr ⟨rfl, hA, hB9, fun q => by obtain ⟨t, ht⟩ := (q gm hg hyg).2.1; rw [ht] at htb; cases htb⟩)) (by decide)
          · refine lv_astore (lv' := [(7, .ref (ad 4 u9)), (6, .ref (ad 0 c9)), (5, .null), (4, .ref (ad 1 gm)), (0, .ref (ad 5 0)), (1, .int x), (2, .int y), (3, .int b1)]) hx hb dX5_seat_67 hl (by decide) rfl (fun ls hl => ?_)
            refine lv_aload_n hx hb dX5_seat_69 rfl (lv_at hl 4 rfl) ?_
            refine cf_get (v := .int (nI ng)) (ci := 5) (C := RX5) (T := TX5) (N := 9) hx hb hts (fun _ h => List.mem_cons_of_mem _ (List.mem_append_left _ (List.mem_append_left _ (List.mem_append_left _ (List.mem_append_left _ (List.mem_append_left _ (List.mem_append_left _ (List.mem_append_left _ (List.mem_append_left _ (List.mem_append_right _ (h))))))))))) hown hT.1 hW cf_e5 rfl 7 (by decide) (hts (.fieldLink RX5 46 "GameCafe" "seated" "I") (List.mem_of_getElem? (i := 6) rfl)) (fun _ h9 => h9) (by rw [hst]; rfl) dX5_seat_70 ?_
            refine lv_bipush (v := 60) hx hb dX5_seat_73 (by decide) ?_
            refine lv_icmp_ge (tgt := 97) hx hb dX5_seat_75 (by decide) (fun c75_15 => ?_) (fun c75_15 => ?_)
            · exact cf_throw (text := "the group cannot be seated") hx hb hl0 hown (by decide +kernel) (hts (.classLink RX5 83 "java/lang/IllegalStateException") (List.mem_of_getElem? (i := 3) rfl)) (hts (.initialized "java/lang/IllegalStateException") (List.mem_of_getElem? (i := 4) rfl)) (List.mem_of_getElem? (i := 9) rfl) (List.mem_of_getElem? (i := 2) rfl) (fun w h => hts w (List.mem_cons_of_mem _ (List.mem_append_left _ (List.mem_append_right _ (h))))) cf_ng_ise cf_gd_ise hT hW hS (hl.1.trans hml.symm) dX5_seat_97 dX5_seat_100 dX5_seat_101 dX5_seat_103 dX5_seat_106 htab (by decide) hlocks (Or.inr (Or.inr ⟨rfl, hA, hB9, fun q => absurd (q gm hg hyg).1 (fun q => absurd (nI_lt q (by decide)) (Int32.not_lt.mpr c75_15))⟩)) (by decide)
            · have hn60 : ng < 60 := cf_lt_of (by omega) (by decide) (Int32.not_le.mp c75_15)
              refine lv_aloadN hx hb dX5_seat_78 (lv_at hl 2 rfl) ?_
              refine lv_ifnullN (tgt := 97) hx hb dX5_seat_80 (by decide) ?_
              exact cf_throw (text := "the group cannot be seated") hx hb hl0 hown (by decide +kernel) (hts (.classLink RX5 83 "java/lang/IllegalStateException") (List.mem_of_getElem? (i := 3) rfl)) (hts (.initialized "java/lang/IllegalStateException") (List.mem_of_getElem? (i := 4) rfl)) (List.mem_of_getElem? (i := 9) rfl) (List.mem_of_getElem? (i := 2) rfl) (fun w h => hts w (List.mem_cons_of_mem _ (List.mem_append_left _ (List.mem_append_right _ (h))))) cf_ng_ise cf_gd_ise hT hW hS (hl.1.trans hml.symm) dX5_seat_97 dX5_seat_100 dX5_seat_101 dX5_seat_103 dX5_seat_106 htab (by decide) hlocks (Or.inr (Or.inr ⟨rfl, hA, hB9, fun q => by obtain ⟨t, ht⟩ := (q gm hg hyg).2.1; rw [ht] at htb; cases htb⟩)) (by decide)
        · refine lv_null hx hb dX5_seat_58 ?_
          refine lv_goto (tgt := 67) hx hb dX5_seat_59 (by decide) ?_
          refine lv_astoreN (lv' := [(7, .null), (6, .ref (ad 0 c9)), (5, .null), (4, .ref (ad 1 gm)), (0, .ref (ad 5 0)), (1, .int x), (2, .int y), (3, .int b1)]) hx hb dX5_seat_67 hl (by decide) rfl (fun ls hl => ?_)
          refine lv_aload_n hx hb dX5_seat_69 rfl (lv_at hl 4 rfl) ?_
          refine cf_get (v := .int (nI ng)) (ci := 5) (C := RX5) (T := TX5) (N := 9) hx hb hts (fun _ h => List.mem_cons_of_mem _ (List.mem_append_left _ (List.mem_append_left _ (List.mem_append_left _ (List.mem_append_left _ (List.mem_append_left _ (List.mem_append_left _ (List.mem_append_left _ (List.mem_append_left _ (List.mem_append_right _ (h))))))))))) hown hT.1 hW cf_e5 rfl 7 (by decide) (hts (.fieldLink RX5 46 "GameCafe" "seated" "I") (List.mem_of_getElem? (i := 6) rfl)) (fun _ h9 => h9) (by rw [hst]; rfl) dX5_seat_70 ?_
          refine lv_bipush (v := 60) hx hb dX5_seat_73 (by decide) ?_
          refine lv_icmp_ge (tgt := 97) hx hb dX5_seat_75 (by decide) (fun c75_16 => ?_) (fun c75_16 => ?_)
          · exact cf_throw (text := "the group cannot be seated") hx hb hl0 hown (by decide +kernel) (hts (.classLink RX5 83 "java/lang/IllegalStateException") (List.mem_of_getElem? (i := 3) rfl)) (hts (.initialized "java/lang/IllegalStateException") (List.mem_of_getElem? (i := 4) rfl)) (List.mem_of_getElem? (i := 9) rfl) (List.mem_of_getElem? (i := 2) rfl) (fun w h => hts w (List.mem_cons_of_mem _ (List.mem_append_left _ (List.mem_append_right _ (h))))) cf_ng_ise cf_gd_ise hT hW hS (hl.1.trans hml.symm) dX5_seat_97 dX5_seat_100 dX5_seat_101 dX5_seat_103 dX5_seat_106 htab (by decide) hlocks (Or.inr (Or.inr ⟨rfl, hA, hB9, fun q => absurd (q gm hg hyg).1 (fun q => absurd (nI_lt q (by decide)) (Int32.not_lt.mpr c75_16))⟩)) (by decide)
          · have hn60 : ng < 60 := cf_lt_of (by omega) (by decide) (Int32.not_le.mp c75_16)
            refine lv_aloadN hx hb dX5_seat_78 (lv_at hl 2 rfl) ?_
            refine lv_ifnullN (tgt := 97) hx hb dX5_seat_80 (by decide) ?_
            exact cf_throw (text := "the group cannot be seated") hx hb hl0 hown (by decide +kernel) (hts (.classLink RX5 83 "java/lang/IllegalStateException") (List.mem_of_getElem? (i := 3) rfl)) (hts (.initialized "java/lang/IllegalStateException") (List.mem_of_getElem? (i := 4) rfl)) (List.mem_of_getElem? (i := 9) rfl) (List.mem_of_getElem? (i := 2) rfl) (fun w h => hts w (List.mem_cons_of_mem _ (List.mem_append_left _ (List.mem_append_right _ (h))))) cf_ng_ise cf_gd_ise hT hW hS (hl.1.trans hml.symm) dX5_seat_97 dX5_seat_100 dX5_seat_101 dX5_seat_103 dX5_seat_106 htab (by decide) hlocks (Or.inr (Or.inr ⟨rfl, hA, hB9, fun q => by obtain ⟨t, ht⟩ := (q gm hg hyg).2.1; rw [ht] at htb; cases htb⟩)) (by decide)
    · refine lv_astore (lv' := [(5, .ref (ad 3 t)), (4, .ref (ad 1 gm)), (0, .ref (ad 5 0)), (1, .int x), (2, .int y), (3, .int b1)]) hx hb dX5_seat_44 hl (by decide) rfl (fun ls hl => ?_)
      refine lv_aload_n hx hb dX5_seat_46 rfl (lv_at hl 2 rfl) ?_
      refine lv_aload hx hb dX5_seat_47 (lv_at hl 1 rfl) ?_
      refine va_callq (va_runV (As := [.ref (ad 1 gm)]) (rest := []) ⟨hx, hb, hml, hown, hts⟩ (c_X5_playableCopyOf l D cT z ad nc ng S P O hg (fun j _ => hO2 j) hG) (cwV 1 hts gX5_seat_X5_playableCopyOf rfl rfl rfl (by decide +kernel) ⟨Nat.le_of_ble_eq_true rfl, Nat.le_of_ble_eq_true rfl⟩) (cf_preV (T := TX5) (N := 9) hT hS hW cf_e5 rfl) rfl rfl hl.1 rfl (lv_room (Nat.le_of_ble_eq_true rfl)) dX5_seat_49 ⟨Nat.le_of_ble_eq_true rfl, Nat.le_of_ble_eq_true rfl⟩) hS (fun _ _ h => h) (fun _ h => h) (fun r17 ur17 t9 H locs ht hvm hw hW hz1 hk1 hS => ?_)
      have hW := cf_W.er ht hW
      obtain ⟨cb, hcb, rfl⟩ := hw
      rcases cb with _ | c9
      · refine lv_astoreN (lv' := [(6, .null), (5, .ref (ad 3 t)), (4, .ref (ad 1 gm)), (0, .ref (ad 5 0)), (1, .int x), (2, .int y), (3, .int b1)]) hx hb dX5_seat_52 hl (by decide) rfl (fun ls hl => ?_)
        refine lv_iload_n hx hb dX5_seat_54 rfl (lv_at hl 6 rfl) ?_
        refine lv_if_eq (tgt := 62) hx hb dX5_seat_55 (by decide) (fun c55_18 => ?_) (fun c55_18 => ?_)
        · refine lv_aload_n hx hb dX5_seat_62 rfl (lv_at hl 3 rfl) ?_
          refine lv_iload_n hx hb dX5_seat_63 rfl (lv_at hl 5 rfl) ?_
          refine va_callq (va_runV (As := [.int y]) (rest := []) ⟨hx, hb, hml, hown, hts⟩ (c_X5_freeTeacherOf l D cT z ad nc ng S P O hg y hyg) (cwV 1 hts gX5_seat_X5_freeTeacherOf rfl rfl rfl (by decide +kernel) ⟨Nat.le_of_ble_eq_true rfl, Nat.le_of_ble_eq_true rfl⟩) (cf_preV (T := TX5) (N := 9) hT hS hW cf_e5 rfl) rfl rfl hl.1 rfl (lv_room (Nat.le_of_ble_eq_true rfl)) dX5_seat_64 ⟨Nat.le_of_ble_eq_true rfl, Nat.le_of_ble_eq_true rfl⟩) hS (fun _ _ h => h) (fun _ h => h) (fun r19 ur19 t9 H locs ht hvm hw hW hz1 hk1 hS => ?_)
          have hW := cf_W.er ht hW
          obtain ⟨ub, hub, rfl⟩ := hw
          rcases ub with _ | u9
          · refine lv_astoreN (lv' := [(7, .null), (6, .null), (5, .ref (ad 3 t)), (4, .ref (ad 1 gm)), (0, .ref (ad 5 0)), (1, .int x), (2, .int y), (3, .int b1)]) hx hb dX5_seat_67 hl (by decide) rfl (fun ls hl => ?_)
            refine lv_aload_n hx hb dX5_seat_69 rfl (lv_at hl 4 rfl) ?_
            refine cf_get (v := .int (nI ng)) (ci := 5) (C := RX5) (T := TX5) (N := 9) hx hb hts (fun _ h => List.mem_cons_of_mem _ (List.mem_append_left _ (List.mem_append_left _ (List.mem_append_left _ (List.mem_append_left _ (List.mem_append_left _ (List.mem_append_left _ (List.mem_append_left _ (List.mem_append_left _ (List.mem_append_right _ (h))))))))))) hown hT.1 hW cf_e5 rfl 7 (by decide) (hts (.fieldLink RX5 46 "GameCafe" "seated" "I") (List.mem_of_getElem? (i := 6) rfl)) (fun _ h9 => h9) (by rw [hst]; rfl) dX5_seat_70 ?_
            refine lv_bipush (v := 60) hx hb dX5_seat_73 (by decide) ?_
            refine lv_icmp_ge (tgt := 97) hx hb dX5_seat_75 (by decide) (fun c75_20 => ?_) (fun c75_20 => ?_)
            · exact cf_throw (text := "the group cannot be seated") hx hb hl0 hown (by decide +kernel) (hts (.classLink RX5 83 "java/lang/IllegalStateException") (List.mem_of_getElem? (i := 3) rfl)) (hts (.initialized "java/lang/IllegalStateException") (List.mem_of_getElem? (i := 4) rfl)) (List.mem_of_getElem? (i := 9) rfl) (List.mem_of_getElem? (i := 2) rfl) (fun w h => hts w (List.mem_cons_of_mem _ (List.mem_append_left _ (List.mem_append_right _ (h))))) cf_ng_ise cf_gd_ise hT hW hS (hl.1.trans hml.symm) dX5_seat_97 dX5_seat_100 dX5_seat_101 dX5_seat_103 dX5_seat_106 htab (by decide) hlocks (Or.inr (Or.inr ⟨rfl, hA, hB9, fun q => absurd (q gm hg hyg).1 (fun q => absurd (nI_lt q (by decide)) (Int32.not_lt.mpr c75_20))⟩)) (by decide)
            · have hn60 : ng < 60 := cf_lt_of (by omega) (by decide) (Int32.not_le.mp c75_20)
              refine lv_aload hx hb dX5_seat_78 (lv_at hl 2 rfl) ?_
              refine lv_ifnull hx hb dX5_seat_80 ?_
              refine lv_aloadN hx hb dX5_seat_83 (lv_at hl 1 rfl) ?_
              refine lv_ifnullN (tgt := 97) hx hb dX5_seat_85 (by decide) ?_
              exact cf_throw (text := "the group cannot be seated") hx hb hl0 hown (by decide +kernel) (hts (.classLink RX5 83 "java/lang/IllegalStateException") (List.mem_of_getElem? (i := 3) rfl)) (hts (.initialized "java/lang/IllegalStateException") (List.mem_of_getElem? (i := 4) rfl)) (List.mem_of_getElem? (i := 9) rfl) (List.mem_of_getElem? (i := 2) rfl) (fun w h => hts w (List.mem_cons_of_mem _ (List.mem_append_left _ (List.mem_append_right _ (h))))) cf_ng_ise cf_gd_ise hT hW hS (hl.1.trans hml.symm) dX5_seat_97 dX5_seat_100 dX5_seat_101 dX5_seat_103 dX5_seat_106 htab (by decide) hlocks (Or.inr (Or.inr ⟨rfl, hA, hB9, fun q => by obtain ⟨u, hu⟩ := (q gm hg hyg).2.2.1; cases cf_fst_one hcb hu⟩)) (by decide)
          · refine lv_astore (lv' := [(7, .ref (ad 4 u9)), (6, .null), (5, .ref (ad 3 t)), (4, .ref (ad 1 gm)), (0, .ref (ad 5 0)), (1, .int x), (2, .int y), (3, .int b1)]) hx hb dX5_seat_67 hl (by decide) rfl (fun ls hl => ?_)
            refine lv_aload_n hx hb dX5_seat_69 rfl (lv_at hl 4 rfl) ?_
            refine cf_get (v := .int (nI ng)) (ci := 5) (C := RX5) (T := TX5) (N := 9) hx hb hts (fun _ h => List.mem_cons_of_mem _ (List.mem_append_left _ (List.mem_append_left _ (List.mem_append_left _ (List.mem_append_left _ (List.mem_append_left _ (List.mem_append_left _ (List.mem_append_left _ (List.mem_append_left _ (List.mem_append_right _ (h))))))))))) hown hT.1 hW cf_e5 rfl 7 (by decide) (hts (.fieldLink RX5 46 "GameCafe" "seated" "I") (List.mem_of_getElem? (i := 6) rfl)) (fun _ h9 => h9) (by rw [hst]; rfl) dX5_seat_70 ?_
            refine lv_bipush (v := 60) hx hb dX5_seat_73 (by decide) ?_
            refine lv_icmp_ge (tgt := 97) hx hb dX5_seat_75 (by decide) (fun c75_21 => ?_) (fun c75_21 => ?_)
            · exact cf_throw (text := "the group cannot be seated") hx hb hl0 hown (by decide +kernel) (hts (.classLink RX5 83 "java/lang/IllegalStateException") (List.mem_of_getElem? (i := 3) rfl)) (hts (.initialized "java/lang/IllegalStateException") (List.mem_of_getElem? (i := 4) rfl)) (List.mem_of_getElem? (i := 9) rfl) (List.mem_of_getElem? (i := 2) rfl) (fun w h => hts w (List.mem_cons_of_mem _ (List.mem_append_left _ (List.mem_append_right _ (h))))) cf_ng_ise cf_gd_ise hT hW hS (hl.1.trans hml.symm) dX5_seat_97 dX5_seat_100 dX5_seat_101 dX5_seat_103 dX5_seat_106 htab (by decide) hlocks (Or.inr (Or.inr ⟨rfl, hA, hB9, fun q => absurd (q gm hg hyg).1 (fun q => absurd (nI_lt q (by decide)) (Int32.not_lt.mpr c75_21))⟩)) (by decide)
            · have hn60 : ng < 60 := cf_lt_of (by omega) (by decide) (Int32.not_le.mp c75_21)
              refine lv_aload hx hb dX5_seat_78 (lv_at hl 2 rfl) ?_
              refine lv_ifnull hx hb dX5_seat_80 ?_
              refine lv_aloadN hx hb dX5_seat_83 (lv_at hl 1 rfl) ?_
              refine lv_ifnullN (tgt := 97) hx hb dX5_seat_85 (by decide) ?_
              exact cf_throw (text := "the group cannot be seated") hx hb hl0 hown (by decide +kernel) (hts (.classLink RX5 83 "java/lang/IllegalStateException") (List.mem_of_getElem? (i := 3) rfl)) (hts (.initialized "java/lang/IllegalStateException") (List.mem_of_getElem? (i := 4) rfl)) (List.mem_of_getElem? (i := 9) rfl) (List.mem_of_getElem? (i := 2) rfl) (fun w h => hts w (List.mem_cons_of_mem _ (List.mem_append_left _ (List.mem_append_right _ (h))))) cf_ng_ise cf_gd_ise hT hW hS (hl.1.trans hml.symm) dX5_seat_97 dX5_seat_100 dX5_seat_101 dX5_seat_103 dX5_seat_106 htab (by decide) hlocks (Or.inr (Or.inr ⟨rfl, hA, hB9, fun q => by obtain ⟨u, hu⟩ := (q gm hg hyg).2.2.1; cases cf_fst_one hcb hu⟩)) (by decide)
        · refine lv_null hx hb dX5_seat_58 ?_
          refine lv_goto (tgt := 67) hx hb dX5_seat_59 (by decide) ?_
          refine lv_astoreN (lv' := [(7, .null), (6, .null), (5, .ref (ad 3 t)), (4, .ref (ad 1 gm)), (0, .ref (ad 5 0)), (1, .int x), (2, .int y), (3, .int b1)]) hx hb dX5_seat_67 hl (by decide) rfl (fun ls hl => ?_)
          refine lv_aload_n hx hb dX5_seat_69 rfl (lv_at hl 4 rfl) ?_
          refine cf_get (v := .int (nI ng)) (ci := 5) (C := RX5) (T := TX5) (N := 9) hx hb hts (fun _ h => List.mem_cons_of_mem _ (List.mem_append_left _ (List.mem_append_left _ (List.mem_append_left _ (List.mem_append_left _ (List.mem_append_left _ (List.mem_append_left _ (List.mem_append_left _ (List.mem_append_left _ (List.mem_append_right _ (h))))))))))) hown hT.1 hW cf_e5 rfl 7 (by decide) (hts (.fieldLink RX5 46 "GameCafe" "seated" "I") (List.mem_of_getElem? (i := 6) rfl)) (fun _ h9 => h9) (by rw [hst]; rfl) dX5_seat_70 ?_
          refine lv_bipush (v := 60) hx hb dX5_seat_73 (by decide) ?_
          refine lv_icmp_ge (tgt := 97) hx hb dX5_seat_75 (by decide) (fun c75_22 => ?_) (fun c75_22 => ?_)
          · exact cf_throw (text := "the group cannot be seated") hx hb hl0 hown (by decide +kernel) (hts (.classLink RX5 83 "java/lang/IllegalStateException") (List.mem_of_getElem? (i := 3) rfl)) (hts (.initialized "java/lang/IllegalStateException") (List.mem_of_getElem? (i := 4) rfl)) (List.mem_of_getElem? (i := 9) rfl) (List.mem_of_getElem? (i := 2) rfl) (fun w h => hts w (List.mem_cons_of_mem _ (List.mem_append_left _ (List.mem_append_right _ (h))))) cf_ng_ise cf_gd_ise hT hW hS (hl.1.trans hml.symm) dX5_seat_97 dX5_seat_100 dX5_seat_101 dX5_seat_103 dX5_seat_106 htab (by decide) hlocks (Or.inr (Or.inr ⟨rfl, hA, hB9, fun q => absurd (q gm hg hyg).1 (fun q => absurd (nI_lt q (by decide)) (Int32.not_lt.mpr c75_22))⟩)) (by decide)
          · have hn60 : ng < 60 := cf_lt_of (by omega) (by decide) (Int32.not_le.mp c75_22)
            refine lv_aload hx hb dX5_seat_78 (lv_at hl 2 rfl) ?_
            refine lv_ifnull hx hb dX5_seat_80 ?_
            refine lv_aloadN hx hb dX5_seat_83 (lv_at hl 1 rfl) ?_
            refine lv_ifnullN (tgt := 97) hx hb dX5_seat_85 (by decide) ?_
            exact cf_throw (text := "the group cannot be seated") hx hb hl0 hown (by decide +kernel) (hts (.classLink RX5 83 "java/lang/IllegalStateException") (List.mem_of_getElem? (i := 3) rfl)) (hts (.initialized "java/lang/IllegalStateException") (List.mem_of_getElem? (i := 4) rfl)) (List.mem_of_getElem? (i := 9) rfl) (List.mem_of_getElem? (i := 2) rfl) (fun w h => hts w (List.mem_cons_of_mem _ (List.mem_append_left _ (List.mem_append_right _ (h))))) cf_ng_ise cf_gd_ise hT hW hS (hl.1.trans hml.symm) dX5_seat_97 dX5_seat_100 dX5_seat_101 dX5_seat_103 dX5_seat_106 htab (by decide) hlocks (Or.inr (Or.inr ⟨rfl, hA, hB9, fun q => by obtain ⟨u, hu⟩ := (q gm hg hyg).2.2.1; cases cf_fst_one hcb hu⟩)) (by decide)
      · refine lv_astore (lv' := [(6, .ref (ad 0 c9)), (5, .ref (ad 3 t)), (4, .ref (ad 1 gm)), (0, .ref (ad 5 0)), (1, .int x), (2, .int y), (3, .int b1)]) hx hb dX5_seat_52 hl (by decide) rfl (fun ls hl => ?_)
        refine lv_iload_n hx hb dX5_seat_54 rfl (lv_at hl 6 rfl) ?_
        refine lv_if_eq (tgt := 62) hx hb dX5_seat_55 (by decide) (fun c55_23 => ?_) (fun c55_23 => ?_)
        · refine lv_aload_n hx hb dX5_seat_62 rfl (lv_at hl 3 rfl) ?_
          refine lv_iload_n hx hb dX5_seat_63 rfl (lv_at hl 5 rfl) ?_
          refine va_callq (va_runV (As := [.int y]) (rest := []) ⟨hx, hb, hml, hown, hts⟩ (c_X5_freeTeacherOf l D cT z ad nc ng S P O hg y hyg) (cwV 1 hts gX5_seat_X5_freeTeacherOf rfl rfl rfl (by decide +kernel) ⟨Nat.le_of_ble_eq_true rfl, Nat.le_of_ble_eq_true rfl⟩) (cf_preV (T := TX5) (N := 9) hT hS hW cf_e5 rfl) rfl rfl hl.1 rfl (lv_room (Nat.le_of_ble_eq_true rfl)) dX5_seat_64 ⟨Nat.le_of_ble_eq_true rfl, Nat.le_of_ble_eq_true rfl⟩) hS (fun _ _ h => h) (fun _ h => h) (fun r24 ur24 t9 H locs ht hvm hw hW hz1 hk1 hS => ?_)
          have hW := cf_W.er ht hW
          obtain ⟨ub, hub, rfl⟩ := hw
          rcases ub with _ | u9
          · refine lv_astoreN (lv' := [(7, .null), (6, .ref (ad 0 c9)), (5, .ref (ad 3 t)), (4, .ref (ad 1 gm)), (0, .ref (ad 5 0)), (1, .int x), (2, .int y), (3, .int b1)]) hx hb dX5_seat_67 hl (by decide) rfl (fun ls hl => ?_)
            refine lv_aload_n hx hb dX5_seat_69 rfl (lv_at hl 4 rfl) ?_
            refine cf_get (v := .int (nI ng)) (ci := 5) (C := RX5) (T := TX5) (N := 9) hx hb hts (fun _ h => List.mem_cons_of_mem _ (List.mem_append_left _ (List.mem_append_left _ (List.mem_append_left _ (List.mem_append_left _ (List.mem_append_left _ (List.mem_append_left _ (List.mem_append_left _ (List.mem_append_left _ (List.mem_append_right _ (h))))))))))) hown hT.1 hW cf_e5 rfl 7 (by decide) (hts (.fieldLink RX5 46 "GameCafe" "seated" "I") (List.mem_of_getElem? (i := 6) rfl)) (fun _ h9 => h9) (by rw [hst]; rfl) dX5_seat_70 ?_
            refine lv_bipush (v := 60) hx hb dX5_seat_73 (by decide) ?_
            refine lv_icmp_ge (tgt := 97) hx hb dX5_seat_75 (by decide) (fun c75_25 => ?_) (fun c75_25 => ?_)
            · exact cf_throw (text := "the group cannot be seated") hx hb hl0 hown (by decide +kernel) (hts (.classLink RX5 83 "java/lang/IllegalStateException") (List.mem_of_getElem? (i := 3) rfl)) (hts (.initialized "java/lang/IllegalStateException") (List.mem_of_getElem? (i := 4) rfl)) (List.mem_of_getElem? (i := 9) rfl) (List.mem_of_getElem? (i := 2) rfl) (fun w h => hts w (List.mem_cons_of_mem _ (List.mem_append_left _ (List.mem_append_right _ (h))))) cf_ng_ise cf_gd_ise hT hW hS (hl.1.trans hml.symm) dX5_seat_97 dX5_seat_100 dX5_seat_101 dX5_seat_103 dX5_seat_106 htab (by decide) hlocks (Or.inr (Or.inr ⟨rfl, hA, hB9, fun q => absurd (q gm hg hyg).1 (fun q => absurd (nI_lt q (by decide)) (Int32.not_lt.mpr c75_25))⟩)) (by decide)
            · have hn60 : ng < 60 := cf_lt_of (by omega) (by decide) (Int32.not_le.mp c75_25)
              refine lv_aload hx hb dX5_seat_78 (lv_at hl 2 rfl) ?_
              refine lv_ifnull hx hb dX5_seat_80 ?_
              refine lv_aload hx hb dX5_seat_83 (lv_at hl 1 rfl) ?_
              refine lv_ifnull hx hb dX5_seat_85 ?_
              refine lv_iload_n hx hb dX5_seat_88 rfl (lv_at hl 7 rfl) ?_
              refine lv_if_ne (tgt := 107) hx hb dX5_seat_89 (by decide) (fun c89_26 => (by first | exact absurd c89_26 c55_23 | exact absurd c55_23 c89_26)) (fun c89_26 => ?_)
              refine lv_aloadN hx hb dX5_seat_92 (lv_at hl 0 rfl) ?_
              refine lv_ifnonnullN hx hb dX5_seat_94 ?_
              exact cf_throw (text := "the group cannot be seated") hx hb hl0 hown (by decide +kernel) (hts (.classLink RX5 83 "java/lang/IllegalStateException") (List.mem_of_getElem? (i := 3) rfl)) (hts (.initialized "java/lang/IllegalStateException") (List.mem_of_getElem? (i := 4) rfl)) (List.mem_of_getElem? (i := 9) rfl) (List.mem_of_getElem? (i := 2) rfl) (fun w h => hts w (List.mem_cons_of_mem _ (List.mem_append_left _ (List.mem_append_right _ (h))))) cf_ng_ise cf_gd_ise hT hW hS (hl.1.trans hml.symm) dX5_seat_97 dX5_seat_100 dX5_seat_101 dX5_seat_103 dX5_seat_106 htab (by decide) hlocks (Or.inr (Or.inr ⟨rfl, hA, hB9, fun q => by obtain ⟨u, hu⟩ := (q gm hg hyg).2.2.2 c55_23; cases cf_fst_one hub hu⟩)) (by decide)
          · refine lv_astore (lv' := [(7, .ref (ad 4 u9)), (6, .ref (ad 0 c9)), (5, .ref (ad 3 t)), (4, .ref (ad 1 gm)), (0, .ref (ad 5 0)), (1, .int x), (2, .int y), (3, .int b1)]) hx hb dX5_seat_67 hl (by decide) rfl (fun ls hl => ?_)
            refine lv_aload_n hx hb dX5_seat_69 rfl (lv_at hl 4 rfl) ?_
            refine cf_get (v := .int (nI ng)) (ci := 5) (C := RX5) (T := TX5) (N := 9) hx hb hts (fun _ h => List.mem_cons_of_mem _ (List.mem_append_left _ (List.mem_append_left _ (List.mem_append_left _ (List.mem_append_left _ (List.mem_append_left _ (List.mem_append_left _ (List.mem_append_left _ (List.mem_append_left _ (List.mem_append_right _ (h))))))))))) hown hT.1 hW cf_e5 rfl 7 (by decide) (hts (.fieldLink RX5 46 "GameCafe" "seated" "I") (List.mem_of_getElem? (i := 6) rfl)) (fun _ h9 => h9) (by rw [hst]; rfl) dX5_seat_70 ?_
            refine lv_bipush (v := 60) hx hb dX5_seat_73 (by decide) ?_
            refine lv_icmp_ge (tgt := 97) hx hb dX5_seat_75 (by decide) (fun c75_27 => ?_) (fun c75_27 => ?_)
            · exact cf_throw (text := "the group cannot be seated") hx hb hl0 hown (by decide +kernel) (hts (.classLink RX5 83 "java/lang/IllegalStateException") (List.mem_of_getElem? (i := 3) rfl)) (hts (.initialized "java/lang/IllegalStateException") (List.mem_of_getElem? (i := 4) rfl)) (List.mem_of_getElem? (i := 9) rfl) (List.mem_of_getElem? (i := 2) rfl) (fun w h => hts w (List.mem_cons_of_mem _ (List.mem_append_left _ (List.mem_append_right _ (h))))) cf_ng_ise cf_gd_ise hT hW hS (hl.1.trans hml.symm) dX5_seat_97 dX5_seat_100 dX5_seat_101 dX5_seat_103 dX5_seat_106 htab (by decide) hlocks (Or.inr (Or.inr ⟨rfl, hA, hB9, fun q => absurd (q gm hg hyg).1 (fun q => absurd (nI_lt q (by decide)) (Int32.not_lt.mpr c75_27))⟩)) (by decide)
            · have hn60 : ng < 60 := cf_lt_of (by omega) (by decide) (Int32.not_le.mp c75_27)
              refine lv_aload hx hb dX5_seat_78 (lv_at hl 2 rfl) ?_
              refine lv_ifnull hx hb dX5_seat_80 ?_
              refine lv_aload hx hb dX5_seat_83 (lv_at hl 1 rfl) ?_
              refine lv_ifnull hx hb dX5_seat_85 ?_
              refine lv_iload_n hx hb dX5_seat_88 rfl (lv_at hl 7 rfl) ?_
              refine lv_if_ne (tgt := 107) hx hb dX5_seat_89 (by decide) (fun c89_28 => (by first | exact absurd c89_28 c55_23 | exact absurd c55_23 c89_28)) (fun c89_28 => ?_)
              refine lv_aload hx hb dX5_seat_92 (lv_at hl 0 rfl) ?_
              refine lv_ifnonnull (tgt := 107) hx hb dX5_seat_94 (by decide) ?_
              have ht6 : t < 6 := (cf_best_in htb.symm).1
              have hc15 : c9 < nc := (cf_fst_so hcb).2.1
              have hu3 : u9 < 3 := (cf_fst_so hub).1
              refine lv_aload hx hb dX5_seat_107 (lv_at hl 0 rfl) ?_
              refine lv_ifnull hx hb dX5_seat_109 ?_
              refine lv_aload hx hb dX5_seat_112 (lv_at hl 0 rfl) ?_
              refine lv_aload_n hx hb dX5_seat_114 rfl (lv_at hl 4 rfl) ?_
              refine cf_get (v := .int (S 5 0 2)) (ci := 5) (C := RX5) (T := TX5) (N := 9) hx hb hts (fun _ h => List.mem_cons_of_mem _ (List.mem_append_left _ (List.mem_append_left _ (List.mem_append_left _ (List.mem_append_left _ (List.mem_append_left _ (List.mem_append_left _ (List.mem_append_left _ (List.mem_append_left _ (List.mem_append_right _ (h))))))))))) hown hT.1 hW cf_e5 rfl 8 (by decide) (hts (.fieldLink RX5 49 "GameCafe" "now" "I") (List.mem_of_getElem? (i := 7) rfl)) (fun _ h9 => h9) rfl dX5_seat_115 ?_
              refine lv_aload hx hb dX5_seat_118 (lv_at hl 3 rfl) ?_
              refine cf_get (v := .int (S 1 gm 2)) (ci := 1) (C := RX1) (T := TX1) (N := 6) hx hb hts (fun _ h => List.mem_cons_of_mem _ (List.mem_append_left _ (List.mem_append_left _ (List.mem_append_left _ (List.mem_append_left _ (List.mem_append_left _ (List.mem_append_left _ (List.mem_append_left _ (List.mem_append_right _ (h)))))))))) hown hT.1 hW (cf_e1 hg) rfl 2 (by decide) (hts (.fieldLink RX5 70 "GameCafe$Game" "lesson" "I") (List.mem_of_getElem? (i := 8) rfl)) (fun _ h9 => h9) rfl dX5_seat_120 ?_
              refine lv_iadd hx hb dX5_seat_123 ?_
              refine cf_putE (v := .int ((S 5 0 2) + (S 1 gm 2))) (ty := .int) (ci := 4) (C := RX4) (T := TX4) (N := 2) hx hb hts (fun _ h => List.mem_cons_of_mem _ (List.mem_append_left _ (List.mem_append_left _ (List.mem_append_left _ (List.mem_append_left _ (List.mem_append_left _ (List.mem_append_left _ (List.mem_append_right _ (h))))))))) tyX4 tyX4_ok nmX4 hown hT.1 hW hS (cf_e4 hu3) rfl 1 (by decide) (hts (.fieldLink RX5 149 "GameCafe$Teacher" "busyUntil" "I") (List.mem_of_getElem? (i := 9) rfl)) (fun _ h9 => h9) rfl (by decide +kernel) rfl rfl (Nat.le_of_ble_eq_true rfl) dX5_seat_124 (E2 := (cf_E cT nc ng (cf_s3 S 4 u9 0 ((S 5 0 2) + (S 1 gm 2))) P O ad)) (cf_upS 4 u9 (upd (S 4 u9) 0 ((S 5 0 2) + (S 1 gm 2))) (cf_c4 hu3)) (fun H locs hW hS => ?_)
              refine lv_aload_n hx hb dX5_seat_127 rfl (lv_at hl 4 rfl) ?_
              refine cf_get (v := .int (nI ng)) (ci := 5) (C := RX5) (T := TX5) (N := 9) hx hb hts (fun _ h => List.mem_cons_of_mem _ (List.mem_append_left _ (List.mem_append_left _ (List.mem_append_left _ (List.mem_append_left _ (List.mem_append_left _ (List.mem_append_left _ (List.mem_append_left _ (List.mem_append_left _ (List.mem_append_right _ (h))))))))))) hown hT.1 hW cf_e5 rfl 7 (by decide) (hts (.fieldLink RX5 46 "GameCafe" "seated" "I") (List.mem_of_getElem? (i := 6) rfl)) (fun _ h9 => h9) (congrArg (fun x => some (Value.int x)) (by simp [cf_s3, cf_g2, upd, hst] : (cf_s3 S 4 u9 0 ((S 5 0 2) + (S 1 gm 2))) 5 0 1 = nI ng)) dX5_seat_128 ?_
              refine lv_istore (lv' := [(8, .int (nI ng)), (7, .ref (ad 4 u9)), (6, .ref (ad 0 c9)), (5, .ref (ad 3 t)), (4, .ref (ad 1 gm)), (0, .ref (ad 5 0)), (1, .int x), (2, .int y), (3, .int b1)]) hx hb dX5_seat_131 hl (by decide) rfl (fun ls hl => ?_)
              refine lv_aload_n hx hb dX5_seat_133 rfl (lv_at hl 5 rfl) ?_
              refine cf_get (v := .ref (ad 15 0)) (ci := 5) (C := RX5) (T := TX5) (N := 9) hx hb hts (fun _ h => List.mem_cons_of_mem _ (List.mem_append_left _ (List.mem_append_left _ (List.mem_append_left _ (List.mem_append_left _ (List.mem_append_left _ (List.mem_append_left _ (List.mem_append_left _ (List.mem_append_left _ (List.mem_append_right _ (h))))))))))) hown hT.1 hW cf_e5 rfl 4 (by decide) (hts (.fieldLink RX5 35 "GameCafe" "groups" "[LGameCafe$Group;") (List.mem_of_getElem? (i := 10) rfl)) (fun _ h9 => h9) rfl dX5_seat_134 ?_
              refine lv_iload hx hb dX5_seat_137 (lv_at hl 0 rfl) ?_
              refine cf_new (ci := 2) (fs := [.null, .int 0, .int 0, .null]) (C := RX2) (T := TX2) (N := 4) (ad := ad) hx hb hts (fun _ h => List.mem_cons_of_mem _ (List.mem_append_left _ (List.mem_append_left _ (List.mem_append_left _ (List.mem_append_left _ (List.mem_append_left _ (List.mem_append_right _ (h)))))))) tyX2 tyX2_ok hown (hts (.classLink RX5 33 RX2) (List.mem_of_getElem? (i := 11) rfl)) (hts (.instantiable RX2 4) (List.mem_of_getElem? (i := 12) rfl)) (hts (.initialized RX2) (List.mem_of_getElem? (i := 13) rfl)) hT.1 hW hS 2 ng (show cf_E cT nc ng (cf_s3 S 4 u9 0 ((S 5 0 2) + (S 1 gm 2))) P O ad 2 ng = none from if_neg (Nat.lt_irrefl ng)) rfl (fun j hj => by rcases (show j = 0 ∨ j = 1 ∨ j = 2 ∨ j = 3 by omega) with rfl | rfl | rfl | rfl <;> rfl) (Nat.le_of_ble_eq_true rfl) (Nat.le_of_ble_eq_true rfl) dX5_seat_139 (fun q29 H hW hS => ?_)
              have hl : lv_has ls 9 [(8, .int (nI ng)), (7, .ref ((cf_g2 ad 2 ng q29) 4 u9)), (6, .ref ((cf_g2 ad 2 ng q29) 0 c9)), (5, .ref ((cf_g2 ad 2 ng q29) 3 t)), (4, .ref ((cf_g2 ad 2 ng q29) 1 gm)), (0, .ref ((cf_g2 ad 2 ng q29) 5 0)), (1, .int x), (2, .int y), (3, .int b1)] := hl
              refine lv_dup hx hb dX5_seat_142 rfl ?_
              refine lv_iload_n hx hb dX5_seat_143 rfl (lv_at hl 6 rfl) ?_
              refine lv_aload hx hb dX5_seat_144 (lv_at hl 3 rfl) ?_
              refine lv_aload hx hb dX5_seat_146 (lv_at hl 2 rfl) ?_
              refine lv_aload_n hx hb dX5_seat_148 rfl (lv_at hl 5 rfl) ?_
              refine cf_get (v := .int (S 5 0 2)) (k := 5) (i := 0) (ad := (cf_g2 ad 2 ng q29)) (ci := 5) (C := RX5) (T := TX5) (N := 9) hx hb hts (fun _ h => List.mem_cons_of_mem _ (List.mem_append_left _ (List.mem_append_left _ (List.mem_append_left _ (List.mem_append_left _ (List.mem_append_left _ (List.mem_append_left _ (List.mem_append_left _ (List.mem_append_left _ (List.mem_append_right _ (h))))))))))) hown hT.1 hW ((cf_g2n (fun q9 => absurd q9.1 (by decide))).trans cf_e5) rfl 8 (by decide) (hts (.fieldLink RX5 49 "GameCafe" "now" "I") (List.mem_of_getElem? (i := 7) rfl)) (fun _ h9 => h9) rfl dX5_seat_149 ?_
              refine va_callv (va_runI (As := [.int x, .ref ((cf_g2 ad 2 ng q29) 3 t), .ref ((cf_g2 ad 2 ng q29) 0 c9), .int (S 5 0 2)]) (rest := [.ref ((cf_g2 ad 2 ng q29) 2 ng), .int (nI ng), .ref ((cf_g2 ad 2 ng q29) 15 0)]) ⟨hx, hb, hml, hown, hts⟩ (c_X2_init l D cT z (cf_g2 ad 2 ng q29) (cf_g2 (cf_E cT nc ng (cf_s3 S 4 u9 0 ((S 5 0 2) + (S 1 gm 2))) P O ad) 2 ng (some (.inr (2, [.null, .int 0, .int 0, .null])))) x (S 5 0 2) cf_g2s) (cwI 4 hts gX5_seat_X2_init rfl rfl rfl (hts (.initialized RX2) (List.mem_of_getElem? (i := 13) rfl)) (hts (.methodLink RX5 152 yX2_init) (List.mem_of_getElem? (i := 58) rfl)) (hts (.instanceMethod yX2_init) (List.mem_of_getElem? (i := 59) rfl)) rfl (by decide +kernel) ⟨Nat.le_of_ble_eq_true rfl, Nat.le_of_ble_eq_true rfl⟩) (cf_preS hT hS hW) rfl rfl hl.1 rfl (lv_room (Nat.le_of_ble_eq_true rfl)) dX5_seat_152 ⟨(Nat.le_of_ble_eq_true rfl), (Nat.le_of_ble_eq_true rfl)⟩) hS (fun _ _ h => h) (fun _ h => h) (fun u8 t9 H locs ht hvm hw hW hz1 hk1 hS => ?_)
              have hW : cf_W D z (cf_g2 (cf_E cT nc ng (cf_s3 S 4 u9 0 ((S 5 0 2) + (S 1 gm 2))) P O ad) 2 ng (some (.inr (2, [.ref ((cf_g2 ad 2 ng q29) 0 c9), .int (S 5 0 2), .int x, .ref ((cf_g2 ad 2 ng q29) 3 t)])))) (cf_g2 ad 2 ng q29) H := cf_W.eqv (cf_W.er ht hW) cf_g2c
              refine cf_astN (t0 := 7) (k := 15) (i := 0) (k2 := 2) (i2 := ng) (ad := (cf_g2 ad 2 ng q29)) (ci := 2) (r := (RX2, TX2, 4)) (n := 60) (f := (cf_rw (ad 2) (P 15 0))) hx hb hT.1 hW hS ((cf_g2n (fun q9 => absurd q9.1 (by decide))).trans cf_e15) rfl cf_g2s rfl ng rfl hn60 (by decide) dX5_seat_155 (E2 := (cf_g2 (cf_g2 (cf_E cT nc ng (cf_s3 S 4 u9 0 ((S 5 0 2) + (S 1 gm 2))) P O ad) 2 ng (some (.inr (2, [.ref ((cf_g2 ad 2 ng q29) 0 c9), .int (S 5 0 2), .int x, .ref ((cf_g2 ad 2 ng q29) 3 t)])))) 15 0 (some (.inl (cT 7, 60, .inr (.inr (.inr (.inr (va_up (cf_rw (ad 2) (P 15 0)) ng (some ((cf_g2 ad 2 ng q29) 2 ng))))))))))) rfl (fun H locs hW hS => ?_)
              have hW := cf_W.eqv hW (cf_seatE (ad := ad) hQ2)
              have hag : ∀ k i, k ≠ 2 → (cf_g2 ad 2 ng q29) k i = ad k i := fun k i h0 => by simp [cf_g2, h0]
              generalize (cf_g2 ad 2 ng q29) = ad at hW hl hag ⊢
              refine lv_aload_n hx hb dX5_seat_156 rfl (lv_at hl 5 rfl) ?_
              refine lv_iload hx hb dX5_seat_157 (lv_at hl 0 rfl) ?_
              refine lv_iconst (v := 1) hx hb dX5_seat_159 (by decide) ?_
              refine lv_iadd hx hb dX5_seat_160 ?_
              refine cf_putE (v := .int ((nI ng) + 1)) (ty := .int) (ci := 5) (C := RX5) (T := TX5) (N := 9) hx hb hts (fun _ h => List.mem_cons_of_mem _ (List.mem_append_left _ (List.mem_append_left _ (List.mem_append_left _ (List.mem_append_left _ (List.mem_append_left _ (List.mem_append_left _ (List.mem_append_left _ (List.mem_append_left _ (List.mem_append_right _ (h))))))))))) tyX5 tyX5_ok nmX5 hown hT.1 hW hS cf_e5 rfl 7 (by decide) (hts (.fieldLink RX5 46 "GameCafe" "seated" "I") (List.mem_of_getElem? (i := 6) rfl)) (fun _ h9 => h9) rfl (by decide +kernel) rfl rfl (Nat.le_of_ble_eq_true rfl) dX5_seat_161 (E2 := (cf_E cT nc (ng + 1) (cf_s3 (cf_seatS (cf_s3 S 4 u9 0 ((S 5 0 2) + (S 1 gm 2))) ng x (S 5 0 2)) 5 0 1 ((nI ng) + 1)) (cf_seatP P ng c9 t) O ad)) (cf_upS 5 0 (upd ((cf_seatS (cf_s3 S 4 u9 0 ((S 5 0 2) + (S 1 gm 2))) ng x (S 5 0 2)) 5 0) 1 ((nI ng) + 1)) rfl) (fun H locs hW hS => ?_)
              refine lv_aload hx hb dX5_seat_164 (lv_at hl 3 rfl) ?_
              refine lv_iload hx hb dX5_seat_166 (lv_at hl 0 rfl) ?_
              refine cf_putE (v := .int (nI ng)) (ty := .int) (ci := 3) (C := RX3) (T := TX3) (N := 3) hx hb hts (fun _ h => List.mem_cons_of_mem _ (List.mem_append_left _ (List.mem_append_left _ (List.mem_append_left _ (List.mem_append_left _ (List.mem_append_right _ (h))))))) tyX3 tyX3_ok nmX3 hown hT.1 hW hS (cf_e3 ht6) rfl 2 (by decide) (hts (.fieldLink RX5 80 "GameCafe$Table" "group" "I") (List.mem_of_getElem? (i := 14) rfl)) (fun _ h9 => h9) rfl (by decide +kernel) rfl rfl (Nat.le_of_ble_eq_true rfl) dX5_seat_168 (E2 := (cf_E cT nc (ng + 1) (cf_s3 (cf_s3 (cf_seatS (cf_s3 S 4 u9 0 ((S 5 0 2) + (S 1 gm 2))) ng x (S 5 0 2)) 5 0 1 ((nI ng) + 1)) 3 t 1 (nI ng)) (cf_seatP P ng c9 t) O ad)) (cf_upS 3 t (upd ((cf_s3 (cf_seatS (cf_s3 S 4 u9 0 ((S 5 0 2) + (S 1 gm 2))) ng x (S 5 0 2)) 5 0 1 ((nI ng) + 1)) 3 t) 1 (nI ng)) (cf_c3 ht6)) (fun H locs hW hS => ?_)
              refine lv_aload hx hb dX5_seat_171 (lv_at hl 2 rfl) ?_
              refine lv_iconst (v := 1) hx hb dX5_seat_173 (by decide) ?_
              refine cf_putE (v := .int 1) (ty := .int) (ci := 0) (C := RX0) (T := TX0) (N := 4) hx hb hts (fun _ h => List.mem_cons_of_mem _ (List.mem_append_left _ (List.mem_append_left _ (List.mem_append_left _ (List.mem_append_right _ (h)))))) tyX0 tyX0_ok nmX0 hown hT.1 hW hS (cf_e0 hc15) rfl 3 (by decide) (hts (.fieldLink RX5 109 "GameCafe$Copy" "place" "I") (List.mem_of_getElem? (i := 15) rfl)) (fun _ h9 => h9) rfl (by decide +kernel) rfl rfl (Nat.le_of_ble_eq_true rfl) dX5_seat_174 (E2 := (cf_E cT nc (ng + 1) (cf_s3 (cf_s3 (cf_s3 (cf_seatS (cf_s3 S 4 u9 0 ((S 5 0 2) + (S 1 gm 2))) ng x (S 5 0 2)) 5 0 1 ((nI ng) + 1)) 3 t 1 (nI ng)) 0 c9 0 1) (cf_seatP P ng c9 t) O ad)) (cf_upS 0 c9 (upd ((cf_s3 (cf_s3 (cf_seatS (cf_s3 S 4 u9 0 ((S 5 0 2) + (S 1 gm 2))) ng x (S 5 0 2)) 5 0 1 ((nI ng) + 1)) 3 t 1 (nI ng)) 0 c9) 0 1) (cf_c0 hc15)) (fun H locs hW hS => ?_)
              refine lv_iload hx hb dX5_seat_177 (lv_at hl 0 rfl) ?_
              refine vx_ret ?_
              refine W.widen (k := 4) (n := 22) (by omega) (by omega) ?_
              exact W.iret (v := (nI ng)) hx hb hr (fun t9 ht9 hw9 => ⟨⟨(nI ng), ((cf_s3 (cf_s3 (cf_s3 (cf_seatS (cf_s3 S 4 u9 0 ((S 5 0 2) + (S 1 gm 2))) ng x (S 5 0 2)) 5 0 1 ((nI ng) + 1)) 3 t 1 (nI ng)) 0 c9 0 1), (cf_seatP P ng c9 t), ad), rfl, ⟨gm, hg, hyg, hn60, ⟨h18, hfor⟩, t, c9, htb.symm, hcb, rfl, rfl, hag, Or.inr ⟨c55_23, u9, hub, rfl⟩⟩, cf_W.re ht9 hW⟩, hS.F ht9⟩) hS.2.2 dX5_seat_179
        · refine lv_null hx hb dX5_seat_58 ?_
          refine lv_goto (tgt := 67) hx hb dX5_seat_59 (by decide) ?_
          refine lv_astoreN (lv' := [(7, .null), (6, .ref (ad 0 c9)), (5, .ref (ad 3 t)), (4, .ref (ad 1 gm)), (0, .ref (ad 5 0)), (1, .int x), (2, .int y), (3, .int b1)]) hx hb dX5_seat_67 hl (by decide) rfl (fun ls hl => ?_)
          refine lv_aload_n hx hb dX5_seat_69 rfl (lv_at hl 4 rfl) ?_
          refine cf_get (v := .int (nI ng)) (ci := 5) (C := RX5) (T := TX5) (N := 9) hx hb hts (fun _ h => List.mem_cons_of_mem _ (List.mem_append_left _ (List.mem_append_left _ (List.mem_append_left _ (List.mem_append_left _ (List.mem_append_left _ (List.mem_append_left _ (List.mem_append_left _ (List.mem_append_left _ (List.mem_append_right _ (h))))))))))) hown hT.1 hW cf_e5 rfl 7 (by decide) (hts (.fieldLink RX5 46 "GameCafe" "seated" "I") (List.mem_of_getElem? (i := 6) rfl)) (fun _ h9 => h9) (by rw [hst]; rfl) dX5_seat_70 ?_
          refine lv_bipush (v := 60) hx hb dX5_seat_73 (by decide) ?_
          refine lv_icmp_ge (tgt := 97) hx hb dX5_seat_75 (by decide) (fun c75_30 => ?_) (fun c75_30 => ?_)
          · exact cf_throw (text := "the group cannot be seated") hx hb hl0 hown (by decide +kernel) (hts (.classLink RX5 83 "java/lang/IllegalStateException") (List.mem_of_getElem? (i := 3) rfl)) (hts (.initialized "java/lang/IllegalStateException") (List.mem_of_getElem? (i := 4) rfl)) (List.mem_of_getElem? (i := 9) rfl) (List.mem_of_getElem? (i := 2) rfl) (fun w h => hts w (List.mem_cons_of_mem _ (List.mem_append_left _ (List.mem_append_right _ (h))))) cf_ng_ise cf_gd_ise hT hW hS (hl.1.trans hml.symm) dX5_seat_97 dX5_seat_100 dX5_seat_101 dX5_seat_103 dX5_seat_106 htab (by decide) hlocks (Or.inr (Or.inr ⟨rfl, hA, hB9, fun q => absurd (q gm hg hyg).1 (fun q => absurd (nI_lt q (by decide)) (Int32.not_lt.mpr c75_30))⟩)) (by decide)
          · have hn60 : ng < 60 := cf_lt_of (by omega) (by decide) (Int32.not_le.mp c75_30)
            refine lv_aload hx hb dX5_seat_78 (lv_at hl 2 rfl) ?_
            refine lv_ifnull hx hb dX5_seat_80 ?_
            refine lv_aload hx hb dX5_seat_83 (lv_at hl 1 rfl) ?_
            refine lv_ifnull hx hb dX5_seat_85 ?_
            refine lv_iload_n hx hb dX5_seat_88 rfl (lv_at hl 7 rfl) ?_
            refine lv_if_ne (tgt := 107) hx hb dX5_seat_89 (by decide) (fun c89_31 => ?_) (fun c89_31 => (by first | exact absurd c55_23 c89_31 | exact absurd c89_31 c55_23))
            have ht6 : t < 6 := (cf_best_in htb.symm).1
            have hc15 : c9 < nc := (cf_fst_so hcb).2.1
            refine lv_aloadN hx hb dX5_seat_107 (lv_at hl 0 rfl) ?_
            refine lv_ifnullN (tgt := 127) hx hb dX5_seat_109 (by decide) ?_
            refine lv_aload_n hx hb dX5_seat_127 rfl (lv_at hl 4 rfl) ?_
            refine cf_get (v := .int (nI ng)) (ci := 5) (C := RX5) (T := TX5) (N := 9) hx hb hts (fun _ h => List.mem_cons_of_mem _ (List.mem_append_left _ (List.mem_append_left _ (List.mem_append_left _ (List.mem_append_left _ (List.mem_append_left _ (List.mem_append_left _ (List.mem_append_left _ (List.mem_append_left _ (List.mem_append_right _ (h))))))))))) hown hT.1 hW cf_e5 rfl 7 (by decide) (hts (.fieldLink RX5 46 "GameCafe" "seated" "I") (List.mem_of_getElem? (i := 6) rfl)) (fun _ h9 => h9) (by rw [hst]; rfl) dX5_seat_128 ?_
            refine lv_istore (lv' := [(8, .int (nI ng)), (7, .null), (6, .ref (ad 0 c9)), (5, .ref (ad 3 t)), (4, .ref (ad 1 gm)), (0, .ref (ad 5 0)), (1, .int x), (2, .int y), (3, .int b1)]) hx hb dX5_seat_131 hl (by decide) rfl (fun ls hl => ?_)
            refine lv_aload_n hx hb dX5_seat_133 rfl (lv_at hl 5 rfl) ?_
            refine cf_get (v := .ref (ad 15 0)) (ci := 5) (C := RX5) (T := TX5) (N := 9) hx hb hts (fun _ h => List.mem_cons_of_mem _ (List.mem_append_left _ (List.mem_append_left _ (List.mem_append_left _ (List.mem_append_left _ (List.mem_append_left _ (List.mem_append_left _ (List.mem_append_left _ (List.mem_append_left _ (List.mem_append_right _ (h))))))))))) hown hT.1 hW cf_e5 rfl 4 (by decide) (hts (.fieldLink RX5 35 "GameCafe" "groups" "[LGameCafe$Group;") (List.mem_of_getElem? (i := 10) rfl)) (fun _ h9 => h9) rfl dX5_seat_134 ?_
            refine lv_iload hx hb dX5_seat_137 (lv_at hl 0 rfl) ?_
            refine cf_new (ci := 2) (fs := [.null, .int 0, .int 0, .null]) (C := RX2) (T := TX2) (N := 4) (ad := ad) hx hb hts (fun _ h => List.mem_cons_of_mem _ (List.mem_append_left _ (List.mem_append_left _ (List.mem_append_left _ (List.mem_append_left _ (List.mem_append_left _ (List.mem_append_right _ (h)))))))) tyX2 tyX2_ok hown (hts (.classLink RX5 33 RX2) (List.mem_of_getElem? (i := 11) rfl)) (hts (.instantiable RX2 4) (List.mem_of_getElem? (i := 12) rfl)) (hts (.initialized RX2) (List.mem_of_getElem? (i := 13) rfl)) hT.1 hW hS 2 ng (show cf_E cT nc ng S P O ad 2 ng = none from if_neg (Nat.lt_irrefl ng)) rfl (fun j hj => by rcases (show j = 0 ∨ j = 1 ∨ j = 2 ∨ j = 3 by omega) with rfl | rfl | rfl | rfl <;> rfl) (Nat.le_of_ble_eq_true rfl) (Nat.le_of_ble_eq_true rfl) dX5_seat_139 (fun q32 H hW hS => ?_)
            have hl : lv_has ls 9 [(8, .int (nI ng)), (7, .null), (6, .ref ((cf_g2 ad 2 ng q32) 0 c9)), (5, .ref ((cf_g2 ad 2 ng q32) 3 t)), (4, .ref ((cf_g2 ad 2 ng q32) 1 gm)), (0, .ref ((cf_g2 ad 2 ng q32) 5 0)), (1, .int x), (2, .int y), (3, .int b1)] := hl
            refine lv_dup hx hb dX5_seat_142 rfl ?_
            refine lv_iload_n hx hb dX5_seat_143 rfl (lv_at hl 6 rfl) ?_
            refine lv_aload hx hb dX5_seat_144 (lv_at hl 3 rfl) ?_
            refine lv_aload hx hb dX5_seat_146 (lv_at hl 2 rfl) ?_
            refine lv_aload_n hx hb dX5_seat_148 rfl (lv_at hl 5 rfl) ?_
            refine cf_get (v := .int (S 5 0 2)) (k := 5) (i := 0) (ad := (cf_g2 ad 2 ng q32)) (ci := 5) (C := RX5) (T := TX5) (N := 9) hx hb hts (fun _ h => List.mem_cons_of_mem _ (List.mem_append_left _ (List.mem_append_left _ (List.mem_append_left _ (List.mem_append_left _ (List.mem_append_left _ (List.mem_append_left _ (List.mem_append_left _ (List.mem_append_left _ (List.mem_append_right _ (h))))))))))) hown hT.1 hW ((cf_g2n (fun q9 => absurd q9.1 (by decide))).trans cf_e5) rfl 8 (by decide) (hts (.fieldLink RX5 49 "GameCafe" "now" "I") (List.mem_of_getElem? (i := 7) rfl)) (fun _ h9 => h9) rfl dX5_seat_149 ?_
            refine va_callv (va_runI (As := [.int x, .ref ((cf_g2 ad 2 ng q32) 3 t), .ref ((cf_g2 ad 2 ng q32) 0 c9), .int (S 5 0 2)]) (rest := [.ref ((cf_g2 ad 2 ng q32) 2 ng), .int (nI ng), .ref ((cf_g2 ad 2 ng q32) 15 0)]) ⟨hx, hb, hml, hown, hts⟩ (c_X2_init l D cT z (cf_g2 ad 2 ng q32) (cf_g2 (cf_E cT nc ng S P O ad) 2 ng (some (.inr (2, [.null, .int 0, .int 0, .null])))) x (S 5 0 2) cf_g2s) (cwI 4 hts gX5_seat_X2_init rfl rfl rfl (hts (.initialized RX2) (List.mem_of_getElem? (i := 13) rfl)) (hts (.methodLink RX5 152 yX2_init) (List.mem_of_getElem? (i := 58) rfl)) (hts (.instanceMethod yX2_init) (List.mem_of_getElem? (i := 59) rfl)) rfl (by decide +kernel) ⟨Nat.le_of_ble_eq_true rfl, Nat.le_of_ble_eq_true rfl⟩) (cf_preS hT hS hW) rfl rfl hl.1 rfl (lv_room (Nat.le_of_ble_eq_true rfl)) dX5_seat_152 ⟨(Nat.le_of_ble_eq_true rfl), (Nat.le_of_ble_eq_true rfl)⟩) hS (fun _ _ h => h) (fun _ h => h) (fun u8 t9 H locs ht hvm hw hW hz1 hk1 hS => ?_)
            have hW : cf_W D z (cf_g2 (cf_E cT nc ng S P O ad) 2 ng (some (.inr (2, [.ref ((cf_g2 ad 2 ng q32) 0 c9), .int (S 5 0 2), .int x, .ref ((cf_g2 ad 2 ng q32) 3 t)])))) (cf_g2 ad 2 ng q32) H := cf_W.eqv (cf_W.er ht hW) cf_g2c
            refine cf_astN (t0 := 7) (k := 15) (i := 0) (k2 := 2) (i2 := ng) (ad := (cf_g2 ad 2 ng q32)) (ci := 2) (r := (RX2, TX2, 4)) (n := 60) (f := (cf_rw (ad 2) (P 15 0))) hx hb hT.1 hW hS ((cf_g2n (fun q9 => absurd q9.1 (by decide))).trans cf_e15) rfl cf_g2s rfl ng rfl hn60 (by decide) dX5_seat_155 (E2 := (cf_g2 (cf_g2 (cf_E cT nc ng S P O ad) 2 ng (some (.inr (2, [.ref ((cf_g2 ad 2 ng q32) 0 c9), .int (S 5 0 2), .int x, .ref ((cf_g2 ad 2 ng q32) 3 t)])))) 15 0 (some (.inl (cT 7, 60, .inr (.inr (.inr (.inr (va_up (cf_rw (ad 2) (P 15 0)) ng (some ((cf_g2 ad 2 ng q32) 2 ng))))))))))) rfl (fun H locs hW hS => ?_)
            have hW := cf_W.eqv hW (cf_seatE (ad := ad) hQ2)
            have hag : ∀ k i, k ≠ 2 → (cf_g2 ad 2 ng q32) k i = ad k i := fun k i h0 => by simp [cf_g2, h0]
            generalize (cf_g2 ad 2 ng q32) = ad at hW hl hag ⊢
            refine lv_aload_n hx hb dX5_seat_156 rfl (lv_at hl 5 rfl) ?_
            refine lv_iload hx hb dX5_seat_157 (lv_at hl 0 rfl) ?_
            refine lv_iconst (v := 1) hx hb dX5_seat_159 (by decide) ?_
            refine lv_iadd hx hb dX5_seat_160 ?_
            refine cf_putE (v := .int ((nI ng) + 1)) (ty := .int) (ci := 5) (C := RX5) (T := TX5) (N := 9) hx hb hts (fun _ h => List.mem_cons_of_mem _ (List.mem_append_left _ (List.mem_append_left _ (List.mem_append_left _ (List.mem_append_left _ (List.mem_append_left _ (List.mem_append_left _ (List.mem_append_left _ (List.mem_append_left _ (List.mem_append_right _ (h))))))))))) tyX5 tyX5_ok nmX5 hown hT.1 hW hS cf_e5 rfl 7 (by decide) (hts (.fieldLink RX5 46 "GameCafe" "seated" "I") (List.mem_of_getElem? (i := 6) rfl)) (fun _ h9 => h9) rfl (by decide +kernel) rfl rfl (Nat.le_of_ble_eq_true rfl) dX5_seat_161 (E2 := (cf_E cT nc (ng + 1) (cf_s3 (cf_seatS S ng x (S 5 0 2)) 5 0 1 ((nI ng) + 1)) (cf_seatP P ng c9 t) O ad)) (cf_upS 5 0 (upd ((cf_seatS S ng x (S 5 0 2)) 5 0) 1 ((nI ng) + 1)) rfl) (fun H locs hW hS => ?_)
            refine lv_aload hx hb dX5_seat_164 (lv_at hl 3 rfl) ?_
            refine lv_iload hx hb dX5_seat_166 (lv_at hl 0 rfl) ?_
            refine cf_putE (v := .int (nI ng)) (ty := .int) (ci := 3) (C := RX3) (T := TX3) (N := 3) hx hb hts (fun _ h => List.mem_cons_of_mem _ (List.mem_append_left _ (List.mem_append_left _ (List.mem_append_left _ (List.mem_append_left _ (List.mem_append_right _ (h))))))) tyX3 tyX3_ok nmX3 hown hT.1 hW hS (cf_e3 ht6) rfl 2 (by decide) (hts (.fieldLink RX5 80 "GameCafe$Table" "group" "I") (List.mem_of_getElem? (i := 14) rfl)) (fun _ h9 => h9) rfl (by decide +kernel) rfl rfl (Nat.le_of_ble_eq_true rfl) dX5_seat_168 (E2 := (cf_E cT nc (ng + 1) (cf_s3 (cf_s3 (cf_seatS S ng x (S 5 0 2)) 5 0 1 ((nI ng) + 1)) 3 t 1 (nI ng)) (cf_seatP P ng c9 t) O ad)) (cf_upS 3 t (upd ((cf_s3 (cf_seatS S ng x (S 5 0 2)) 5 0 1 ((nI ng) + 1)) 3 t) 1 (nI ng)) (cf_c3 ht6)) (fun H locs hW hS => ?_)
            refine lv_aload hx hb dX5_seat_171 (lv_at hl 2 rfl) ?_
            refine lv_iconst (v := 1) hx hb dX5_seat_173 (by decide) ?_
            refine cf_putE (v := .int 1) (ty := .int) (ci := 0) (C := RX0) (T := TX0) (N := 4) hx hb hts (fun _ h => List.mem_cons_of_mem _ (List.mem_append_left _ (List.mem_append_left _ (List.mem_append_left _ (List.mem_append_right _ (h)))))) tyX0 tyX0_ok nmX0 hown hT.1 hW hS (cf_e0 hc15) rfl 3 (by decide) (hts (.fieldLink RX5 109 "GameCafe$Copy" "place" "I") (List.mem_of_getElem? (i := 15) rfl)) (fun _ h9 => h9) rfl (by decide +kernel) rfl rfl (Nat.le_of_ble_eq_true rfl) dX5_seat_174 (E2 := (cf_E cT nc (ng + 1) (cf_s3 (cf_s3 (cf_s3 (cf_seatS S ng x (S 5 0 2)) 5 0 1 ((nI ng) + 1)) 3 t 1 (nI ng)) 0 c9 0 1) (cf_seatP P ng c9 t) O ad)) (cf_upS 0 c9 (upd ((cf_s3 (cf_s3 (cf_seatS S ng x (S 5 0 2)) 5 0 1 ((nI ng) + 1)) 3 t 1 (nI ng)) 0 c9) 0 1) (cf_c0 hc15)) (fun H locs hW hS => ?_)
            refine lv_iload hx hb dX5_seat_177 (lv_at hl 0 rfl) ?_
            refine vx_ret ?_
            refine W.widen (k := 4) (n := 22) (by omega) (by omega) ?_
            exact W.iret (v := (nI ng)) hx hb hr (fun t9 ht9 hw9 => ⟨⟨(nI ng), ((cf_s3 (cf_s3 (cf_s3 (cf_seatS S ng x (S 5 0 2)) 5 0 1 ((nI ng) + 1)) 3 t 1 (nI ng)) 0 c9 0 1), (cf_seatP P ng c9 t), ad), rfl, ⟨gm, hg, hyg, hn60, ⟨h18, hfor⟩, t, c9, htb.symm, hcb, rfl, rfl, hag, Or.inl ⟨c55_23, rfl⟩⟩, cf_W.re ht9 hW⟩, hS.F ht9⟩) hS.2.2 dX5_seat_179
  · exact cf_throw (text := "the game is not for so many people") hx hb hl0 hown (by decide +kernel) (hts (.classLink RX5 118 "java/lang/IllegalArgumentException") (List.mem_of_getElem? (i := 1) rfl)) (hts (.initialized "java/lang/IllegalArgumentException") (List.mem_of_getElem? (i := 2) rfl)) (List.mem_of_getElem? (i := 8) rfl) (List.mem_of_getElem? (i := 1) rfl) (fun w h => hts w (List.mem_cons_of_mem _ (List.mem_append_left _ (List.mem_append_left _ (List.mem_append_right _ (h)))))) cf_ng_iae cf_gd_iae hT hW hS (hl.1.trans hml.symm) dX5_seat_29 dX5_seat_32 dX5_seat_33 dX5_seat_35 dX5_seat_38 htab (by decide) hlocks (Or.inr (Or.inl ⟨rfl, hA, fun q => hw1.f c26_4 (q gm hg hyg).2⟩)) (by decide)
set_option maxHeartbeats 4000000 in
set_option maxRecDepth 100000 in
/-- X5_propose -/
theorem c_X5_propose (l : Launch) (D : va_G) (cT : Nat → ClassId) (z : Nat) (ad : cf_Ad) (nc ng : Nat) (S : cf_S) (P : cf_Pt) (O : Nat → Int64) (hl0 : l.stackTraces = false) (x : Int32) (hO2 : ∀ j, P 14 0 j = if j < nc then j + 1 else 0) (hG : ∀ j, j < nc → P 0 j 0 < 5) (hp0 : ∀ j, j < 5 → 0 ≤ S 1 j 3) : vx_Met l yX5_propose wsX5_propose ({ frames := 7, cells := 1, slots := 6, locals := 104 }) (va_Pc [.ref (ad 5 0), .int x] (cf_P D cT z (cf_E cT nc ng S P O ad) ad)) (cf_Qi D z (fun (r : Int32) (_ : Unit) => cf_rg x 1 8 ∧ ∃ b : Option Nat, r = cf_oi b ∧ b = cf_best (cf_okP nc S P x) (cf_ltP S) 5) (fun _ => (cf_E cT nc ng S P O ad)) (fun _ => ad)) (cf_X D z (cf_E cT nc ng S P O ad) ad (cf_x2 (cf_rg x 1 8))) 1 6 (fun q => z ≤ q) := by
  refine vx_ofW (cc := cX5_propose) (maxL := 5) (ret := (some .int)) (by decide) rfl ?_
  intro p e s m args below meth c s₁ B hml htab hv
  obtain ⟨rfl, hW, hT⟩ := hv
  have hx := B.exec
  have hb := B.bytes
  have hr := B.returns
  have hts := atoms_spec (ws := wsX5_propose) B.pre
  have hown : s.vm.findClass RX5 = some m.cls := findClass_of_methodNamed B.named
  have hlocks := B.notSynchronized
  have hS : va_S (fun q => z ≤ q) s.heap s.heap [] := va_S.rf
  have hl := lv_entry ([.ref (ad 5 0), .int x]) (n := 5) (Nat.le_of_ble_eq_true rfl)
  rw [lg_entry_eq]
  generalize (lg_sl ([.ref (ad 5 0), .int x]) ++ List.replicate (5 - (lg_sl ([.ref (ad 5 0), .int x])).length) Slot.unset).toArray = ls at hl ⊢
  have hl : lv_has ls 5 [(0, .ref (ad 5 0)), (1, .int x)] := hl
  skip
  refine lv_iload_n hx hb dX5_propose_0 rfl (lv_at hl 1 rfl) ?_
  refine lv_iconst (v := 1) hx hb dX5_propose_1 (by decide) ?_
  refine lv_bipush (v := 8) hx hb dX5_propose_2 (by decide) ?_
  refine vx_callv (vx_runS (As := [.int x, .int 1, .int 8]) (rest := []) ⟨hx, hb, hml, hown, hts⟩ (c_X5_checkRange l D cT z ad _ x 1 8 hl0) (va_cwS 3 hts gX5_propose_X5_checkRange rfl rfl rfl (by decide +kernel) ⟨Nat.le_of_ble_eq_true rfl, Nat.le_of_ble_eq_true rfl⟩) (cf_preS hT hS hW) rfl rfl hl.1 rfl (lv_room (Nat.le_of_ble_eq_true rfl)) dX5_propose_4 ⟨Nat.le_of_ble_eq_true rfl, Nat.le_of_ble_eq_true rfl⟩) hS (fun _ _ h => h) (fun _ h => h) (fun _ _ h => h) (fun E9 ce q9 u9 t9 H locs ht hvm hu hB hz1 hk1 hS hce hcv hcl => ?_) (fun ur1 t9 H locs ht hvm hw hW hz1 hk1 hS => ?_)
  · obtain ⟨hp, hW⟩ := hB
    have hW := cf_W.er ht hW
    exact cf_pass htab hlocks hce hcv hcl hS hW (hp) ⟨Nat.le_of_ble_eq_true rfl, Nat.le_of_ble_eq_true rfl⟩
  have hW := cf_W.er ht hW
  have h18 := hw
  refine lv_iconst (v := (-1)) hx hb dX5_propose_7 (by decide) ?_
  refine lv_istore_n (lv' := [(2, .int (-1)), (0, .ref (ad 5 0)), (1, .int x)]) hx hb dX5_propose_8 rfl hl (by decide) rfl (fun ls hl => ?_)
  refine lv_iconst (v := (-1)) hx hb dX5_propose_9 (by decide) ?_
  refine lv_istore_n (lv' := [(3, .int (-1)), (2, .int (-1)), (0, .ref (ad 5 0)), (1, .int x)]) hx hb dX5_propose_10 rfl hl (by decide) rfl (fun ls hl => ?_)
  refine lv_iconst (v := 0) hx hb dX5_propose_11 (by decide) ?_
  refine lv_istore (lv' := [(4, .int 0), (3, .int (-1)), (2, .int (-1)), (0, .ref (ad 5 0)), (1, .int x)]) hx hb dX5_propose_12 hl (by decide) rfl (fun ls hl => ?_)
  refine cf_loopW (β := Option Nat) (fun i H locs ls b => cf_W D z (cf_E cT nc ng S P O ad) ad H ∧ va_S (fun q => z ≤ q) s.heap H locs ∧ lv_has ls 5 [(0, .ref (ad 5 0)), (1, .int x), (2, .int (cf_oi b)), (3, .int (cf_oj S b)), (4, .int (nI i))] ∧ b = cf_best (cf_okP nc S P x) (cf_ltP S) i) 5 (fun H locs ls b hI => ?_) (fun i H locs ls b hi hI ih => ?_) none ⟨hW, hS, lv_sub hl [3, 4, 2, 1, 0] rfl, rfl⟩
  · obtain ⟨hW, hS, hl, hI⟩ := hI
    refine lv_iload hx hb dX5_propose_14 (lv_at hl 4 rfl) ?_
    refine lv_iconst (v := 5) hx hb dX5_propose_16 (by decide) ?_
    refine lv_icmp_ge (tgt := 69) hx hb dX5_propose_17 (by decide) (fun c17_2 => ?_) (fun c17_2 => (by first | exact absurd (nI_le (Nat.le_refl 5) (by decide)) c17_2 | exact absurd c17_2 (nI_le (Nat.le_refl 5) (by decide))))
    refine lv_iload_n hx hb dX5_propose_69 rfl (lv_at hl 2 rfl) ?_
    refine vx_ret ?_
    refine W.widen (k := 1) (n := 6) (by omega) (by omega) ?_
    exact W.iret (v := (cf_oi b)) hx hb hr (fun t9 ht9 hw9 => ⟨⟨(cf_oi b), (), rfl, ⟨h18, b, rfl, hI⟩, cf_W.re ht9 hW⟩, hS.F ht9⟩) hS.2.2 dX5_propose_70
  · obtain ⟨hW, hS, hl, hI⟩ := hI
    refine lv_iload hx hb dX5_propose_14 (lv_at hl 4 rfl) ?_
    refine lv_iconst (v := 5) hx hb dX5_propose_16 (by decide) ?_
    refine lv_icmp_ge (tgt := 69) hx hb dX5_propose_17 (by decide) (fun c17_3 => (by first | exact absurd c17_3 (nI_ge hi (by decide)) | exact absurd (nI_ge hi (by decide)) c17_3)) (fun c17_3 => ?_)
    refine lv_aload_n hx hb dX5_propose_20 rfl (lv_at hl 0 rfl) ?_
    refine cf_get (v := .ref (ad 11 0)) (ci := 5) (C := RX5) (T := TX5) (N := 9) hx hb hts (fun _ h => List.mem_cons_of_mem _ (List.mem_append_left _ (List.mem_append_left _ (List.mem_append_left _ (List.mem_append_left _ (List.mem_append_right _ (h))))))) hown hT.1 hW cf_e5 rfl 0 (by decide) (hts (.fieldLink RX5 11 "GameCafe" "games" "[LGameCafe$Game;") (List.mem_of_getElem? (i := 1) rfl)) (fun _ h9 => h9) rfl dX5_propose_21 ?_
    refine lv_iload hx hb dX5_propose_24 (lv_at hl 4 rfl) ?_
    refine cf_aldN (t0 := 3) (C := RX1) (n := 5) (v := .ref (ad 1 i)) hx hb hT.1 hW cf_e11 rfl i rfl hi (by decide) dX5_propose_26 rfl ?_
    refine cf_get (v := .int (S 1 i 3)) (ci := 1) (C := RX1) (T := TX1) (N := 6) hx hb hts (fun _ h => List.mem_cons_of_mem _ (List.mem_append_left _ (List.mem_append_left _ (List.mem_append_left _ (List.mem_append_right _ (h)))))) hown hT.1 hW (cf_e1 hi) rfl 3 (by decide) (hts (.fieldLink RX5 175 "GameCafe$Game" "timesPlayed" "I") (List.mem_of_getElem? (i := 2) rfl)) (fun _ h9 => h9) rfl dX5_propose_27 ?_
    refine lv_iload_n hx hb dX5_propose_30 rfl (lv_at hl 3 rfl) ?_
    refine lv_icmp_le (tgt := 63) hx hb dX5_propose_31 (by decide) (fun c31_4 => ?_) (fun c31_4 => ?_)
    · refine lv_iinc (v := (nI (i + 1))) (lv' := [(4, .int (nI (i + 1))), (0, .ref (ad 5 0)), (1, .int x), (2, .int (cf_oi b)), (3, .int (cf_oj S b))]) hx hb dX5_propose_63 hl (k := 4) rfl (nI_1 i) (by decide) rfl (fun ls hl => ?_)
      refine lv_goto (tgt := 14) hx hb dX5_propose_66 (by decide) ?_
      exact ih _ _ _ b ⟨hW, hS, lv_sub hl [1, 2, 3, 4, 0] rfl, (hI.trans (cf_P_le hp0 hi hI c31_4).symm)⟩
    · refine lv_aload_n hx hb dX5_propose_34 rfl (lv_at hl 0 rfl) ?_
      refine lv_iload_n hx hb dX5_propose_35 rfl (lv_at hl 1 rfl) ?_
      refine lv_aload_n hx hb dX5_propose_36 rfl (lv_at hl 0 rfl) ?_
      refine cf_get (v := .ref (ad 11 0)) (ci := 5) (C := RX5) (T := TX5) (N := 9) hx hb hts (fun _ h => List.mem_cons_of_mem _ (List.mem_append_left _ (List.mem_append_left _ (List.mem_append_left _ (List.mem_append_left _ (List.mem_append_right _ (h))))))) hown hT.1 hW cf_e5 rfl 0 (by decide) (hts (.fieldLink RX5 11 "GameCafe" "games" "[LGameCafe$Game;") (List.mem_of_getElem? (i := 1) rfl)) (fun _ h9 => h9) rfl dX5_propose_37 ?_
      refine lv_iload hx hb dX5_propose_40 (lv_at hl 4 rfl) ?_
      refine cf_aldN (t0 := 3) (C := RX1) (n := 5) (v := .ref (ad 1 i)) hx hb hT.1 hW cf_e11 rfl i rfl hi (by decide) dX5_propose_42 rfl ?_
      refine va_calli (va_runV (As := [.int x, .ref (ad 1 i)]) (rest := []) ⟨hx, hb, hml, hown, hts⟩ (c_X5_canSeatKnowing l D cT z ad nc ng S P O hi x (fun j _ => hO2 j) hG) (cwV 2 hts gX5_propose_X5_canSeatKnowing rfl rfl rfl (by decide +kernel) ⟨Nat.le_of_ble_eq_true rfl, Nat.le_of_ble_eq_true rfl⟩) (cf_preV (T := TX5) (N := 9) hT hS hW cf_e5 rfl) rfl rfl hl.1 rfl (lv_room (Nat.le_of_ble_eq_true rfl)) dX5_propose_43 ⟨Nat.le_of_ble_eq_true rfl, Nat.le_of_ble_eq_true rfl⟩) hS (fun _ _ h => h) (fun _ h => h) (fun r5 ur5 t9 H locs ht hvm hw hW hz1 hk1 hS => ?_)
      have hW := cf_W.er ht hW
      have hw1 := hw
      refine lv_if_eq (tgt := 63) hx hb dX5_propose_46 (by decide) (fun c46_6 => ?_) (fun c46_6 => ?_)
      · refine lv_iinc (v := (nI (i + 1))) (lv' := [(4, .int (nI (i + 1))), (0, .ref (ad 5 0)), (1, .int x), (2, .int (cf_oi b)), (3, .int (cf_oj S b))]) hx hb dX5_propose_63 hl (k := 4) rfl (nI_1 i) (by decide) rfl (fun ls hl => ?_)
        refine lv_goto (tgt := 14) hx hb dX5_propose_66 (by decide) ?_
        exact ih _ _ _ b ⟨hW, hS, lv_sub hl [1, 2, 3, 4, 0] rfl, (hI.trans (cf_best_no (cf_dec_f (hw1.f c46_6))).symm)⟩
      · refine lv_iload hx hb dX5_propose_49 (lv_at hl 4 rfl) ?_
        refine lv_istore_n (lv' := [(2, .int (nI i)), (0, .ref (ad 5 0)), (1, .int x), (3, .int (cf_oj S b)), (4, .int (nI i))]) hx hb dX5_propose_51 rfl hl (by decide) rfl (fun ls hl => ?_)
        refine lv_aload_n hx hb dX5_propose_52 rfl (lv_at hl 1 rfl) ?_
        refine cf_get (v := .ref (ad 11 0)) (ci := 5) (C := RX5) (T := TX5) (N := 9) hx hb hts (fun _ h => List.mem_cons_of_mem _ (List.mem_append_left _ (List.mem_append_left _ (List.mem_append_left _ (List.mem_append_left _ (List.mem_append_right _ (h))))))) hown hT.1 hW cf_e5 rfl 0 (by decide) (hts (.fieldLink RX5 11 "GameCafe" "games" "[LGameCafe$Game;") (List.mem_of_getElem? (i := 1) rfl)) (fun _ h9 => h9) rfl dX5_propose_53 ?_
        refine lv_iload hx hb dX5_propose_56 (lv_at hl 4 rfl) ?_
        refine cf_aldN (t0 := 3) (C := RX1) (n := 5) (v := .ref (ad 1 i)) hx hb hT.1 hW cf_e11 rfl i rfl hi (by decide) dX5_propose_58 rfl ?_
        refine cf_get (v := .int (S 1 i 3)) (ci := 1) (C := RX1) (T := TX1) (N := 6) hx hb hts (fun _ h => List.mem_cons_of_mem _ (List.mem_append_left _ (List.mem_append_left _ (List.mem_append_left _ (List.mem_append_right _ (h)))))) hown hT.1 hW (cf_e1 hi) rfl 3 (by decide) (hts (.fieldLink RX5 175 "GameCafe$Game" "timesPlayed" "I") (List.mem_of_getElem? (i := 2) rfl)) (fun _ h9 => h9) rfl dX5_propose_59 ?_
        refine lv_istore_n (lv' := [(3, .int (S 1 i 3)), (2, .int (nI i)), (0, .ref (ad 5 0)), (1, .int x), (4, .int (nI i))]) hx hb dX5_propose_62 rfl hl (by decide) rfl (fun ls hl => ?_)
        refine lv_iinc (v := (nI (i + 1))) (lv' := [(4, .int (nI (i + 1))), (3, .int (S 1 i 3)), (2, .int (nI i)), (0, .ref (ad 5 0)), (1, .int x)]) hx hb dX5_propose_63 hl (k := 4) rfl (nI_1 i) (by decide) rfl (fun ls hl => ?_)
        refine lv_goto (tgt := 14) hx hb dX5_propose_66 (by decide) ?_
        exact ih _ _ _ (some i) ⟨hW, hS, lv_sub hl [3, 4, 2, 1, 0] rfl, (cf_P_gt hI c31_4 (cf_dec_t (hw1.t c46_6))).symm⟩
