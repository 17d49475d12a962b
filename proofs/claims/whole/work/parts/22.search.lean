set_option maxHeartbeats 4000000 in
set_option maxRecDepth 100000 in
/-- the lowest copy of a game that is on the shelf and can be played -/
theorem c_X5_playableCopyOf (l : Launch) (D : va_G) (cT : Nat → ClassId) (z : Nat) (ad : cf_Ad) (nc ng : Nat) (S : cf_S) (P : cf_Pt) (O : Nat → Int64) {gm : Nat} (hg : gm < 5) (hO : ∀ j, j < 15 → P 14 0 j = if j < nc then j + 1 else 0) (hG : ∀ j, j < nc → P 0 j 0 < 5) : Met l yX5_playableCopyOf wsX5_playableCopyOf ({ frames := 1, cells := 0, slots := 0, locals := 21 }) (va_Pc [.ref (ad 5 0), .ref (ad 1 gm)] (cf_P D cT z (cf_E cT nc ng S P O ad) ad)) (cf_Qq D z (fun (r : Option Nat) (_ : Unit) => ∃ b : Option Nat, cf_fst (cf_okC nc S P gm) 15 b ∧ r = b.map (ad 0)) (fun _ => (cf_E cT nc ng S P O ad)) (fun _ => ad)) 0 0 (fun q => z ≤ q) := by
  refine Met.ofW (cc := cX5_playableCopyOf) (maxL := 6) (ret := (some (.object "GameCafe$Copy"))) (by decide) rfl ?_
  intro p e s m args below meth c s₁ B hml hv
  obtain ⟨rfl, hW, hT⟩ := hv
  have hx := B.exec
  have hb := B.bytes
  have hr := B.returns
  have hts := atoms_spec (ws := wsX5_playableCopyOf) B.pre
  have hown : s.vm.findClass RX5 = some m.cls := findClass_of_methodNamed B.named
  have hlocks := B.notSynchronized
  have hS : va_S (fun q => z ≤ q) s.heap s.heap [] := va_S.rf
  have hl := lv_entry ([.ref (ad 5 0), .ref (ad 1 gm)]) (n := 6) (Nat.le_of_ble_eq_true rfl)
  rw [lg_entry_eq]
  generalize (lg_sl ([.ref (ad 5 0), .ref (ad 1 gm)]) ++ List.replicate (6 - (lg_sl ([.ref (ad 5 0), .ref (ad 1 gm)])).length) Slot.unset).toArray = ls at hl ⊢
  have hl : lv_has ls 6 [(0, .ref (ad 5 0)), (1, .ref (ad 1 gm))] := hl
  skip
  refine lv_aload_n hx hb dX5_playableCopyOf_0 rfl (lv_at hl 0 rfl) ?_
  refine cf_get (v := .ref (ad 14 0)) (ci := 5) (C := RX5) (T := TX5) (N := 9) hx hb hts (fun _ h => List.mem_cons_of_mem _ (List.mem_append_left _ (List.mem_append_left _ (List.mem_append_right _ (h))))) hown hT.1 hW cf_e5 rfl 3 (by decide) (hts (.fieldLink RX5 29 "GameCafe" "owned" "[LGameCafe$Copy;") (List.mem_of_getElem? (i := 1) rfl)) (fun _ h9 => h9) rfl dX5_playableCopyOf_1 ?_
  refine lv_astore_n (lv' := [(2, .ref (ad 14 0)), (0, .ref (ad 5 0)), (1, .ref (ad 1 gm))]) hx hb dX5_playableCopyOf_4 rfl hl (by decide) rfl (fun ls hl => ?_)
  refine lv_aload_n hx hb dX5_playableCopyOf_5 rfl (lv_at hl 0 rfl) ?_
  refine cf_alen (t0 := 6) (v := nI 15) hx hb hT.1 hW cf_e14 (ty := .object RX0) rfl rfl dX5_playableCopyOf_6 ?_
  refine lv_istore_n (lv' := [(3, .int (nI 15)), (2, .ref (ad 14 0)), (0, .ref (ad 5 0)), (1, .ref (ad 1 gm))]) hx hb dX5_playableCopyOf_7 rfl hl (by decide) rfl (fun ls hl => ?_)
  refine lv_iconst (v := 0) hx hb dX5_playableCopyOf_8 (by decide) ?_
  refine lv_istore (lv' := [(4, .int 0), (3, .int (nI 15)), (2, .ref (ad 14 0)), (0, .ref (ad 5 0)), (1, .ref (ad 1 gm))]) hx hb dX5_playableCopyOf_9 hl (by decide) rfl (fun ls hl => ?_)
  refine cf_loopW (β := Unit) (fun i H locs ls b => cf_W D z (cf_E cT nc ng S P O ad) ad H ∧ va_S (fun q => z ≤ q) s.heap H locs ∧ lv_has ls 6 [(0, .ref (ad 5 0)), (1, .ref (ad 1 gm)), (2, .ref (ad 14 0)), (3, .int (nI 15)), (4, .int (nI i))] ∧ ∀ u, u < i → ¬ cf_okC nc S P gm u) 15 (fun H locs ls b hI => ?_) (fun i H locs ls b hi hI ih => ?_) () ⟨hW, hS, lv_sub hl [3, 4, 2, 1, 0] rfl, fun u hu => absurd hu (Nat.not_lt_zero u)⟩
  · obtain ⟨hW, hS, hl, hI⟩ := hI
    refine lv_iload hx hb dX5_playableCopyOf_11 (lv_at hl 4 rfl) ?_
    refine lv_iload_n hx hb dX5_playableCopyOf_13 rfl (lv_at hl 3 rfl) ?_
    refine lv_icmp_ge (tgt := 62) hx hb dX5_playableCopyOf_14 (by decide) (fun c14_1 => ?_) (fun c14_1 => (by first | exact absurd (nI_le (Nat.le_refl 15) (by decide)) c14_1 | exact absurd c14_1 (nI_le (Nat.le_refl 15) (by decide))))
    refine lv_null hx hb dX5_playableCopyOf_62 ?_
    exact W.aret (v := .null) hx hb hr (Or.inl ⟨_, rfl⟩) (Or.inl rfl) (fun t9 ht9 hw9 => ⟨⟨none, (), rfl, ⟨none, Or.inl ⟨rfl, hI⟩, rfl⟩, cf_W.re ht9 hW⟩, hS.F ht9⟩) hS.2.2 dX5_playableCopyOf_63
  · obtain ⟨hW, hS, hl, hI⟩ := hI
    refine lv_iload hx hb dX5_playableCopyOf_11 (lv_at hl 4 rfl) ?_
    refine lv_iload_n hx hb dX5_playableCopyOf_13 rfl (lv_at hl 3 rfl) ?_
    refine lv_icmp_ge (tgt := 62) hx hb dX5_playableCopyOf_14 (by decide) (fun c14_2 => (by first | exact absurd c14_2 (nI_ge hi (by decide)) | exact absurd (nI_ge hi (by decide)) c14_2)) (fun c14_2 => ?_)
    refine lv_aload_n hx hb dX5_playableCopyOf_17 rfl (lv_at hl 2 rfl) ?_
    refine lv_iload hx hb dX5_playableCopyOf_18 (lv_at hl 4 rfl) ?_
    by_cases hin : i < nc
    · refine cf_aldN (t0 := 6) (C := RX0) (n := 15) (v := .ref (ad 0 i)) hx hb hT.1 hW cf_e14 rfl i rfl hi (by decide) dX5_playableCopyOf_20 (cf_rwS ((hO i hi).trans (if_pos hin))) ?_
      refine lv_astore (lv' := [(5, .ref (ad 0 i)), (0, .ref (ad 5 0)), (1, .ref (ad 1 gm)), (2, .ref (ad 14 0)), (3, .int (nI 15)), (4, .int (nI i))]) hx hb dX5_playableCopyOf_21 hl (by decide) rfl (fun ls hl => ?_)
      refine lv_aload hx hb dX5_playableCopyOf_23 (lv_at hl 0 rfl) ?_
      refine lv_ifnull hx hb dX5_playableCopyOf_25 ?_
      refine lv_aload hx hb dX5_playableCopyOf_28 (lv_at hl 0 rfl) ?_
      refine cf_get (v := .ref (ad 1 (P 0 i 0))) (ci := 0) (C := RX0) (T := TX0) (N := 4) hx hb hts (fun _ h => List.mem_cons_of_mem _ (List.mem_append_left _ (List.mem_append_right _ (h)))) hown hT.1 hW (cf_e0 hin) rfl 1 (by decide) (hts (.fieldLink RX5 114 "GameCafe$Copy" "game" "LGameCafe$Game;") (List.mem_of_getElem? (i := 2) rfl)) (fun _ h9 => h9) rfl dX5_playableCopyOf_30 ?_
      refine lv_aload_n hx hb dX5_playableCopyOf_33 rfl (lv_at hl 2 rfl) ?_
      refine lv_acmp_ne (rx := (some (ad 1 (P 0 i 0)))) (ry := (some (ad 1 gm))) (tgt := 56) hx hb dX5_playableCopyOf_34 (by decide) (fun c34_3 => ?_) (fun c34_3 => ?_)
      · refine lv_iinc (v := (nI (i + 1))) (lv' := [(4, .int (nI (i + 1))), (5, .ref (ad 0 i)), (0, .ref (ad 5 0)), (1, .ref (ad 1 gm)), (2, .ref (ad 14 0)), (3, .int (nI 15))]) hx hb dX5_playableCopyOf_56 hl (k := 5) rfl (nI_1 i) (by decide) rfl (fun ls hl => ?_)
        refine lv_goto (tgt := 11) hx hb dX5_playableCopyOf_59 (by decide) ?_
        exact ih _ _ _ () ⟨hW, hS, lv_sub hl [2, 3, 4, 5, 0] rfl, (cf_snoc hI (fun h => c34_3 (congrArg some (congrArg (ad 1) h.2.1))))⟩
      · have hgm : P 0 i 0 = gm := (hW.inj (cf_e1 (hG i hin)) (cf_e1 hg) (Option.some.inj (c34_3))).2
        refine lv_aload hx hb dX5_playableCopyOf_37 (lv_at hl 0 rfl) ?_
        refine cf_get (v := .int (S 0 i 0)) (ci := 0) (C := RX0) (T := TX0) (N := 4) hx hb hts (fun _ h => List.mem_cons_of_mem _ (List.mem_append_left _ (List.mem_append_right _ (h)))) hown hT.1 hW (cf_e0 hin) rfl 3 (by decide) (hts (.fieldLink RX5 109 "GameCafe$Copy" "place" "I") (List.mem_of_getElem? (i := 3) rfl)) (fun _ h9 => h9) rfl dX5_playableCopyOf_39 ?_
        refine lv_if_ne (tgt := 56) hx hb dX5_playableCopyOf_42 (by decide) (fun c42_4 => ?_) (fun c42_4 => ?_)
        · refine lv_iinc (v := (nI (i + 1))) (lv' := [(4, .int (nI (i + 1))), (5, .ref (ad 0 i)), (0, .ref (ad 5 0)), (1, .ref (ad 1 gm)), (2, .ref (ad 14 0)), (3, .int (nI 15))]) hx hb dX5_playableCopyOf_56 hl (k := 5) rfl (nI_1 i) (by decide) rfl (fun ls hl => ?_)
          refine lv_goto (tgt := 11) hx hb dX5_playableCopyOf_59 (by decide) ?_
          exact ih _ _ _ () ⟨hW, hS, lv_sub hl [2, 3, 4, 5, 0] rfl, (cf_snoc hI (fun h => c42_4 h.2.2.1))⟩
        · refine lv_aload hx hb dX5_playableCopyOf_45 (lv_at hl 0 rfl) ?_
          refine va_calli (va_runV (As := []) (rest := []) ⟨hx, hb, hml, hown, hts⟩ (c_X0_isPlayable l D cT z ad nc ng S P O hin (hG i hin)) (cwV 0 hts gX5_playableCopyOf_X0_isPlayable rfl rfl rfl (by decide +kernel) ⟨Nat.le_of_ble_eq_true rfl, Nat.le_of_ble_eq_true rfl⟩) (cf_preV (T := TX0) (N := 4) hT hS hW (cf_e0 hin) rfl) rfl rfl hl.1 rfl (lv_room (Nat.le_of_ble_eq_true rfl)) dX5_playableCopyOf_47 ⟨Nat.le_of_ble_eq_true rfl, Nat.le_of_ble_eq_true rfl⟩) hS (fun _ _ h => h) (fun _ h => h) (fun r5 ur5 t9 H locs ht hvm hw hW hz1 hk1 hS => ?_)
          have hW := cf_W.er ht hW
          refine lv_if_eq (tgt := 56) hx hb dX5_playableCopyOf_50 (by decide) (fun c50_6 => ?_) (fun c50_6 => ?_)
          · refine lv_iinc (v := (nI (i + 1))) (lv' := [(4, .int (nI (i + 1))), (5, .ref (ad 0 i)), (0, .ref (ad 5 0)), (1, .ref (ad 1 gm)), (2, .ref (ad 14 0)), (3, .int (nI 15))]) hx hb dX5_playableCopyOf_56 hl (k := 5) rfl (nI_1 i) (by decide) rfl (fun ls hl => ?_)
            refine lv_goto (tgt := 11) hx hb dX5_playableCopyOf_59 (by decide) ?_
            exact ih _ _ _ () ⟨hW, hS, lv_sub hl [2, 3, 4, 5, 0] rfl, (cf_snoc hI (fun h => hw.f c50_6 h.2.2.2))⟩
          · refine lv_aload hx hb dX5_playableCopyOf_53 (lv_at hl 0 rfl) ?_
            exact W.aret (v := .ref (ad 0 i)) hx hb hr (Or.inl ⟨_, rfl⟩) (Or.inr ⟨_, rfl⟩) (fun t9 ht9 hw9 => ⟨⟨(some (ad 0 i)), (), rfl, ⟨some i, Or.inr ⟨i, rfl, hi, ⟨hin, hgm, c42_4, hw.t c50_6⟩, hI⟩, rfl⟩, cf_W.re ht9 hW⟩, hS.F ht9⟩) hS.2.2 dX5_playableCopyOf_55
    · refine cf_aldN (t0 := 6) (C := RX0) (n := 15) (v := .null) hx hb hT.1 hW cf_e14 rfl i rfl hi (by decide) dX5_playableCopyOf_20 (cf_rw0 ((hO i hi).trans (if_neg hin))) ?_
      refine lv_astoreN (lv' := [(5, .null), (0, .ref (ad 5 0)), (1, .ref (ad 1 gm)), (2, .ref (ad 14 0)), (3, .int (nI 15)), (4, .int (nI i))]) hx hb dX5_playableCopyOf_21 hl (by decide) rfl (fun ls hl => ?_)
      refine lv_aloadN hx hb dX5_playableCopyOf_23 (lv_at hl 0 rfl) ?_
      refine lv_ifnullN (tgt := 56) hx hb dX5_playableCopyOf_25 (by decide) ?_
      refine lv_iinc (v := (nI (i + 1))) (lv' := [(4, .int (nI (i + 1))), (5, .null), (0, .ref (ad 5 0)), (1, .ref (ad 1 gm)), (2, .ref (ad 14 0)), (3, .int (nI 15))]) hx hb dX5_playableCopyOf_56 hl (k := 5) rfl (nI_1 i) (by decide) rfl (fun ls hl => ?_)
      refine lv_goto (tgt := 11) hx hb dX5_playableCopyOf_59 (by decide) ?_
      exact ih _ _ _ () ⟨hW, hS, lv_sub hl [2, 3, 4, 5, 0] rfl, (cf_snoc hI (fun h => hin h.1))⟩
set_option maxHeartbeats 4000000 in
set_option maxRecDepth 100000 in
/-- the lowest of the staff who knows a game and is free -/
theorem c_X5_freeTeacherOf (l : Launch) (D : va_G) (cT : Nat → ClassId) (z : Nat) (ad : cf_Ad) (nc ng : Nat) (S : cf_S) (P : cf_Pt) (O : Nat → Int64) {gm : Nat} (hg : gm < 5) (x : Int32) (hxg : x = nI gm) : Met l yX5_freeTeacherOf wsX5_freeTeacherOf ({ frames := 0, cells := 0, slots := 0, locals := 0 }) (va_Pc [.ref (ad 5 0), .int x] (cf_P D cT z (cf_E cT nc ng S P O ad) ad)) (cf_Qq D z (fun (r : Option Nat) (_ : Unit) => ∃ b : Option Nat, cf_fst (cf_okS S gm) 3 b ∧ r = b.map (ad 4)) (fun _ => (cf_E cT nc ng S P O ad)) (fun _ => ad)) 0 0 (fun q => z ≤ q) := by
  refine Met.ofW (cc := cX5_freeTeacherOf) (maxL := 6) (ret := (some (.object "GameCafe$Teacher"))) (by decide) rfl ?_
  intro p e s m args below meth c s₁ B hml hv
  obtain ⟨rfl, hW, hT⟩ := hv
  have hx := B.exec
  have hb := B.bytes
  have hr := B.returns
  have hts := atoms_spec (ws := wsX5_freeTeacherOf) B.pre
  have hown : s.vm.findClass RX5 = some m.cls := findClass_of_methodNamed B.named
  have hlocks := B.notSynchronized
  have hS : va_S (fun q => z ≤ q) s.heap s.heap [] := va_S.rf
  have hl := lv_entry ([.ref (ad 5 0), .int x]) (n := 6) (Nat.le_of_ble_eq_true rfl)
  rw [lg_entry_eq]
  generalize (lg_sl ([.ref (ad 5 0), .int x]) ++ List.replicate (6 - (lg_sl ([.ref (ad 5 0), .int x])).length) Slot.unset).toArray = ls at hl ⊢
  have hl : lv_has ls 6 [(0, .ref (ad 5 0)), (1, .int x)] := hl
  skip
  refine lv_aload_n hx hb dX5_freeTeacherOf_0 rfl (lv_at hl 0 rfl) ?_
  refine cf_get (v := .ref (ad 13 0)) (ci := 5) (C := RX5) (T := TX5) (N := 9) hx hb hts (fun _ h => List.mem_cons_of_mem _ (List.mem_append_left _ (List.mem_append_right _ (h)))) hown hT.1 hW cf_e5 rfl 2 (by decide) (hts (.fieldLink RX5 23 "GameCafe" "staff" "[LGameCafe$Teacher;") (List.mem_of_getElem? (i := 1) rfl)) (fun _ h9 => h9) rfl dX5_freeTeacherOf_1 ?_
  refine lv_astore_n (lv' := [(2, .ref (ad 13 0)), (0, .ref (ad 5 0)), (1, .int x)]) hx hb dX5_freeTeacherOf_4 rfl hl (by decide) rfl (fun ls hl => ?_)
  refine lv_aload_n hx hb dX5_freeTeacherOf_5 rfl (lv_at hl 0 rfl) ?_
  refine cf_alen (t0 := 5) (v := nI 3) hx hb hT.1 hW cf_e13 (ty := .object RX4) rfl rfl dX5_freeTeacherOf_6 ?_
  refine lv_istore_n (lv' := [(3, .int (nI 3)), (2, .ref (ad 13 0)), (0, .ref (ad 5 0)), (1, .int x)]) hx hb dX5_freeTeacherOf_7 rfl hl (by decide) rfl (fun ls hl => ?_)
  refine lv_iconst (v := 0) hx hb dX5_freeTeacherOf_8 (by decide) ?_
  refine lv_istore (lv' := [(4, .int 0), (3, .int (nI 3)), (2, .ref (ad 13 0)), (0, .ref (ad 5 0)), (1, .int x)]) hx hb dX5_freeTeacherOf_9 hl (by decide) rfl (fun ls hl => ?_)
  refine cf_loopW (β := Unit) (fun i H locs ls b => cf_W D z (cf_E cT nc ng S P O ad) ad H ∧ va_S (fun q => z ≤ q) s.heap H locs ∧ lv_has ls 6 [(0, .ref (ad 5 0)), (1, .int x), (2, .ref (ad 13 0)), (3, .int (nI 3)), (4, .int (nI i))] ∧ ∀ u, u < i → ¬ cf_okS S gm u) 3 (fun H locs ls b hI => ?_) (fun i H locs ls b hi hI ih => ?_) () ⟨hW, hS, lv_sub hl [3, 4, 2, 1, 0] rfl, fun u hu => absurd hu (Nat.not_lt_zero u)⟩
  · obtain ⟨hW, hS, hl, hI⟩ := hI
    refine lv_iload hx hb dX5_freeTeacherOf_11 (lv_at hl 4 rfl) ?_
    refine lv_iload_n hx hb dX5_freeTeacherOf_13 rfl (lv_at hl 3 rfl) ?_
    refine lv_icmp_ge (tgt := 54) hx hb dX5_freeTeacherOf_14 (by decide) (fun c14_1 => ?_) (fun c14_1 => (by first | exact absurd (nI_le (Nat.le_refl 3) (by decide)) c14_1 | exact absurd c14_1 (nI_le (Nat.le_refl 3) (by decide))))
    refine lv_null hx hb dX5_freeTeacherOf_54 ?_
    exact W.aret (v := .null) hx hb hr (Or.inl ⟨_, rfl⟩) (Or.inl rfl) (fun t9 ht9 hw9 => ⟨⟨none, (), rfl, ⟨none, Or.inl ⟨rfl, hI⟩, rfl⟩, cf_W.re ht9 hW⟩, hS.F ht9⟩) hS.2.2 dX5_freeTeacherOf_55
  · obtain ⟨hW, hS, hl, hI⟩ := hI
    refine lv_iload hx hb dX5_freeTeacherOf_11 (lv_at hl 4 rfl) ?_
    refine lv_iload_n hx hb dX5_freeTeacherOf_13 rfl (lv_at hl 3 rfl) ?_
    refine lv_icmp_ge (tgt := 54) hx hb dX5_freeTeacherOf_14 (by decide) (fun c14_2 => (by first | exact absurd c14_2 (nI_ge hi (by decide)) | exact absurd (nI_ge hi (by decide)) c14_2)) (fun c14_2 => ?_)
    refine lv_aload_n hx hb dX5_freeTeacherOf_17 rfl (lv_at hl 2 rfl) ?_
    refine lv_iload hx hb dX5_freeTeacherOf_18 (lv_at hl 4 rfl) ?_
    refine cf_aldN (t0 := 5) (C := RX4) (n := 3) (v := .ref (ad 4 i)) hx hb hT.1 hW cf_e13 rfl i rfl hi (by decide) dX5_freeTeacherOf_20 rfl ?_
    refine lv_astore (lv' := [(5, .ref (ad 4 i)), (0, .ref (ad 5 0)), (1, .int x), (2, .ref (ad 13 0)), (3, .int (nI 3)), (4, .int (nI i))]) hx hb dX5_freeTeacherOf_21 hl (by decide) rfl (fun ls hl => ?_)
    refine lv_aload hx hb dX5_freeTeacherOf_23 (lv_at hl 0 rfl) ?_
    refine cf_get (v := .ref (ad 10 i)) (ci := 4) (C := RX4) (T := TX4) (N := 2) hx hb hts (fun _ h => List.mem_cons_of_mem _ (List.mem_append_right _ (h))) hown hT.1 hW (cf_e4 hi) rfl 0 (by decide) (hts (.fieldLink RX5 93 "GameCafe$Teacher" "knows" "[Z") (List.mem_of_getElem? (i := 2) rfl)) (fun _ h9 => h9) rfl dX5_freeTeacherOf_25 ?_
    refine lv_iload_n hx hb dX5_freeTeacherOf_28 rfl (lv_at hl 2 rfl) ?_
    refine cf_zldN (t0 := 1) (n := 5) (f := S 10 i) (v := (S 10 i gm)) hx hb hT.1 hW (cf_e10 hi) rfl gm hxg hg (by decide) dX5_freeTeacherOf_29 rfl ?_
    refine lv_if_eq (tgt := 48) hx hb dX5_freeTeacherOf_30 (by decide) (fun c30_3 => ?_) (fun c30_3 => ?_)
    · refine lv_iinc (v := (nI (i + 1))) (lv' := [(4, .int (nI (i + 1))), (5, .ref (ad 4 i)), (0, .ref (ad 5 0)), (1, .int x), (2, .ref (ad 13 0)), (3, .int (nI 3))]) hx hb dX5_freeTeacherOf_48 hl (k := 5) rfl (nI_1 i) (by decide) rfl (fun ls hl => ?_)
      refine lv_goto (tgt := 11) hx hb dX5_freeTeacherOf_51 (by decide) ?_
      exact ih _ _ _ () ⟨hW, hS, lv_sub hl [2, 3, 4, 5, 0] rfl, (cf_snoc hI (fun h => h.1 c30_3))⟩
    · refine lv_aload hx hb dX5_freeTeacherOf_33 (lv_at hl 0 rfl) ?_
      refine cf_get (v := .int (S 4 i 0)) (ci := 4) (C := RX4) (T := TX4) (N := 2) hx hb hts (fun _ h => List.mem_cons_of_mem _ (List.mem_append_right _ (h))) hown hT.1 hW (cf_e4 hi) rfl 1 (by decide) (hts (.fieldLink RX5 149 "GameCafe$Teacher" "busyUntil" "I") (List.mem_of_getElem? (i := 3) rfl)) (fun _ h9 => h9) rfl dX5_freeTeacherOf_35 ?_
      refine lv_aload_n hx hb dX5_freeTeacherOf_38 rfl (lv_at hl 1 rfl) ?_
      refine cf_get (v := .int (S 5 0 2)) (ci := 5) (C := RX5) (T := TX5) (N := 9) hx hb hts (fun _ h => List.mem_cons_of_mem _ (List.mem_append_left _ (List.mem_append_right _ (h)))) hown hT.1 hW cf_e5 rfl 8 (by decide) (hts (.fieldLink RX5 49 "GameCafe" "now" "I") (List.mem_of_getElem? (i := 4) rfl)) (fun _ h9 => h9) rfl dX5_freeTeacherOf_39 ?_
      refine lv_icmp_gt (tgt := 48) hx hb dX5_freeTeacherOf_42 (by decide) (fun c42_4 => ?_) (fun c42_4 => ?_)
      · refine lv_iinc (v := (nI (i + 1))) (lv' := [(4, .int (nI (i + 1))), (5, .ref (ad 4 i)), (0, .ref (ad 5 0)), (1, .int x), (2, .ref (ad 13 0)), (3, .int (nI 3))]) hx hb dX5_freeTeacherOf_48 hl (k := 5) rfl (nI_1 i) (by decide) rfl (fun ls hl => ?_)
        refine lv_goto (tgt := 11) hx hb dX5_freeTeacherOf_51 (by decide) ?_
        exact ih _ _ _ () ⟨hW, hS, lv_sub hl [2, 3, 4, 5, 0] rfl, (cf_snoc hI (fun h => h.2 c42_4))⟩
      · refine lv_aload hx hb dX5_freeTeacherOf_45 (lv_at hl 0 rfl) ?_
        exact W.aret (v := .ref (ad 4 i)) hx hb hr (Or.inl ⟨_, rfl⟩) (Or.inr ⟨_, rfl⟩) (fun t9 ht9 hw9 => ⟨⟨(some (ad 4 i)), (), rfl, ⟨some i, Or.inr ⟨i, rfl, hi, ⟨c30_3, c42_4⟩, hI⟩, rfl⟩, cf_W.re ht9 hW⟩, hS.F ht9⟩) hS.2.2 dX5_freeTeacherOf_47
set_option maxHeartbeats 4000000 in
set_option maxRecDepth 100000 in
/-- could some people be seated for a game that they know -/
theorem c_X5_canSeatKnowing (l : Launch) (D : va_G) (cT : Nat → ClassId) (z : Nat) (ad : cf_Ad) (nc ng : Nat) (S : cf_S) (P : cf_Pt) (O : Nat → Int64) {gm : Nat} (hg : gm < 5) (x : Int32) (hO : ∀ j, j < 15 → P 14 0 j = if j < nc then j + 1 else 0) (hG : ∀ j, j < nc → P 0 j 0 < 5) : Met l yX5_canSeatKnowing wsX5_canSeatKnowing ({ frames := 2, cells := 0, slots := 0, locals := 46 }) (va_Pc [.ref (ad 5 0), .int x, .ref (ad 1 gm)] (cf_P D cT z (cf_E cT nc ng S P O ad) ad)) (cf_Qi D z (fun (r : Int32) (_ : Unit) => cf_B r (S 5 0 1 < 60 ∧ (¬ x < S 1 gm 0 ∧ ¬ S 1 gm 1 < x) ∧ (∃ t, cf_best (cf_okT S x) (cf_ltT S) 6 = some t) ∧ ∃ u, cf_fst (cf_okC nc S P gm) 15 (some u))) (fun _ => (cf_E cT nc ng S P O ad)) (fun _ => ad)) 0 0 (fun q => z ≤ q) := by
  refine Met.ofW (cc := cX5_canSeatKnowing) (maxL := 3) (ret := (some .boolean)) (by decide) rfl ?_
  intro p e s m args below meth c s₁ B hml hv
  obtain ⟨rfl, hW, hT⟩ := hv
  have hx := B.exec
  have hb := B.bytes
  have hr := B.returns
  have hts := atoms_spec (ws := wsX5_canSeatKnowing) B.pre
  have hown : s.vm.findClass RX5 = some m.cls := findClass_of_methodNamed B.named
  have hlocks := B.notSynchronized
  have hS : va_S (fun q => z ≤ q) s.heap s.heap [] := va_S.rf
  have hl := lv_entry ([.ref (ad 5 0), .int x, .ref (ad 1 gm)]) (n := 3) (Nat.le_of_ble_eq_true rfl)
  rw [lg_entry_eq]
  generalize (lg_sl ([.ref (ad 5 0), .int x, .ref (ad 1 gm)]) ++ List.replicate (3 - (lg_sl ([.ref (ad 5 0), .int x, .ref (ad 1 gm)])).length) Slot.unset).toArray = ls at hl ⊢
  have hl : lv_has ls 3 [(0, .ref (ad 5 0)), (1, .int x), (2, .ref (ad 1 gm))] := hl
  skip
  refine lv_aload_n hx hb dX5_canSeatKnowing_0 rfl (lv_at hl 0 rfl) ?_
  refine cf_get (v := .int (S 5 0 1)) (ci := 5) (C := RX5) (T := TX5) (N := 9) hx hb hts (fun _ h => List.mem_cons_of_mem _ (List.mem_append_left _ (List.mem_append_left _ (List.mem_append_left _ (List.mem_append_right _ (h)))))) hown hT.1 hW cf_e5 rfl 7 (by decide) (hts (.fieldLink RX5 46 "GameCafe" "seated" "I") (List.mem_of_getElem? (i := 1) rfl)) (fun _ h9 => h9) rfl dX5_canSeatKnowing_1 ?_
  refine lv_bipush (v := 60) hx hb dX5_canSeatKnowing_4 (by decide) ?_
  refine lv_icmp_ge (tgt := 37) hx hb dX5_canSeatKnowing_6 (by decide) (fun c6_1 => ?_) (fun c6_1 => ?_)
  · refine lv_iconst (v := 0) hx hb dX5_canSeatKnowing_37 (by decide) ?_
    exact W.zret (v := 0) (ty := .boolean) hx hb hr (by rfl) (fun t9 ht9 hw9 => ⟨⟨0, (), rfl, Or.inr ⟨rfl, fun h => absurd h.1 (Int32.not_lt.mpr c6_1)⟩, cf_W.re ht9 hW⟩, hS.F ht9⟩) hS.2.2 dX5_canSeatKnowing_38
  · refine lv_aload_n hx hb dX5_canSeatKnowing_9 rfl (lv_at hl 2 rfl) ?_
    refine lv_iload_n hx hb dX5_canSeatKnowing_10 rfl (lv_at hl 1 rfl) ?_
    refine va_calli (va_runV (As := [.int x]) (rest := []) ⟨hx, hb, hml, hown, hts⟩ (c_X1_isFor l D cT z ad nc ng S P O hg x) (cwV 1 hts gX5_canSeatKnowing_X1_isFor rfl rfl rfl (by decide +kernel) ⟨Nat.le_of_ble_eq_true rfl, Nat.le_of_ble_eq_true rfl⟩) (cf_preV (T := TX1) (N := 6) hT hS hW (cf_e1 hg) rfl) rfl rfl hl.1 rfl (lv_room (Nat.le_of_ble_eq_true rfl)) dX5_canSeatKnowing_11 ⟨Nat.le_of_ble_eq_true rfl, Nat.le_of_ble_eq_true rfl⟩) hS (fun _ _ h => h) (fun _ h => h) (fun r2 ur2 t9 H locs ht hvm hw hW hz1 hk1 hS => ?_)
    have hW := cf_W.er ht hW
    have hw1 := hw
    refine lv_if_eq (tgt := 37) hx hb dX5_canSeatKnowing_14 (by decide) (fun c14_3 => ?_) (fun c14_3 => ?_)
    · refine lv_iconst (v := 0) hx hb dX5_canSeatKnowing_37 (by decide) ?_
      exact W.zret (v := 0) (ty := .boolean) hx hb hr (by rfl) (fun t9 ht9 hw9 => ⟨⟨0, (), rfl, Or.inr ⟨rfl, fun h => hw1.f c14_3 h.2.1⟩, cf_W.re ht9 hW⟩, hS.F ht9⟩) hS.2.2 dX5_canSeatKnowing_38
    · refine lv_aload_n hx hb dX5_canSeatKnowing_17 rfl (lv_at hl 0 rfl) ?_
      refine lv_iload_n hx hb dX5_canSeatKnowing_18 rfl (lv_at hl 1 rfl) ?_
      refine va_callq (va_runV (As := [.int x]) (rest := []) ⟨hx, hb, hml, hown, hts⟩ (c_X5_freeTableFor l D cT z ad nc ng S P O x) (cwV 1 hts gX5_canSeatKnowing_X5_freeTableFor rfl rfl rfl (by decide +kernel) ⟨Nat.le_of_ble_eq_true rfl, Nat.le_of_ble_eq_true rfl⟩) (cf_preV (T := TX5) (N := 9) hT hS hW cf_e5 rfl) rfl rfl hl.1 rfl (lv_room (Nat.le_of_ble_eq_true rfl)) dX5_canSeatKnowing_19 ⟨Nat.le_of_ble_eq_true rfl, Nat.le_of_ble_eq_true rfl⟩) hS (fun _ _ h => h) (fun _ h => h) (fun r4 ur4 t9 H locs ht hvm hw hW hz1 hk1 hS => ?_)
      have hW := cf_W.er ht hW
      obtain ⟨b1, hb1, rfl⟩ := hw
      rcases b1 with _ | t1
      · refine lv_ifnullN (tgt := 37) hx hb dX5_canSeatKnowing_22 (by decide) ?_
        refine lv_iconst (v := 0) hx hb dX5_canSeatKnowing_37 (by decide) ?_
        exact W.zret (v := 0) (ty := .boolean) hx hb hr (by rfl) (fun t9 ht9 hw9 => ⟨⟨0, (), rfl, Or.inr ⟨rfl, fun h => by obtain ⟨t, ht⟩ := h.2.2.1; rw [ht] at hb1; cases hb1⟩, cf_W.re ht9 hW⟩, hS.F ht9⟩) hS.2.2 dX5_canSeatKnowing_38
      · refine lv_ifnull hx hb dX5_canSeatKnowing_22 ?_
        refine lv_aload_n hx hb dX5_canSeatKnowing_25 rfl (lv_at hl 0 rfl) ?_
        refine lv_aload_n hx hb dX5_canSeatKnowing_26 rfl (lv_at hl 2 rfl) ?_
        refine va_callq (va_runV (As := [.ref (ad 1 gm)]) (rest := []) ⟨hx, hb, hml, hown, hts⟩ (c_X5_playableCopyOf l D cT z ad nc ng S P O hg hO hG) (cwV 1 hts gX5_canSeatKnowing_X5_playableCopyOf rfl rfl rfl (by decide +kernel) ⟨Nat.le_of_ble_eq_true rfl, Nat.le_of_ble_eq_true rfl⟩) (cf_preV (T := TX5) (N := 9) hT hS hW cf_e5 rfl) rfl rfl hl.1 rfl (lv_room (Nat.le_of_ble_eq_true rfl)) dX5_canSeatKnowing_27 ⟨Nat.le_of_ble_eq_true rfl, Nat.le_of_ble_eq_true rfl⟩) hS (fun _ _ h => h) (fun _ h => h) (fun r5 ur5 t9 H locs ht hvm hw hW hz1 hk1 hS => ?_)
        have hW := cf_W.er ht hW
        obtain ⟨b2, hb2, rfl⟩ := hw
        rcases b2 with _ | u1
        · refine lv_ifnullN (tgt := 37) hx hb dX5_canSeatKnowing_30 (by decide) ?_
          refine lv_iconst (v := 0) hx hb dX5_canSeatKnowing_37 (by decide) ?_
          exact W.zret (v := 0) (ty := .boolean) hx hb hr (by rfl) (fun t9 ht9 hw9 => ⟨⟨0, (), rfl, Or.inr ⟨rfl, fun h => by obtain ⟨u, hu⟩ := h.2.2.2; cases cf_fst_one hb2 hu⟩, cf_W.re ht9 hW⟩, hS.F ht9⟩) hS.2.2 dX5_canSeatKnowing_38
        · refine lv_ifnull hx hb dX5_canSeatKnowing_30 ?_
          refine lv_iconst (v := 1) hx hb dX5_canSeatKnowing_33 (by decide) ?_
          refine lv_goto (tgt := 38) hx hb dX5_canSeatKnowing_34 (by decide) ?_
          exact W.zret (v := 1) (ty := .boolean) hx hb hr (by rfl) (fun t9 ht9 hw9 => ⟨⟨1, (), rfl, Or.inl ⟨rfl, Int32.not_le.mp c6_1, hw1.t c14_3, ⟨t1, hb1.symm⟩, ⟨u1, hb2⟩⟩, cf_W.re ht9 hW⟩, hS.F ht9⟩) hS.2.2 dX5_canSeatKnowing_38
