/-- how many parts of a kind come over, as the reference reckons -/
def cf_comeM (w h o : Int32) : Int32 := if (if w - h < o then w - h else o) < 0 then 0 else (if w - h < o then w - h else o)
def cf_comesM (w h o : Nat → Int32) : Nat → Int32
  | 0 => 0
  | n + 1 => cf_comesM w h o n + cf_comeM (w n) (h n) (o n)
def cf_fillM (S T : cf_S) (gm cp dp i : Nat) (r : Int32) : Prop :=
  (∀ k, k < 4 → T 17 14 (4 * cp + k) = if k < i then S 17 14 (4 * cp + k) + cf_comeM (S 17 4 (4 * gm + k)) (S 17 14 (4 * cp + k)) (S 17 14 (4 * dp + k)) else S 17 14 (4 * cp + k)) ∧
  (∀ k, k < 4 → T 17 14 (4 * dp + k) = if k < i then S 17 14 (4 * dp + k) - cf_comeM (S 17 4 (4 * gm + k)) (S 17 14 (4 * cp + k)) (S 17 14 (4 * dp + k)) else S 17 14 (4 * dp + k)) ∧
  (∀ n, (∀ k, k < 4 → n ≠ 4 * cp + k) → (∀ k, k < 4 → n ≠ 4 * dp + k) → T 17 14 n = S 17 14 n) ∧
  (∀ a b, ¬ (a = 17 ∧ b = 14) → T a b = S a b) ∧ r = cf_comesM (fun k => S 17 4 (4 * gm + k)) (fun k => S 17 14 (4 * cp + k)) (fun k => S 17 14 (4 * dp + k)) i
theorem cf_fillM0 (S : cf_S) (gm cp dp : Nat) : cf_fillM S S gm cp dp 0 0 := ⟨fun k _ => by simp, fun k _ => by simp, fun _ _ _ => rfl, fun _ _ _ => rfl, rfl⟩
theorem cf_fillMS {S T : cf_S} {gm cp dp i : Nat} {r y : Int32} (hi : i < 4) (hne : dp ≠ cp) (h : cf_fillM S T gm cp dp i r) (hy : cf_comeM (T 17 4 (4 * gm + i)) (T 17 14 (4 * cp + i)) (T 17 14 (4 * dp + i)) = y) :
    cf_fillM S (cf_s3 (cf_s3 T 17 14 (4 * cp + i) (T 17 14 (4 * cp + i) + y)) 17 14 (4 * dp + i) (T 17 14 (4 * dp + i) - y)) gm cp dp (i + 1) (r + y) := by
  obtain ⟨h1, h2, h3, h4, h5⟩ := h
  have e1 : T 17 14 (4 * cp + i) = S 17 14 (4 * cp + i) := by rw [h1 i hi, if_neg (Nat.lt_irrefl i)]
  have e2 : T 17 14 (4 * dp + i) = S 17 14 (4 * dp + i) := by rw [h2 i hi, if_neg (Nat.lt_irrefl i)]
  have e3 : T 17 4 (4 * gm + i) = S 17 4 (4 * gm + i) := by rw [h4 17 4 (by simp)]
  rw [e1, e2, e3] at hy
  rw [e1, e2]
  refine ⟨fun k hk4 => ?_, fun k hk4 => ?_, fun n hn1 hn2 => ?_, fun a b ha => ?_, ?_⟩
  · rw [cf_s3n (fun q => by omega)]
    by_cases hk : k = i
    · subst hk
      rw [cf_s3s, if_pos (Nat.lt_succ_self k), hy]
    · rw [cf_s3n (fun q => by omega), h1 k hk4]
      by_cases hl : k < i
      · rw [if_pos hl, if_pos (by omega)]
      · rw [if_neg hl, if_neg (by omega)]
  · by_cases hk : k = i
    · subst hk
      rw [cf_s3s, if_pos (Nat.lt_succ_self k), hy]
    · rw [cf_s3n (fun q => by omega), cf_s3n (fun q => by omega), h2 k hk4]
      by_cases hl : k < i
      · rw [if_pos hl, if_pos (by omega)]
      · rw [if_neg hl, if_neg (by omega)]
  · rw [cf_s3n (fun q => hn2 i hi q.2.2), cf_s3n (fun q => hn1 i hi q.2.2), h3 n hn1 hn2]
  · funext j
    rw [cf_s3n (fun q => ha ⟨q.1, q.2.1⟩), cf_s3n (fun q => ha ⟨q.1, q.2.1⟩), h4 a b ha]
  · rw [h5, ← hy]; rfl
set_option maxHeartbeats 4000000 in
set_option maxRecDepth 100000 in
/-- X6_fill -/
theorem c_X6_fill (l : Launch) (D : va_G) (cT : Nat → ClassId) (z : Nat) (ad : cf_Ad) (nc ng : Nat) (S : cf_S) (P : cf_Pt) (O : Nat → Int64) (x y : Int32) (hn : S 6 0 11 = nI nc) (hnc : nc ≤ 15) (hM : ∀ j, j < nc → S 17 12 j = nI (P 0 j 0) ∧ P 0 j 0 < 5) : Met l yX6_fill wsX6_fill ({ frames := 2, cells := 0, slots := 0, locals := 43 }) (va_Pc [.ref (ad 6 0), .int x, .int y] (cf_P D cT z (cf_E cT nc ng S P O ad) ad)) (cf_Qi D z (fun (r : Int32) (T : cf_S) => (¬ (cf_ix x nc ∧ cf_ix y nc) ∧ T = (cf_s3 S 6 0 23 1)) ∨ ∃ cp dp : Nat, cp < nc ∧ x = nI cp ∧ dp < nc ∧ y = nI dp ∧ ((¬ (cp ≠ dp ∧ P 0 cp 0 = P 0 dp 0) ∧ T = cf_s3 (cf_s3 S 6 0 23 0) 6 0 23 2) ∨ ((cp ≠ dp ∧ P 0 cp 0 = P 0 dp 0) ∧ ¬ (S 17 13 cp = 0 ∧ S 17 13 dp = 0) ∧ T = cf_s3 (cf_s3 S 6 0 23 0) 6 0 23 3) ∨ ((cp ≠ dp ∧ P 0 cp 0 = P 0 dp 0) ∧ (S 17 13 cp = 0 ∧ S 17 13 dp = 0) ∧ cf_fillM (cf_s3 S 6 0 23 0) T (P 0 cp 0) cp dp 4 r))) (fun T => cf_E cT nc ng T P O ad) (fun _ => ad)) 0 0 (fun q => z ≤ q) := by
  refine Met.ofW (cc := cX6_fill) (maxL := 7) (ret := (some .int)) (by decide) rfl ?_
  intro p e s m args below meth c s₁ B hml hv
  obtain ⟨rfl, hW, hT⟩ := hv
  have hx := B.exec
  have hb := B.bytes
  have hr := B.returns
  have hts := atoms_spec (ws := wsX6_fill) B.pre
  have hown : s.vm.findClass RX6 = some m.cls := findClass_of_methodNamed B.named
  have hlocks := B.notSynchronized
  have hS : va_S (fun q => z ≤ q) s.heap s.heap [] := va_S.rf
  have hl := lv_entry ([.ref (ad 6 0), .int x, .int y]) (n := 7) (Nat.le_of_ble_eq_true rfl)
  rw [lg_entry_eq]
  generalize (lg_sl ([.ref (ad 6 0), .int x, .int y]) ++ List.replicate (7 - (lg_sl ([.ref (ad 6 0), .int x, .int y])).length) Slot.unset).toArray = ls at hl ⊢
  have hl : lv_has ls 7 [(0, .ref (ad 6 0)), (1, .int x), (2, .int y)] := hl
  skip
  refine lv_aload_n hx hb dX6_fill_0 rfl (lv_at hl 0 rfl) ?_
  refine lv_aload_n hx hb dX6_fill_1 rfl (lv_at hl 0 rfl) ?_
  refine lv_iload_n hx hb dX6_fill_2 rfl (lv_at hl 1 rfl) ?_
  refine va_calli (va_runV (As := [.int x]) (rest := [.ref (ad 6 0)]) ⟨hx, hb, hml, hown, hts⟩ (c_X6_isCopy l D cT z ad nc ng S P O x hn hnc) (cwV 1 hts gX6_fill_X6_isCopy rfl rfl rfl (by decide +kernel) ⟨Nat.le_of_ble_eq_true rfl, Nat.le_of_ble_eq_true rfl⟩) (cf_preV (T := TX6) (N := 24) hT hS hW cf_e6 rfl) rfl rfl hl.1 rfl (lv_room (Nat.le_of_ble_eq_true rfl)) dX6_fill_3 ⟨Nat.le_of_ble_eq_true rfl, Nat.le_of_ble_eq_true rfl⟩) hS (fun _ _ h => h) (fun _ h => h) (fun r1 ur1 t9 H locs ht hvm hw hW hz1 hk1 hS => ?_)
  have hW := cf_W.er ht hW
  have h0 := hw
  refine lv_if_eq (tgt := 17) hx hb dX6_fill_6 (by decide) (fun c6_2 => ?_) (fun c6_2 => ?_)
  · have hi := h0.f c6_2
    refine lv_iconst (v := 1) hx hb dX6_fill_17 (by decide) ?_
    refine lv_goto (tgt := 22) hx hb dX6_fill_18 (by decide) ?_
    refine cf_putE (v := .int 1) (ty := .int) (ci := 6) (C := RX6) (T := TX6) (N := 24) hx hb hts (fun _ h => List.mem_cons_of_mem _ (List.mem_append_right _ (h))) tyX6 tyX6_ok nmX6 hown hT.1 hW hS cf_e6 rfl 23 (by decide) (hts (.fieldLink RX6 70 "GameCafeModel" "thrown" "I") (List.mem_of_getElem? (i := 1) rfl)) (fun _ h9 => h9) rfl (by decide +kernel) rfl rfl (Nat.le_of_ble_eq_true rfl) dX6_fill_22 (E2 := (cf_E cT nc ng (cf_s3 S 6 0 23 1) P O ad)) (cf_upS 6 0 (upd (S 6 0) 23 1) rfl) (fun H locs hW hS => ?_)
    refine lv_aload_n hx hb dX6_fill_25 rfl (lv_at hl 0 rfl) ?_
    refine cf_get (v := .int 1) (ci := 6) (C := RX6) (T := TX6) (N := 24) hx hb hts (fun _ h => List.mem_cons_of_mem _ (List.mem_append_right _ (h))) hown hT.1 hW cf_e6 rfl 23 (by decide) (hts (.fieldLink RX6 70 "GameCafeModel" "thrown" "I") (List.mem_of_getElem? (i := 1) rfl)) (fun _ h9 => h9) (congrArg (fun x => some (Value.int x)) (by simp [cf_s3, cf_g2, upd] : (cf_s3 S 6 0 23 1) 6 0 23 = 1)) dX6_fill_26 ?_
    refine lv_if_le (tgt := 34) hx hb dX6_fill_29 (by decide) (fun c29_3 => (by first | exact absurd c29_3 (by decide) | exact absurd (by decide) c29_3)) (fun c29_3 => ?_)
    refine lv_iconst (v := 0) hx hb dX6_fill_32 (by decide) ?_
    exact W.iret (v := 0) hx hb hr (fun t9 ht9 hw9 => ⟨⟨0, (cf_s3 S 6 0 23 1), rfl, Or.inl ⟨fun q => hi q.1, rfl⟩, cf_W.re ht9 hW⟩, hS.F ht9⟩) hS.2.2 dX6_fill_33
  · have hi := h0.t c6_2
    refine lv_aload_n hx hb dX6_fill_9 rfl (lv_at hl 0 rfl) ?_
    refine lv_iload_n hx hb dX6_fill_10 rfl (lv_at hl 2 rfl) ?_
    refine va_calli (va_runV (As := [.int y]) (rest := [.ref (ad 6 0)]) ⟨hx, hb, hml, hown, hts⟩ (c_X6_isCopy l D cT z ad nc ng S P O y hn hnc) (cwV 1 hts gX6_fill_X6_isCopy rfl rfl rfl (by decide +kernel) ⟨Nat.le_of_ble_eq_true rfl, Nat.le_of_ble_eq_true rfl⟩) (cf_preV (T := TX6) (N := 24) hT hS hW cf_e6 rfl) rfl rfl hl.1 rfl (lv_room (Nat.le_of_ble_eq_true rfl)) dX6_fill_11 ⟨Nat.le_of_ble_eq_true rfl, Nat.le_of_ble_eq_true rfl⟩) hS (fun _ _ h => h) (fun _ h => h) (fun r4 ur4 t9 H locs ht hvm hw hW hz1 hk1 hS => ?_)
    have hW := cf_W.er ht hW
    have k0 := hw
    refine lv_if_ne (tgt := 21) hx hb dX6_fill_14 (by decide) (fun c14_5 => ?_) (fun c14_5 => ?_)
    · have hy := k0.t c14_5
      refine lv_iconst (v := 0) hx hb dX6_fill_21 (by decide) ?_
      refine cf_putE (v := .int 0) (ty := .int) (ci := 6) (C := RX6) (T := TX6) (N := 24) hx hb hts (fun _ h => List.mem_cons_of_mem _ (List.mem_append_right _ (h))) tyX6 tyX6_ok nmX6 hown hT.1 hW hS cf_e6 rfl 23 (by decide) (hts (.fieldLink RX6 70 "GameCafeModel" "thrown" "I") (List.mem_of_getElem? (i := 1) rfl)) (fun _ h9 => h9) rfl (by decide +kernel) rfl rfl (Nat.le_of_ble_eq_true rfl) dX6_fill_22 (E2 := (cf_E cT nc ng (cf_s3 S 6 0 23 0) P O ad)) (cf_upS 6 0 (upd (S 6 0) 23 0) rfl) (fun H locs hW hS => ?_)
      refine lv_aload_n hx hb dX6_fill_25 rfl (lv_at hl 0 rfl) ?_
      refine cf_get (v := .int 0) (ci := 6) (C := RX6) (T := TX6) (N := 24) hx hb hts (fun _ h => List.mem_cons_of_mem _ (List.mem_append_right _ (h))) hown hT.1 hW cf_e6 rfl 23 (by decide) (hts (.fieldLink RX6 70 "GameCafeModel" "thrown" "I") (List.mem_of_getElem? (i := 1) rfl)) (fun _ h9 => h9) (congrArg (fun x => some (Value.int x)) (by simp [cf_s3, cf_g2, upd] : (cf_s3 S 6 0 23 0) 6 0 23 = 0)) dX6_fill_26 ?_
      refine lv_if_le (tgt := 34) hx hb dX6_fill_29 (by decide) (fun c29_6 => ?_) (fun c29_6 => (by first | exact absurd (by decide) c29_6 | exact absurd c29_6 (by decide)))
      obtain ⟨cp, hc, hxc⟩ := hi
      obtain ⟨dp, hd, hyd⟩ := hy
      obtain ⟨e1, g1⟩ := hM cp hc
      obtain ⟨e2, g2⟩ := hM dp hd
      refine lv_iload_n hx hb dX6_fill_34 rfl (lv_at hl 1 rfl) ?_
      refine lv_iload_n hx hb dX6_fill_35 rfl (lv_at hl 2 rfl) ?_
      refine lv_icmp_eq (tgt := 54) hx hb dX6_fill_36 (by decide) (fun c36_7 => ?_) (fun c36_7 => ?_)
      · refine lv_aload_n hx hb dX6_fill_54 rfl (lv_at hl 0 rfl) ?_
        refine lv_iconst (v := 2) hx hb dX6_fill_55 (by decide) ?_
        refine va_calli (va_runV (As := [.int 2]) (rest := []) ⟨hx, hb, hml, hown, hts⟩ (c_X6_fails l D cT z ad nc ng (cf_s3 S 6 0 23 0) P O 2) (cwV 1 hts gX6_fill_X6_fails rfl rfl rfl (by decide +kernel) ⟨Nat.le_of_ble_eq_true rfl, Nat.le_of_ble_eq_true rfl⟩) (cf_preV (T := TX6) (N := 24) hT hS hW cf_e6 rfl) rfl rfl hl.1 rfl (lv_room (Nat.le_of_ble_eq_true rfl)) dX6_fill_56 ⟨Nat.le_of_ble_eq_true rfl, Nat.le_of_ble_eq_true rfl⟩) hS (fun _ _ h => h) (fun _ h => h) (fun r8 ur8 t9 H locs ht hvm hw hW hz1 hk1 hS => ?_)
        have hW := cf_W.er ht hW
        obtain ⟨hr0, hT0⟩ := hw
        subst hT0
        exact W.iret (v := r8) hx hb hr (fun t9 ht9 hw9 => ⟨⟨r8, (cf_s3 (cf_s3 S 6 0 23 0) 6 0 23 2), rfl, Or.inr ⟨cp, dp, hc, hxc, hd, hyd, Or.inl ⟨fun q => q.1 (cf_nI_inj (by omega) (by omega) (hxc.symm.trans (c36_7.trans hyd))), rfl⟩⟩, cf_W.re ht9 hW⟩, hS.F ht9⟩) hS.2.2 dX6_fill_59
      · have hne : cp ≠ dp := fun q => c36_7 (by rw [hxc, hyd, q])
        refine lv_aload_n hx hb dX6_fill_39 rfl (lv_at hl 0 rfl) ?_
        refine cf_get (v := .ref (ad 17 12)) (ci := 6) (C := RX6) (T := TX6) (N := 24) hx hb hts (fun _ h => List.mem_cons_of_mem _ (List.mem_append_right _ (h))) hown hT.1 hW cf_e6 rfl 12 (by decide) (hts (.fieldLink RX6 40 "GameCafeModel" "games" "[I") (List.mem_of_getElem? (i := 2) rfl)) (fun _ h9 => h9) rfl dX6_fill_40 ?_
        refine lv_iload_n hx hb dX6_fill_43 rfl (lv_at hl 1 rfl) ?_
        refine cf_ildN (t0 := 0) (n := 15) (f := (cf_s3 S 6 0 23 0) 17 12) (v := (nI (P 0 cp 0))) hx hb hT.1 hW (cf_e17 (i := 12) (by decide)) rfl cp hxc (by omega) (by decide) dX6_fill_44 e1 ?_
        refine lv_aload_n hx hb dX6_fill_45 rfl (lv_at hl 0 rfl) ?_
        refine cf_get (v := .ref (ad 17 12)) (ci := 6) (C := RX6) (T := TX6) (N := 24) hx hb hts (fun _ h => List.mem_cons_of_mem _ (List.mem_append_right _ (h))) hown hT.1 hW cf_e6 rfl 12 (by decide) (hts (.fieldLink RX6 40 "GameCafeModel" "games" "[I") (List.mem_of_getElem? (i := 2) rfl)) (fun _ h9 => h9) rfl dX6_fill_46 ?_
        refine lv_iload_n hx hb dX6_fill_49 rfl (lv_at hl 2 rfl) ?_
        refine cf_ildN (t0 := 0) (n := 15) (f := (cf_s3 S 6 0 23 0) 17 12) (v := (nI (P 0 dp 0))) hx hb hT.1 hW (cf_e17 (i := 12) (by decide)) rfl dp hyd (by omega) (by decide) dX6_fill_50 e2 ?_
        refine lv_icmp_eq (tgt := 60) hx hb dX6_fill_51 (by decide) (fun c51_9 => ?_) (fun c51_9 => ?_)
        · have hsg : P 0 cp 0 = P 0 dp 0 := cf_nI_inj (by omega) (by omega) c51_9
          refine lv_aload_n hx hb dX6_fill_60 rfl (lv_at hl 0 rfl) ?_
          refine cf_get (v := .ref (ad 17 13)) (ci := 6) (C := RX6) (T := TX6) (N := 24) hx hb hts (fun _ h => List.mem_cons_of_mem _ (List.mem_append_right _ (h))) hown hT.1 hW cf_e6 rfl 13 (by decide) (hts (.fieldLink RX6 43 "GameCafeModel" "places" "[I") (List.mem_of_getElem? (i := 3) rfl)) (fun _ h9 => h9) rfl dX6_fill_61 ?_
          refine lv_iload_n hx hb dX6_fill_64 rfl (lv_at hl 1 rfl) ?_
          refine cf_ildN (t0 := 0) (n := 15) (f := (cf_s3 S 6 0 23 0) 17 13) (v := (S 17 13 cp)) hx hb hT.1 hW (cf_e17 (i := 13) (by decide)) rfl cp hxc (by omega) (by decide) dX6_fill_65 (by simp [cf_s3, cf_g2, upd] : (cf_s3 S 6 0 23 0) 17 13 cp = S 17 13 cp) ?_
          refine lv_if_ne (tgt := 78) hx hb dX6_fill_66 (by decide) (fun c66_10 => ?_) (fun c66_10 => ?_)
          · refine lv_aload_n hx hb dX6_fill_78 rfl (lv_at hl 0 rfl) ?_
            refine lv_iconst (v := 3) hx hb dX6_fill_79 (by decide) ?_
            refine va_calli (va_runV (As := [.int 3]) (rest := []) ⟨hx, hb, hml, hown, hts⟩ (c_X6_fails l D cT z ad nc ng (cf_s3 S 6 0 23 0) P O 3) (cwV 1 hts gX6_fill_X6_fails rfl rfl rfl (by decide +kernel) ⟨Nat.le_of_ble_eq_true rfl, Nat.le_of_ble_eq_true rfl⟩) (cf_preV (T := TX6) (N := 24) hT hS hW cf_e6 rfl) rfl rfl hl.1 rfl (lv_room (Nat.le_of_ble_eq_true rfl)) dX6_fill_80 ⟨Nat.le_of_ble_eq_true rfl, Nat.le_of_ble_eq_true rfl⟩) hS (fun _ _ h => h) (fun _ h => h) (fun r11 ur11 t9 H locs ht hvm hw hW hz1 hk1 hS => ?_)
            have hW := cf_W.er ht hW
            obtain ⟨hr0, hT0⟩ := hw
            subst hT0
            exact W.iret (v := r11) hx hb hr (fun t9 ht9 hw9 => ⟨⟨r11, (cf_s3 (cf_s3 S 6 0 23 0) 6 0 23 3), rfl, Or.inr ⟨cp, dp, hc, hxc, hd, hyd, Or.inr (Or.inl ⟨⟨hne, hsg⟩, fun q => c66_10 q.1, rfl⟩)⟩, cf_W.re ht9 hW⟩, hS.F ht9⟩) hS.2.2 dX6_fill_83
          · refine lv_aload_n hx hb dX6_fill_69 rfl (lv_at hl 0 rfl) ?_
            refine cf_get (v := .ref (ad 17 13)) (ci := 6) (C := RX6) (T := TX6) (N := 24) hx hb hts (fun _ h => List.mem_cons_of_mem _ (List.mem_append_right _ (h))) hown hT.1 hW cf_e6 rfl 13 (by decide) (hts (.fieldLink RX6 43 "GameCafeModel" "places" "[I") (List.mem_of_getElem? (i := 3) rfl)) (fun _ h9 => h9) rfl dX6_fill_70 ?_
            refine lv_iload_n hx hb dX6_fill_73 rfl (lv_at hl 2 rfl) ?_
            refine cf_ildN (t0 := 0) (n := 15) (f := (cf_s3 S 6 0 23 0) 17 13) (v := (S 17 13 dp)) hx hb hT.1 hW (cf_e17 (i := 13) (by decide)) rfl dp hyd (by omega) (by decide) dX6_fill_74 (by simp [cf_s3, cf_g2, upd] : (cf_s3 S 6 0 23 0) 17 13 dp = S 17 13 dp) ?_
            refine lv_if_eq (tgt := 84) hx hb dX6_fill_75 (by decide) (fun c75_12 => ?_) (fun c75_12 => ?_)
            · have hpl := And.intro c66_10 c75_12
              refine lv_iconst (v := 0) hx hb dX6_fill_84 (by decide) ?_
              refine lv_istore_n (lv' := [(3, .int 0), (0, .ref (ad 6 0)), (1, .int x), (2, .int y)]) hx hb dX6_fill_85 rfl hl (by decide) rfl (fun ls hl => ?_)
              refine lv_iconst (v := 0) hx hb dX6_fill_86 (by decide) ?_
              refine lv_istore (lv' := [(4, .int 0), (3, .int 0), (0, .ref (ad 6 0)), (1, .int x), (2, .int y)]) hx hb dX6_fill_87 hl (by decide) rfl (fun ls hl => ?_)
              have hW : cf_W D z (cf_E cT nc ng (((cf_s3 S 6 0 23 0), (0 : Int32)) : cf_S × Int32).1 P O ad) ad H := hW
              refine cf_loopW (β := (cf_S × Int32)) (fun i H locs ls b => cf_W D z (cf_E cT nc ng b.1 P O ad) ad H ∧ va_S (fun q => z ≤ q) s.heap H locs ∧ lv_has ls 7 [(0, .ref (ad 6 0)), (1, .int x), (2, .int y), (3, .int b.2), (4, .int (nI i))] ∧ cf_fillM (cf_s3 S 6 0 23 0) b.1 (P 0 cp 0) cp dp i b.2) 4 (fun H locs ls b hI => ?_) (fun i H locs ls b hi hI ih => ?_) (((cf_s3 S 6 0 23 0), (0 : Int32)) : cf_S × Int32) ⟨hW, hS, lv_sub hl [2, 3, 4, 1, 0] rfl, cf_fillM0 (cf_s3 S 6 0 23 0) (P 0 cp 0) cp dp⟩
              · obtain ⟨hW, hS, hl, hI⟩ := hI
                refine lv_iload hx hb dX6_fill_89 (lv_at hl 4 rfl) ?_
                refine lv_iconst (v := 4) hx hb dX6_fill_91 (by decide) ?_
                refine lv_icmp_ge (tgt := 215) hx hb dX6_fill_92 (by decide) (fun c92_13 => ?_) (fun c92_13 => (by first | exact absurd (nI_le (Nat.le_refl 4) (by decide)) c92_13 | exact absurd c92_13 (nI_le (Nat.le_refl 4) (by decide))))
                refine lv_iload_n hx hb dX6_fill_215 rfl (lv_at hl 3 rfl) ?_
                exact W.iret (v := b.2) hx hb hr (fun t9 ht9 hw9 => ⟨⟨b.2, b.1, rfl, Or.inr ⟨cp, dp, hc, hxc, hd, hyd, Or.inr (Or.inr ⟨⟨hne, hsg⟩, hpl, hI⟩)⟩, cf_W.re ht9 hW⟩, hS.F ht9⟩) hS.2.2 dX6_fill_216
              · obtain ⟨hW, hS, hl, hI⟩ := hI
                have hne2 : dp ≠ cp := fun q => hne q.symm
                have e12 : b.1 17 12 cp = nI (P 0 cp 0) := (congrFun (hI.2.2.2.1 17 12 (by decide)) cp).trans e1
                refine lv_iload hx hb dX6_fill_89 (lv_at hl 4 rfl) ?_
                refine lv_iconst (v := 4) hx hb dX6_fill_91 (by decide) ?_
                refine lv_icmp_ge (tgt := 215) hx hb dX6_fill_92 (by decide) (fun c92_14 => (by first | exact absurd c92_14 (nI_ge hi (by decide)) | exact absurd (nI_ge hi (by decide)) c92_14)) (fun c92_14 => ?_)
                refine lv_aload_n hx hb dX6_fill_95 rfl (lv_at hl 0 rfl) ?_
                refine cf_get (v := .ref (ad 17 4)) (ci := 6) (C := RX6) (T := TX6) (N := 24) hx hb hts (fun _ h => List.mem_cons_of_mem _ (List.mem_append_right _ (h))) hown hT.1 hW cf_e6 rfl 4 (by decide) (hts (.fieldLink RX6 19 "GameCafeModel" "wholes" "[I") (List.mem_of_getElem? (i := 4) rfl)) (fun _ h9 => h9) rfl dX6_fill_96 ?_
                refine lv_iconst (v := 4) hx hb dX6_fill_99 (by decide) ?_
                refine lv_aload_n hx hb dX6_fill_100 rfl (lv_at hl 0 rfl) ?_
                refine cf_get (v := .ref (ad 17 12)) (ci := 6) (C := RX6) (T := TX6) (N := 24) hx hb hts (fun _ h => List.mem_cons_of_mem _ (List.mem_append_right _ (h))) hown hT.1 hW cf_e6 rfl 12 (by decide) (hts (.fieldLink RX6 40 "GameCafeModel" "games" "[I") (List.mem_of_getElem? (i := 2) rfl)) (fun _ h9 => h9) rfl dX6_fill_101 ?_
                refine lv_iload_n hx hb dX6_fill_104 rfl (lv_at hl 1 rfl) ?_
                refine cf_ildN (t0 := 0) (n := 15) (f := b.1 17 12) (v := (nI (P 0 cp 0))) hx hb hT.1 hW (cf_e17 (i := 12) (by decide)) rfl cp hxc (by omega) (by decide) dX6_fill_105 e12 ?_
                refine lv_imul hx hb dX6_fill_106 ?_
                refine lv_iload hx hb dX6_fill_107 (lv_at hl 4 rfl) ?_
                refine lv_iadd hx hb dX6_fill_109 ?_
                refine cf_ildN (t0 := 0) (n := 20) (f := b.1 17 4) (v := (b.1 17 4 (4 * P 0 cp 0 + i))) hx hb hT.1 hW (cf_e17 (i := 4) (by decide)) rfl (4 * P 0 cp 0 + i) (cf_ix4 rfl rfl) (by omega) (by decide) dX6_fill_110 rfl ?_
                refine lv_aload_n hx hb dX6_fill_111 rfl (lv_at hl 0 rfl) ?_
                refine cf_get (v := .ref (ad 17 14)) (ci := 6) (C := RX6) (T := TX6) (N := 24) hx hb hts (fun _ h => List.mem_cons_of_mem _ (List.mem_append_right _ (h))) hown hT.1 hW cf_e6 rfl 14 (by decide) (hts (.fieldLink RX6 46 "GameCafeModel" "parts" "[I") (List.mem_of_getElem? (i := 5) rfl)) (fun _ h9 => h9) rfl dX6_fill_112 ?_
                refine lv_iconst (v := 4) hx hb dX6_fill_115 (by decide) ?_
                refine lv_iload_n hx hb dX6_fill_116 rfl (lv_at hl 1 rfl) ?_
                refine lv_imul hx hb dX6_fill_117 ?_
                refine lv_iload hx hb dX6_fill_118 (lv_at hl 4 rfl) ?_
                refine lv_iadd hx hb dX6_fill_120 ?_
                refine cf_ildN (t0 := 0) (n := 60) (f := b.1 17 14) (v := (b.1 17 14 (4 * cp + i))) hx hb hT.1 hW (cf_e17 (i := 14) (by decide)) rfl (4 * cp + i) (cf_ix4 hxc rfl) (by omega) (by decide) dX6_fill_121 rfl ?_
                refine lv_isub hx hb dX6_fill_122 ?_
                refine lv_istore (lv' := [(5, .int ((b.1 17 4 (4 * P 0 cp 0 + i)) - (b.1 17 14 (4 * cp + i)))), (0, .ref (ad 6 0)), (1, .int x), (2, .int y), (3, .int b.2), (4, .int (nI i))]) hx hb dX6_fill_123 hl (by decide) rfl (fun ls hl => ?_)
                refine lv_iload hx hb dX6_fill_125 (lv_at hl 0 rfl) ?_
                refine lv_aload_n hx hb dX6_fill_127 rfl (lv_at hl 1 rfl) ?_
                refine cf_get (v := .ref (ad 17 14)) (ci := 6) (C := RX6) (T := TX6) (N := 24) hx hb hts (fun _ h => List.mem_cons_of_mem _ (List.mem_append_right _ (h))) hown hT.1 hW cf_e6 rfl 14 (by decide) (hts (.fieldLink RX6 46 "GameCafeModel" "parts" "[I") (List.mem_of_getElem? (i := 5) rfl)) (fun _ h9 => h9) rfl dX6_fill_128 ?_
                refine lv_iconst (v := 4) hx hb dX6_fill_131 (by decide) ?_
                refine lv_iload_n hx hb dX6_fill_132 rfl (lv_at hl 3 rfl) ?_
                refine lv_imul hx hb dX6_fill_133 ?_
                refine lv_iload hx hb dX6_fill_134 (lv_at hl 5 rfl) ?_
                refine lv_iadd hx hb dX6_fill_136 ?_
                refine cf_ildN (t0 := 0) (n := 60) (f := b.1 17 14) (v := (b.1 17 14 (4 * dp + i))) hx hb hT.1 hW (cf_e17 (i := 14) (by decide)) rfl (4 * dp + i) (cf_ix4 hyd rfl) (by omega) (by decide) dX6_fill_137 rfl ?_
                refine lv_icmp_ge (tgt := 146) hx hb dX6_fill_138 (by decide) (fun c138_15 => ?_) (fun c138_15 => ?_)
                · have hh1 : ¬ b.1 17 4 (4 * P 0 cp 0 + i) - b.1 17 14 (4 * cp + i) < b.1 17 14 (4 * dp + i) := Int32.not_lt.mpr c138_15
                  refine lv_aload_n hx hb dX6_fill_146 rfl (lv_at hl 1 rfl) ?_
                  refine cf_get (v := .ref (ad 17 14)) (ci := 6) (C := RX6) (T := TX6) (N := 24) hx hb hts (fun _ h => List.mem_cons_of_mem _ (List.mem_append_right _ (h))) hown hT.1 hW cf_e6 rfl 14 (by decide) (hts (.fieldLink RX6 46 "GameCafeModel" "parts" "[I") (List.mem_of_getElem? (i := 5) rfl)) (fun _ h9 => h9) rfl dX6_fill_147 ?_
                  refine lv_iconst (v := 4) hx hb dX6_fill_150 (by decide) ?_
                  refine lv_iload_n hx hb dX6_fill_151 rfl (lv_at hl 3 rfl) ?_
                  refine lv_imul hx hb dX6_fill_152 ?_
                  refine lv_iload hx hb dX6_fill_153 (lv_at hl 5 rfl) ?_
                  refine lv_iadd hx hb dX6_fill_155 ?_
                  refine cf_ildN (t0 := 0) (n := 60) (f := b.1 17 14) (v := (b.1 17 14 (4 * dp + i))) hx hb hT.1 hW (cf_e17 (i := 14) (by decide)) rfl (4 * dp + i) (cf_ix4 hyd rfl) (by omega) (by decide) dX6_fill_156 rfl ?_
                  refine lv_istore (lv' := [(6, .int (b.1 17 14 (4 * dp + i))), (5, .int ((b.1 17 4 (4 * P 0 cp 0 + i)) - (b.1 17 14 (4 * cp + i)))), (0, .ref (ad 6 0)), (1, .int x), (2, .int y), (3, .int b.2), (4, .int (nI i))]) hx hb dX6_fill_157 hl (by decide) rfl (fun ls hl => ?_)
                  refine lv_iload hx hb dX6_fill_159 (lv_at hl 0 rfl) ?_
                  refine lv_if_ge (tgt := 168) hx hb dX6_fill_161 (by decide) (fun c161_16 => ?_) (fun c161_16 => ?_)
                  · refine lv_iload hx hb dX6_fill_168 (lv_at hl 0 rfl) ?_
                    refine lv_istore (lv' := [(6, .int (b.1 17 14 (4 * dp + i))), (5, .int ((b.1 17 4 (4 * P 0 cp 0 + i)) - (b.1 17 14 (4 * cp + i)))), (0, .ref (ad 6 0)), (1, .int x), (2, .int y), (3, .int b.2), (4, .int (nI i))]) hx hb dX6_fill_170 hl (by decide) rfl (fun ls hl => ?_)
                    refine lv_aload_n hx hb dX6_fill_172 rfl (lv_at hl 2 rfl) ?_
                    refine cf_get (v := .ref (ad 17 14)) (ci := 6) (C := RX6) (T := TX6) (N := 24) hx hb hts (fun _ h => List.mem_cons_of_mem _ (List.mem_append_right _ (h))) hown hT.1 hW cf_e6 rfl 14 (by decide) (hts (.fieldLink RX6 46 "GameCafeModel" "parts" "[I") (List.mem_of_getElem? (i := 5) rfl)) (fun _ h9 => h9) rfl dX6_fill_173 ?_
                    refine lv_iconst (v := 4) hx hb dX6_fill_176 (by decide) ?_
                    refine lv_iload_n hx hb dX6_fill_177 rfl (lv_at hl 3 rfl) ?_
                    refine lv_imul hx hb dX6_fill_178 ?_
                    refine lv_iload hx hb dX6_fill_179 (lv_at hl 6 rfl) ?_
                    refine lv_iadd hx hb dX6_fill_181 ?_
                    refine lv_dup2_11 hx hb dX6_fill_182 rfl rfl ?_
                    refine cf_ildN (t0 := 0) (n := 60) (f := b.1 17 14) (v := (b.1 17 14 (4 * cp + i))) hx hb hT.1 hW (cf_e17 (i := 14) (by decide)) rfl (4 * cp + i) (cf_ix4 hxc rfl) (by omega) (by decide) dX6_fill_183 rfl ?_
                    refine lv_iload hx hb dX6_fill_184 (lv_at hl 0 rfl) ?_
                    refine lv_iadd hx hb dX6_fill_186 ?_
                    refine cf_istN (t0 := 0) (n := 60) (f := b.1 17 14) hx hb hT.1 hW hS (cf_e17 (i := 14) (by decide)) rfl (4 * cp + i) (cf_ix4 hxc rfl) (by omega) (by decide) dX6_fill_187 (E2 := (cf_E cT nc ng (cf_s3 b.1 17 14 (4 * cp + i) ((b.1 17 14 (4 * cp + i)) + (b.1 17 14 (4 * dp + i)))) P O ad)) (cf_upS 17 14 (upd (b.1 17 14) (4 * cp + i) ((b.1 17 14 (4 * cp + i)) + (b.1 17 14 (4 * dp + i)))) (cf_c17 (i := 14) (by decide))) (fun H locs hW hS => ?_)
                    refine lv_aload_n hx hb dX6_fill_188 rfl (lv_at hl 2 rfl) ?_
                    refine cf_get (v := .ref (ad 17 14)) (ci := 6) (C := RX6) (T := TX6) (N := 24) hx hb hts (fun _ h => List.mem_cons_of_mem _ (List.mem_append_right _ (h))) hown hT.1 hW cf_e6 rfl 14 (by decide) (hts (.fieldLink RX6 46 "GameCafeModel" "parts" "[I") (List.mem_of_getElem? (i := 5) rfl)) (fun _ h9 => h9) rfl dX6_fill_189 ?_
                    refine lv_iconst (v := 4) hx hb dX6_fill_192 (by decide) ?_
                    refine lv_iload_n hx hb dX6_fill_193 rfl (lv_at hl 4 rfl) ?_
                    refine lv_imul hx hb dX6_fill_194 ?_
                    refine lv_iload hx hb dX6_fill_195 (lv_at hl 6 rfl) ?_
                    refine lv_iadd hx hb dX6_fill_197 ?_
                    refine lv_dup2_11 hx hb dX6_fill_198 rfl rfl ?_
                    refine cf_ildN (t0 := 0) (n := 60) (f := (cf_s3 b.1 17 14 (4 * cp + i) ((b.1 17 14 (4 * cp + i)) + (b.1 17 14 (4 * dp + i)))) 17 14) (v := (b.1 17 14 (4 * dp + i))) hx hb hT.1 hW (cf_e17 (i := 14) (by decide)) rfl (4 * dp + i) (cf_ix4 hyd rfl) (by omega) (by decide) dX6_fill_199 (cf_s3n (fun q => by omega)) ?_
                    refine lv_iload hx hb dX6_fill_200 (lv_at hl 0 rfl) ?_
                    refine lv_isub hx hb dX6_fill_202 ?_
                    refine cf_istN (t0 := 0) (n := 60) (f := (cf_s3 b.1 17 14 (4 * cp + i) ((b.1 17 14 (4 * cp + i)) + (b.1 17 14 (4 * dp + i)))) 17 14) hx hb hT.1 hW hS (cf_e17 (i := 14) (by decide)) rfl (4 * dp + i) (cf_ix4 hyd rfl) (by omega) (by decide) dX6_fill_203 (E2 := (cf_E cT nc ng (cf_s3 (cf_s3 b.1 17 14 (4 * cp + i) ((b.1 17 14 (4 * cp + i)) + (b.1 17 14 (4 * dp + i)))) 17 14 (4 * dp + i) ((b.1 17 14 (4 * dp + i)) - (b.1 17 14 (4 * dp + i)))) P O ad)) (cf_upS 17 14 (upd ((cf_s3 b.1 17 14 (4 * cp + i) ((b.1 17 14 (4 * cp + i)) + (b.1 17 14 (4 * dp + i)))) 17 14) (4 * dp + i) ((b.1 17 14 (4 * dp + i)) - (b.1 17 14 (4 * dp + i)))) (cf_c17 (i := 14) (by decide))) (fun H locs hW hS => ?_)
                    refine lv_iload_n hx hb dX6_fill_204 rfl (lv_at hl 5 rfl) ?_
                    refine lv_iload hx hb dX6_fill_205 (lv_at hl 0 rfl) ?_
                    refine lv_iadd hx hb dX6_fill_207 ?_
                    refine lv_istore_n (lv' := [(3, .int (b.2 + (b.1 17 14 (4 * dp + i)))), (6, .int (b.1 17 14 (4 * dp + i))), (5, .int ((b.1 17 4 (4 * P 0 cp 0 + i)) - (b.1 17 14 (4 * cp + i)))), (0, .ref (ad 6 0)), (1, .int x), (2, .int y), (4, .int (nI i))]) hx hb dX6_fill_208 rfl hl (by decide) rfl (fun ls hl => ?_)
                    refine lv_iinc (v := (nI (i + 1))) (lv' := [(4, .int (nI (i + 1))), (3, .int (b.2 + (b.1 17 14 (4 * dp + i)))), (6, .int (b.1 17 14 (4 * dp + i))), (5, .int ((b.1 17 4 (4 * P 0 cp 0 + i)) - (b.1 17 14 (4 * cp + i)))), (0, .ref (ad 6 0)), (1, .int x), (2, .int y)]) hx hb dX6_fill_209 hl (k := 6) rfl (nI_1 i) (by decide) rfl (fun ls hl => ?_)
                    refine lv_goto (tgt := 89) hx hb dX6_fill_212 (by decide) ?_
                    have hnx := cf_fillMS hi hne2 hI ((by rw [cf_comeM, if_neg hh1, if_neg (Int32.not_lt.mpr c161_16)]) : cf_comeM (b.1 17 4 (4 * P 0 cp 0 + i)) (b.1 17 14 (4 * cp + i)) (b.1 17 14 (4 * dp + i)) = (b.1 17 14 (4 * dp + i)))
                    exact ih _ _ _ ((cf_s3 (cf_s3 b.1 17 14 (4 * cp + i) ((b.1 17 14 (4 * cp + i)) + (b.1 17 14 (4 * dp + i)))) 17 14 (4 * dp + i) ((b.1 17 14 (4 * dp + i)) - (b.1 17 14 (4 * dp + i)))), (b.2 + (b.1 17 14 (4 * dp + i)))) ⟨hW, hS, lv_sub hl [4, 5, 6, 1, 0] rfl, hnx⟩
                  · refine lv_iconst (v := 0) hx hb dX6_fill_164 (by decide) ?_
                    refine lv_goto (tgt := 170) hx hb dX6_fill_165 (by decide) ?_
                    refine lv_istore (lv' := [(6, .int 0), (5, .int ((b.1 17 4 (4 * P 0 cp 0 + i)) - (b.1 17 14 (4 * cp + i)))), (0, .ref (ad 6 0)), (1, .int x), (2, .int y), (3, .int b.2), (4, .int (nI i))]) hx hb dX6_fill_170 hl (by decide) rfl (fun ls hl => ?_)
                    refine lv_aload_n hx hb dX6_fill_172 rfl (lv_at hl 2 rfl) ?_
                    refine cf_get (v := .ref (ad 17 14)) (ci := 6) (C := RX6) (T := TX6) (N := 24) hx hb hts (fun _ h => List.mem_cons_of_mem _ (List.mem_append_right _ (h))) hown hT.1 hW cf_e6 rfl 14 (by decide) (hts (.fieldLink RX6 46 "GameCafeModel" "parts" "[I") (List.mem_of_getElem? (i := 5) rfl)) (fun _ h9 => h9) rfl dX6_fill_173 ?_
                    refine lv_iconst (v := 4) hx hb dX6_fill_176 (by decide) ?_
                    refine lv_iload_n hx hb dX6_fill_177 rfl (lv_at hl 3 rfl) ?_
                    refine lv_imul hx hb dX6_fill_178 ?_
                    refine lv_iload hx hb dX6_fill_179 (lv_at hl 6 rfl) ?_
                    refine lv_iadd hx hb dX6_fill_181 ?_
                    refine lv_dup2_11 hx hb dX6_fill_182 rfl rfl ?_
                    refine cf_ildN (t0 := 0) (n := 60) (f := b.1 17 14) (v := (b.1 17 14 (4 * cp + i))) hx hb hT.1 hW (cf_e17 (i := 14) (by decide)) rfl (4 * cp + i) (cf_ix4 hxc rfl) (by omega) (by decide) dX6_fill_183 rfl ?_
                    refine lv_iload hx hb dX6_fill_184 (lv_at hl 0 rfl) ?_
                    refine lv_iadd hx hb dX6_fill_186 ?_
                    refine cf_istN (t0 := 0) (n := 60) (f := b.1 17 14) hx hb hT.1 hW hS (cf_e17 (i := 14) (by decide)) rfl (4 * cp + i) (cf_ix4 hxc rfl) (by omega) (by decide) dX6_fill_187 (E2 := (cf_E cT nc ng (cf_s3 b.1 17 14 (4 * cp + i) ((b.1 17 14 (4 * cp + i)) + 0)) P O ad)) (cf_upS 17 14 (upd (b.1 17 14) (4 * cp + i) ((b.1 17 14 (4 * cp + i)) + 0)) (cf_c17 (i := 14) (by decide))) (fun H locs hW hS => ?_)
                    refine lv_aload_n hx hb dX6_fill_188 rfl (lv_at hl 2 rfl) ?_
                    refine cf_get (v := .ref (ad 17 14)) (ci := 6) (C := RX6) (T := TX6) (N := 24) hx hb hts (fun _ h => List.mem_cons_of_mem _ (List.mem_append_right _ (h))) hown hT.1 hW cf_e6 rfl 14 (by decide) (hts (.fieldLink RX6 46 "GameCafeModel" "parts" "[I") (List.mem_of_getElem? (i := 5) rfl)) (fun _ h9 => h9) rfl dX6_fill_189 ?_
                    refine lv_iconst (v := 4) hx hb dX6_fill_192 (by decide) ?_
                    refine lv_iload_n hx hb dX6_fill_193 rfl (lv_at hl 4 rfl) ?_
                    refine lv_imul hx hb dX6_fill_194 ?_
                    refine lv_iload hx hb dX6_fill_195 (lv_at hl 6 rfl) ?_
                    refine lv_iadd hx hb dX6_fill_197 ?_
                    refine lv_dup2_11 hx hb dX6_fill_198 rfl rfl ?_
                    refine cf_ildN (t0 := 0) (n := 60) (f := (cf_s3 b.1 17 14 (4 * cp + i) ((b.1 17 14 (4 * cp + i)) + 0)) 17 14) (v := (b.1 17 14 (4 * dp + i))) hx hb hT.1 hW (cf_e17 (i := 14) (by decide)) rfl (4 * dp + i) (cf_ix4 hyd rfl) (by omega) (by decide) dX6_fill_199 (cf_s3n (fun q => by omega)) ?_
                    refine lv_iload hx hb dX6_fill_200 (lv_at hl 0 rfl) ?_
                    refine lv_isub hx hb dX6_fill_202 ?_
                    refine cf_istN (t0 := 0) (n := 60) (f := (cf_s3 b.1 17 14 (4 * cp + i) ((b.1 17 14 (4 * cp + i)) + 0)) 17 14) hx hb hT.1 hW hS (cf_e17 (i := 14) (by decide)) rfl (4 * dp + i) (cf_ix4 hyd rfl) (by omega) (by decide) dX6_fill_203 (E2 := (cf_E cT nc ng (cf_s3 (cf_s3 b.1 17 14 (4 * cp + i) ((b.1 17 14 (4 * cp + i)) + 0)) 17 14 (4 * dp + i) ((b.1 17 14 (4 * dp + i)) - 0)) P O ad)) (cf_upS 17 14 (upd ((cf_s3 b.1 17 14 (4 * cp + i) ((b.1 17 14 (4 * cp + i)) + 0)) 17 14) (4 * dp + i) ((b.1 17 14 (4 * dp + i)) - 0)) (cf_c17 (i := 14) (by decide))) (fun H locs hW hS => ?_)
                    refine lv_iload_n hx hb dX6_fill_204 rfl (lv_at hl 5 rfl) ?_
                    refine lv_iload hx hb dX6_fill_205 (lv_at hl 0 rfl) ?_
                    refine lv_iadd hx hb dX6_fill_207 ?_
                    refine lv_istore_n (lv' := [(3, .int (b.2 + 0)), (6, .int 0), (5, .int ((b.1 17 4 (4 * P 0 cp 0 + i)) - (b.1 17 14 (4 * cp + i)))), (0, .ref (ad 6 0)), (1, .int x), (2, .int y), (4, .int (nI i))]) hx hb dX6_fill_208 rfl hl (by decide) rfl (fun ls hl => ?_)
                    refine lv_iinc (v := (nI (i + 1))) (lv' := [(4, .int (nI (i + 1))), (3, .int (b.2 + 0)), (6, .int 0), (5, .int ((b.1 17 4 (4 * P 0 cp 0 + i)) - (b.1 17 14 (4 * cp + i)))), (0, .ref (ad 6 0)), (1, .int x), (2, .int y)]) hx hb dX6_fill_209 hl (k := 6) rfl (nI_1 i) (by decide) rfl (fun ls hl => ?_)
                    refine lv_goto (tgt := 89) hx hb dX6_fill_212 (by decide) ?_
                    have hnx := cf_fillMS hi hne2 hI ((by rw [cf_comeM, if_neg hh1, if_pos (Int32.not_le.mp c161_16)]) : cf_comeM (b.1 17 4 (4 * P 0 cp 0 + i)) (b.1 17 14 (4 * cp + i)) (b.1 17 14 (4 * dp + i)) = 0)
                    exact ih _ _ _ ((cf_s3 (cf_s3 b.1 17 14 (4 * cp + i) ((b.1 17 14 (4 * cp + i)) + 0)) 17 14 (4 * dp + i) ((b.1 17 14 (4 * dp + i)) - 0)), (b.2 + 0)) ⟨hW, hS, lv_sub hl [4, 5, 6, 1, 0] rfl, hnx⟩
                · have hh1 : b.1 17 4 (4 * P 0 cp 0 + i) - b.1 17 14 (4 * cp + i) < b.1 17 14 (4 * dp + i) := Int32.not_le.mp c138_15
                  refine lv_iload hx hb dX6_fill_141 (lv_at hl 0 rfl) ?_
                  refine lv_goto (tgt := 157) hx hb dX6_fill_143 (by decide) ?_
                  refine lv_istore (lv' := [(6, .int ((b.1 17 4 (4 * P 0 cp 0 + i)) - (b.1 17 14 (4 * cp + i)))), (5, .int ((b.1 17 4 (4 * P 0 cp 0 + i)) - (b.1 17 14 (4 * cp + i)))), (0, .ref (ad 6 0)), (1, .int x), (2, .int y), (3, .int b.2), (4, .int (nI i))]) hx hb dX6_fill_157 hl (by decide) rfl (fun ls hl => ?_)
                  refine lv_iload hx hb dX6_fill_159 (lv_at hl 0 rfl) ?_
                  refine lv_if_ge (tgt := 168) hx hb dX6_fill_161 (by decide) (fun c161_17 => ?_) (fun c161_17 => ?_)
                  · refine lv_iload hx hb dX6_fill_168 (lv_at hl 0 rfl) ?_
                    refine lv_istore (lv' := [(6, .int ((b.1 17 4 (4 * P 0 cp 0 + i)) - (b.1 17 14 (4 * cp + i)))), (5, .int ((b.1 17 4 (4 * P 0 cp 0 + i)) - (b.1 17 14 (4 * cp + i)))), (0, .ref (ad 6 0)), (1, .int x), (2, .int y), (3, .int b.2), (4, .int (nI i))]) hx hb dX6_fill_170 hl (by decide) rfl (fun ls hl => ?_)
                    refine lv_aload_n hx hb dX6_fill_172 rfl (lv_at hl 2 rfl) ?_
                    refine cf_get (v := .ref (ad 17 14)) (ci := 6) (C := RX6) (T := TX6) (N := 24) hx hb hts (fun _ h => List.mem_cons_of_mem _ (List.mem_append_right _ (h))) hown hT.1 hW cf_e6 rfl 14 (by decide) (hts (.fieldLink RX6 46 "GameCafeModel" "parts" "[I") (List.mem_of_getElem? (i := 5) rfl)) (fun _ h9 => h9) rfl dX6_fill_173 ?_
                    refine lv_iconst (v := 4) hx hb dX6_fill_176 (by decide) ?_
                    refine lv_iload_n hx hb dX6_fill_177 rfl (lv_at hl 3 rfl) ?_
                    refine lv_imul hx hb dX6_fill_178 ?_
                    refine lv_iload hx hb dX6_fill_179 (lv_at hl 6 rfl) ?_
                    refine lv_iadd hx hb dX6_fill_181 ?_
                    refine lv_dup2_11 hx hb dX6_fill_182 rfl rfl ?_
                    refine cf_ildN (t0 := 0) (n := 60) (f := b.1 17 14) (v := (b.1 17 14 (4 * cp + i))) hx hb hT.1 hW (cf_e17 (i := 14) (by decide)) rfl (4 * cp + i) (cf_ix4 hxc rfl) (by omega) (by decide) dX6_fill_183 rfl ?_
                    refine lv_iload hx hb dX6_fill_184 (lv_at hl 0 rfl) ?_
                    refine lv_iadd hx hb dX6_fill_186 ?_
                    refine cf_istN (t0 := 0) (n := 60) (f := b.1 17 14) hx hb hT.1 hW hS (cf_e17 (i := 14) (by decide)) rfl (4 * cp + i) (cf_ix4 hxc rfl) (by omega) (by decide) dX6_fill_187 (E2 := (cf_E cT nc ng (cf_s3 b.1 17 14 (4 * cp + i) ((b.1 17 14 (4 * cp + i)) + ((b.1 17 4 (4 * P 0 cp 0 + i)) - (b.1 17 14 (4 * cp + i))))) P O ad)) (cf_upS 17 14 (upd (b.1 17 14) (4 * cp + i) ((b.1 17 14 (4 * cp + i)) + ((b.1 17 4 (4 * P 0 cp 0 + i)) - (b.1 17 14 (4 * cp + i))))) (cf_c17 (i := 14) (by decide))) (fun H locs hW hS => ?_)
                    refine lv_aload_n hx hb dX6_fill_188 rfl (lv_at hl 2 rfl) ?_
                    refine cf_get (v := .ref (ad 17 14)) (ci := 6) (C := RX6) (T := TX6) (N := 24) hx hb hts (fun _ h => List.mem_cons_of_mem _ (List.mem_append_right _ (h))) hown hT.1 hW cf_e6 rfl 14 (by decide) (hts (.fieldLink RX6 46 "GameCafeModel" "parts" "[I") (List.mem_of_getElem? (i := 5) rfl)) (fun _ h9 => h9) rfl dX6_fill_189 ?_
                    refine lv_iconst (v := 4) hx hb dX6_fill_192 (by decide) ?_
                    refine lv_iload_n hx hb dX6_fill_193 rfl (lv_at hl 4 rfl) ?_
                    refine lv_imul hx hb dX6_fill_194 ?_
                    refine lv_iload hx hb dX6_fill_195 (lv_at hl 6 rfl) ?_
                    refine lv_iadd hx hb dX6_fill_197 ?_
                    refine lv_dup2_11 hx hb dX6_fill_198 rfl rfl ?_
                    refine cf_ildN (t0 := 0) (n := 60) (f := (cf_s3 b.1 17 14 (4 * cp + i) ((b.1 17 14 (4 * cp + i)) + ((b.1 17 4 (4 * P 0 cp 0 + i)) - (b.1 17 14 (4 * cp + i))))) 17 14) (v := (b.1 17 14 (4 * dp + i))) hx hb hT.1 hW (cf_e17 (i := 14) (by decide)) rfl (4 * dp + i) (cf_ix4 hyd rfl) (by omega) (by decide) dX6_fill_199 (cf_s3n (fun q => by omega)) ?_
                    refine lv_iload hx hb dX6_fill_200 (lv_at hl 0 rfl) ?_
                    refine lv_isub hx hb dX6_fill_202 ?_
                    refine cf_istN (t0 := 0) (n := 60) (f := (cf_s3 b.1 17 14 (4 * cp + i) ((b.1 17 14 (4 * cp + i)) + ((b.1 17 4 (4 * P 0 cp 0 + i)) - (b.1 17 14 (4 * cp + i))))) 17 14) hx hb hT.1 hW hS (cf_e17 (i := 14) (by decide)) rfl (4 * dp + i) (cf_ix4 hyd rfl) (by omega) (by decide) dX6_fill_203 (E2 := (cf_E cT nc ng (cf_s3 (cf_s3 b.1 17 14 (4 * cp + i) ((b.1 17 14 (4 * cp + i)) + ((b.1 17 4 (4 * P 0 cp 0 + i)) - (b.1 17 14 (4 * cp + i))))) 17 14 (4 * dp + i) ((b.1 17 14 (4 * dp + i)) - ((b.1 17 4 (4 * P 0 cp 0 + i)) - (b.1 17 14 (4 * cp + i))))) P O ad)) (cf_upS 17 14 (upd ((cf_s3 b.1 17 14 (4 * cp + i) ((b.1 17 14 (4 * cp + i)) + ((b.1 17 4 (4 * P 0 cp 0 + i)) - (b.1 17 14 (4 * cp + i))))) 17 14) (4 * dp + i) ((b.1 17 14 (4 * dp + i)) - ((b.1 17 4 (4 * P 0 cp 0 + i)) - (b.1 17 14 (4 * cp + i))))) (cf_c17 (i := 14) (by decide))) (fun H locs hW hS => ?_)
                    refine lv_iload_n hx hb dX6_fill_204 rfl (lv_at hl 5 rfl) ?_
                    refine lv_iload hx hb dX6_fill_205 (lv_at hl 0 rfl) ?_
                    refine lv_iadd hx hb dX6_fill_207 ?_
                    refine lv_istore_n (lv' := [(3, .int (b.2 + ((b.1 17 4 (4 * P 0 cp 0 + i)) - (b.1 17 14 (4 * cp + i))))), (6, .int ((b.1 17 4 (4 * P 0 cp 0 + i)) - (b.1 17 14 (4 * cp + i)))), (5, .int ((b.1 17 4 (4 * P 0 cp 0 + i)) - (b.1 17 14 (4 * cp + i)))), (0, .ref (ad 6 0)), (1, .int x), (2, .int y), (4, .int (nI i))]) hx hb dX6_fill_208 rfl hl (by decide) rfl (fun ls hl => ?_)
                    refine lv_iinc (v := (nI (i + 1))) (lv' := [(4, .int (nI (i + 1))), (3, .int (b.2 + ((b.1 17 4 (4 * P 0 cp 0 + i)) - (b.1 17 14 (4 * cp + i))))), (6, .int ((b.1 17 4 (4 * P 0 cp 0 + i)) - (b.1 17 14 (4 * cp + i)))), (5, .int ((b.1 17 4 (4 * P 0 cp 0 + i)) - (b.1 17 14 (4 * cp + i)))), (0, .ref (ad 6 0)), (1, .int x), (2, .int y)]) hx hb dX6_fill_209 hl (k := 6) rfl (nI_1 i) (by decide) rfl (fun ls hl => ?_)
                    refine lv_goto (tgt := 89) hx hb dX6_fill_212 (by decide) ?_
                    have hnx := cf_fillMS hi hne2 hI ((by rw [cf_comeM, if_pos hh1, if_neg (Int32.not_lt.mpr c161_17)]) : cf_comeM (b.1 17 4 (4 * P 0 cp 0 + i)) (b.1 17 14 (4 * cp + i)) (b.1 17 14 (4 * dp + i)) = ((b.1 17 4 (4 * P 0 cp 0 + i)) - (b.1 17 14 (4 * cp + i))))
                    exact ih _ _ _ ((cf_s3 (cf_s3 b.1 17 14 (4 * cp + i) ((b.1 17 14 (4 * cp + i)) + ((b.1 17 4 (4 * P 0 cp 0 + i)) - (b.1 17 14 (4 * cp + i))))) 17 14 (4 * dp + i) ((b.1 17 14 (4 * dp + i)) - ((b.1 17 4 (4 * P 0 cp 0 + i)) - (b.1 17 14 (4 * cp + i))))), (b.2 + ((b.1 17 4 (4 * P 0 cp 0 + i)) - (b.1 17 14 (4 * cp + i))))) ⟨hW, hS, lv_sub hl [4, 5, 6, 1, 0] rfl, hnx⟩
                  · refine lv_iconst (v := 0) hx hb dX6_fill_164 (by decide) ?_
                    refine lv_goto (tgt := 170) hx hb dX6_fill_165 (by decide) ?_
                    refine lv_istore (lv' := [(6, .int 0), (5, .int ((b.1 17 4 (4 * P 0 cp 0 + i)) - (b.1 17 14 (4 * cp + i)))), (0, .ref (ad 6 0)), (1, .int x), (2, .int y), (3, .int b.2), (4, .int (nI i))]) hx hb dX6_fill_170 hl (by decide) rfl (fun ls hl => ?_)
                    refine lv_aload_n hx hb dX6_fill_172 rfl (lv_at hl 2 rfl) ?_
                    refine cf_get (v := .ref (ad 17 14)) (ci := 6) (C := RX6) (T := TX6) (N := 24) hx hb hts (fun _ h => List.mem_cons_of_mem _ (List.mem_append_right _ (h))) hown hT.1 hW cf_e6 rfl 14 (by decide) (hts (.fieldLink RX6 46 "GameCafeModel" "parts" "[I") (List.mem_of_getElem? (i := 5) rfl)) (fun _ h9 => h9) rfl dX6_fill_173 ?_
                    refine lv_iconst (v := 4) hx hb dX6_fill_176 (by decide) ?_
                    refine lv_iload_n hx hb dX6_fill_177 rfl (lv_at hl 3 rfl) ?_
                    refine lv_imul hx hb dX6_fill_178 ?_
                    refine lv_iload hx hb dX6_fill_179 (lv_at hl 6 rfl) ?_
                    refine lv_iadd hx hb dX6_fill_181 ?_
                    refine lv_dup2_11 hx hb dX6_fill_182 rfl rfl ?_
                    refine cf_ildN (t0 := 0) (n := 60) (f := b.1 17 14) (v := (b.1 17 14 (4 * cp + i))) hx hb hT.1 hW (cf_e17 (i := 14) (by decide)) rfl (4 * cp + i) (cf_ix4 hxc rfl) (by omega) (by decide) dX6_fill_183 rfl ?_
                    refine lv_iload hx hb dX6_fill_184 (lv_at hl 0 rfl) ?_
                    refine lv_iadd hx hb dX6_fill_186 ?_
                    refine cf_istN (t0 := 0) (n := 60) (f := b.1 17 14) hx hb hT.1 hW hS (cf_e17 (i := 14) (by decide)) rfl (4 * cp + i) (cf_ix4 hxc rfl) (by omega) (by decide) dX6_fill_187 (E2 := (cf_E cT nc ng (cf_s3 b.1 17 14 (4 * cp + i) ((b.1 17 14 (4 * cp + i)) + 0)) P O ad)) (cf_upS 17 14 (upd (b.1 17 14) (4 * cp + i) ((b.1 17 14 (4 * cp + i)) + 0)) (cf_c17 (i := 14) (by decide))) (fun H locs hW hS => ?_)
                    refine lv_aload_n hx hb dX6_fill_188 rfl (lv_at hl 2 rfl) ?_
                    refine cf_get (v := .ref (ad 17 14)) (ci := 6) (C := RX6) (T := TX6) (N := 24) hx hb hts (fun _ h => List.mem_cons_of_mem _ (List.mem_append_right _ (h))) hown hT.1 hW cf_e6 rfl 14 (by decide) (hts (.fieldLink RX6 46 "GameCafeModel" "parts" "[I") (List.mem_of_getElem? (i := 5) rfl)) (fun _ h9 => h9) rfl dX6_fill_189 ?_
                    refine lv_iconst (v := 4) hx hb dX6_fill_192 (by decide) ?_
                    refine lv_iload_n hx hb dX6_fill_193 rfl (lv_at hl 4 rfl) ?_
                    refine lv_imul hx hb dX6_fill_194 ?_
                    refine lv_iload hx hb dX6_fill_195 (lv_at hl 6 rfl) ?_
                    refine lv_iadd hx hb dX6_fill_197 ?_
                    refine lv_dup2_11 hx hb dX6_fill_198 rfl rfl ?_
                    refine cf_ildN (t0 := 0) (n := 60) (f := (cf_s3 b.1 17 14 (4 * cp + i) ((b.1 17 14 (4 * cp + i)) + 0)) 17 14) (v := (b.1 17 14 (4 * dp + i))) hx hb hT.1 hW (cf_e17 (i := 14) (by decide)) rfl (4 * dp + i) (cf_ix4 hyd rfl) (by omega) (by decide) dX6_fill_199 (cf_s3n (fun q => by omega)) ?_
                    refine lv_iload hx hb dX6_fill_200 (lv_at hl 0 rfl) ?_
                    refine lv_isub hx hb dX6_fill_202 ?_
                    refine cf_istN (t0 := 0) (n := 60) (f := (cf_s3 b.1 17 14 (4 * cp + i) ((b.1 17 14 (4 * cp + i)) + 0)) 17 14) hx hb hT.1 hW hS (cf_e17 (i := 14) (by decide)) rfl (4 * dp + i) (cf_ix4 hyd rfl) (by omega) (by decide) dX6_fill_203 (E2 := (cf_E cT nc ng (cf_s3 (cf_s3 b.1 17 14 (4 * cp + i) ((b.1 17 14 (4 * cp + i)) + 0)) 17 14 (4 * dp + i) ((b.1 17 14 (4 * dp + i)) - 0)) P O ad)) (cf_upS 17 14 (upd ((cf_s3 b.1 17 14 (4 * cp + i) ((b.1 17 14 (4 * cp + i)) + 0)) 17 14) (4 * dp + i) ((b.1 17 14 (4 * dp + i)) - 0)) (cf_c17 (i := 14) (by decide))) (fun H locs hW hS => ?_)
                    refine lv_iload_n hx hb dX6_fill_204 rfl (lv_at hl 5 rfl) ?_
                    refine lv_iload hx hb dX6_fill_205 (lv_at hl 0 rfl) ?_
                    refine lv_iadd hx hb dX6_fill_207 ?_
                    refine lv_istore_n (lv' := [(3, .int (b.2 + 0)), (6, .int 0), (5, .int ((b.1 17 4 (4 * P 0 cp 0 + i)) - (b.1 17 14 (4 * cp + i)))), (0, .ref (ad 6 0)), (1, .int x), (2, .int y), (4, .int (nI i))]) hx hb dX6_fill_208 rfl hl (by decide) rfl (fun ls hl => ?_)
                    refine lv_iinc (v := (nI (i + 1))) (lv' := [(4, .int (nI (i + 1))), (3, .int (b.2 + 0)), (6, .int 0), (5, .int ((b.1 17 4 (4 * P 0 cp 0 + i)) - (b.1 17 14 (4 * cp + i)))), (0, .ref (ad 6 0)), (1, .int x), (2, .int y)]) hx hb dX6_fill_209 hl (k := 6) rfl (nI_1 i) (by decide) rfl (fun ls hl => ?_)
                    refine lv_goto (tgt := 89) hx hb dX6_fill_212 (by decide) ?_
                    have hnx := cf_fillMS hi hne2 hI ((by rw [cf_comeM, if_pos hh1, if_pos (Int32.not_le.mp c161_17)]) : cf_comeM (b.1 17 4 (4 * P 0 cp 0 + i)) (b.1 17 14 (4 * cp + i)) (b.1 17 14 (4 * dp + i)) = 0)
                    exact ih _ _ _ ((cf_s3 (cf_s3 b.1 17 14 (4 * cp + i) ((b.1 17 14 (4 * cp + i)) + 0)) 17 14 (4 * dp + i) ((b.1 17 14 (4 * dp + i)) - 0)), (b.2 + 0)) ⟨hW, hS, lv_sub hl [4, 5, 6, 1, 0] rfl, hnx⟩
            · refine lv_aload_n hx hb dX6_fill_78 rfl (lv_at hl 0 rfl) ?_
              refine lv_iconst (v := 3) hx hb dX6_fill_79 (by decide) ?_
              refine va_calli (va_runV (As := [.int 3]) (rest := []) ⟨hx, hb, hml, hown, hts⟩ (c_X6_fails l D cT z ad nc ng (cf_s3 S 6 0 23 0) P O 3) (cwV 1 hts gX6_fill_X6_fails rfl rfl rfl (by decide +kernel) ⟨Nat.le_of_ble_eq_true rfl, Nat.le_of_ble_eq_true rfl⟩) (cf_preV (T := TX6) (N := 24) hT hS hW cf_e6 rfl) rfl rfl hl.1 rfl (lv_room (Nat.le_of_ble_eq_true rfl)) dX6_fill_80 ⟨Nat.le_of_ble_eq_true rfl, Nat.le_of_ble_eq_true rfl⟩) hS (fun _ _ h => h) (fun _ h => h) (fun r18 ur18 t9 H locs ht hvm hw hW hz1 hk1 hS => ?_)
              have hW := cf_W.er ht hW
              obtain ⟨hr0, hT0⟩ := hw
              subst hT0
              exact W.iret (v := r18) hx hb hr (fun t9 ht9 hw9 => ⟨⟨r18, (cf_s3 (cf_s3 S 6 0 23 0) 6 0 23 3), rfl, Or.inr ⟨cp, dp, hc, hxc, hd, hyd, Or.inr (Or.inl ⟨⟨hne, hsg⟩, fun q => c75_12 q.2, rfl⟩)⟩, cf_W.re ht9 hW⟩, hS.F ht9⟩) hS.2.2 dX6_fill_83
        · refine lv_aload_n hx hb dX6_fill_54 rfl (lv_at hl 0 rfl) ?_
          refine lv_iconst (v := 2) hx hb dX6_fill_55 (by decide) ?_
          refine va_calli (va_runV (As := [.int 2]) (rest := []) ⟨hx, hb, hml, hown, hts⟩ (c_X6_fails l D cT z ad nc ng (cf_s3 S 6 0 23 0) P O 2) (cwV 1 hts gX6_fill_X6_fails rfl rfl rfl (by decide +kernel) ⟨Nat.le_of_ble_eq_true rfl, Nat.le_of_ble_eq_true rfl⟩) (cf_preV (T := TX6) (N := 24) hT hS hW cf_e6 rfl) rfl rfl hl.1 rfl (lv_room (Nat.le_of_ble_eq_true rfl)) dX6_fill_56 ⟨Nat.le_of_ble_eq_true rfl, Nat.le_of_ble_eq_true rfl⟩) hS (fun _ _ h => h) (fun _ h => h) (fun r19 ur19 t9 H locs ht hvm hw hW hz1 hk1 hS => ?_)
          have hW := cf_W.er ht hW
          obtain ⟨hr0, hT0⟩ := hw
          subst hT0
          exact W.iret (v := r19) hx hb hr (fun t9 ht9 hw9 => ⟨⟨r19, (cf_s3 (cf_s3 S 6 0 23 0) 6 0 23 2), rfl, Or.inr ⟨cp, dp, hc, hxc, hd, hyd, Or.inl ⟨fun q => c51_9 (by rw [q.2]), rfl⟩⟩, cf_W.re ht9 hW⟩, hS.F ht9⟩) hS.2.2 dX6_fill_59
    · have hy := k0.f c14_5
      refine lv_iconst (v := 1) hx hb dX6_fill_17 (by decide) ?_
      refine lv_goto (tgt := 22) hx hb dX6_fill_18 (by decide) ?_
      refine cf_putE (v := .int 1) (ty := .int) (ci := 6) (C := RX6) (T := TX6) (N := 24) hx hb hts (fun _ h => List.mem_cons_of_mem _ (List.mem_append_right _ (h))) tyX6 tyX6_ok nmX6 hown hT.1 hW hS cf_e6 rfl 23 (by decide) (hts (.fieldLink RX6 70 "GameCafeModel" "thrown" "I") (List.mem_of_getElem? (i := 1) rfl)) (fun _ h9 => h9) rfl (by decide +kernel) rfl rfl (Nat.le_of_ble_eq_true rfl) dX6_fill_22 (E2 := (cf_E cT nc ng (cf_s3 S 6 0 23 1) P O ad)) (cf_upS 6 0 (upd (S 6 0) 23 1) rfl) (fun H locs hW hS => ?_)
      refine lv_aload_n hx hb dX6_fill_25 rfl (lv_at hl 0 rfl) ?_
      refine cf_get (v := .int 1) (ci := 6) (C := RX6) (T := TX6) (N := 24) hx hb hts (fun _ h => List.mem_cons_of_mem _ (List.mem_append_right _ (h))) hown hT.1 hW cf_e6 rfl 23 (by decide) (hts (.fieldLink RX6 70 "GameCafeModel" "thrown" "I") (List.mem_of_getElem? (i := 1) rfl)) (fun _ h9 => h9) (congrArg (fun x => some (Value.int x)) (by simp [cf_s3, cf_g2, upd] : (cf_s3 S 6 0 23 1) 6 0 23 = 1)) dX6_fill_26 ?_
      refine lv_if_le (tgt := 34) hx hb dX6_fill_29 (by decide) (fun c29_20 => (by first | exact absurd c29_20 (by decide) | exact absurd (by decide) c29_20)) (fun c29_20 => ?_)
      refine lv_iconst (v := 0) hx hb dX6_fill_32 (by decide) ?_
      exact W.iret (v := 0) hx hb hr (fun t9 ht9 hw9 => ⟨⟨0, (cf_s3 S 6 0 23 1), rfl, Or.inl ⟨fun q => hy q.2, rfl⟩, cf_W.re ht9 hW⟩, hS.F ht9⟩) hS.2.2 dX6_fill_33
set_option maxHeartbeats 4000000 in
set_option maxRecDepth 100000 in
/-- X6_grow -/
theorem c_X6_grow (l : Launch) (D : va_G) (cT : Nat → ClassId) (z : Nat) (ad : cf_Ad) (nc ng : Nat) (S : cf_S) (P : cf_Pt) (O : Nat → Int64) (x y : Int32) (hng : S 6 0 15 = nI ng) (hng60 : ng ≤ 60) (hnc : nc ≤ 15) (TB CB : Nat → Nat) (hGG : ∀ j, j < ng → S 17 17 j = nI (TB j) ∧ TB j < 6 ∧ S 17 18 j = nI (CB j) ∧ CB j < nc) (hM : ∀ j, j < nc → S 17 12 j = nI (P 0 j 0) ∧ P 0 j 0 < 5) : Met l yX6_grow wsX6_grow ({ frames := 2, cells := 0, slots := 0, locals := 43 }) (va_Pc [.ref (ad 6 0), .int x, .int y] (cf_P D cT z (cf_E cT nc ng S P O ad) ad)) (cf_Qi D z (fun (r : Int32) (T : cf_S) => (¬ cf_lvM S ng x ∧ T = (cf_s3 S 6 0 23 1)) ∨ ∃ j : Nat, j < ng ∧ x = nI j ∧ S 17 20 j = 0 ∧ ((¬ cf_rg y 1 7 ∧ T = cf_s3 (cf_s3 S 6 0 23 0) 6 0 23 2) ∨ (cf_rg y 1 7 ∧ ∃ b : Option Nat, (((S 17 16 j + y) ≤ S 17 7 (TB j) ∧ b = some (TB j)) ∨ (S 17 7 (TB j) < (S 17 16 j + y) ∧ b = cf_best (cf_okTM S (S 17 16 j + y)) (cf_ltTM S) 6)) ∧ ((¬ ((S 17 16 j + y) ≤ S 17 2 (P 0 (CB j) 0) ∧ ¬ b = none) ∧ T = cf_s3 (cf_s3 S 6 0 23 0) 6 0 23 3) ∨ ∃ t : Nat, b = some t ∧ (S 17 16 j + y) ≤ S 17 2 (P 0 (CB j) 0) ∧ r = nI t ∧ T = (cf_s3 (cf_s3 (cf_s3 (cf_s3 (cf_s3 S 6 0 23 0) 17 8 (TB j) 0) 17 8 t (x + 1)) 17 17 j (nI t)) 17 16 j ((S 17 16 j) + y)))))) (fun T => cf_E cT nc ng T P O ad) (fun _ => ad)) 0 0 (fun q => z ≤ q) := by
  refine Met.ofW (cc := cX6_grow) (maxL := 5) (ret := (some .int)) (by decide) rfl ?_
  intro p e s m args below meth c s₁ B hml hv
  obtain ⟨rfl, hW, hT⟩ := hv
  have hx := B.exec
  have hb := B.bytes
  have hr := B.returns
  have hts := atoms_spec (ws := wsX6_grow) B.pre
  have hown : s.vm.findClass RX6 = some m.cls := findClass_of_methodNamed B.named
  have hlocks := B.notSynchronized
  have hS : va_S (fun q => z ≤ q) s.heap s.heap [] := va_S.rf
  have hl := lv_entry ([.ref (ad 6 0), .int x, .int y]) (n := 5) (Nat.le_of_ble_eq_true rfl)
  rw [lg_entry_eq]
  generalize (lg_sl ([.ref (ad 6 0), .int x, .int y]) ++ List.replicate (5 - (lg_sl ([.ref (ad 6 0), .int x, .int y])).length) Slot.unset).toArray = ls at hl ⊢
  have hl : lv_has ls 5 [(0, .ref (ad 6 0)), (1, .int x), (2, .int y)] := hl
  skip
  refine lv_aload_n hx hb dX6_grow_0 rfl (lv_at hl 0 rfl) ?_
  refine lv_iload_n hx hb dX6_grow_1 rfl (lv_at hl 1 rfl) ?_
  refine va_calli (va_runV (As := [.int x]) (rest := []) ⟨hx, hb, hml, hown, hts⟩ (c_X6_isThere l D cT z ad nc ng S P O x hng hng60) (cwV 1 hts gX6_grow_X6_isThere rfl rfl rfl (by decide +kernel) ⟨Nat.le_of_ble_eq_true rfl, Nat.le_of_ble_eq_true rfl⟩) (cf_preV (T := TX6) (N := 24) hT hS hW cf_e6 rfl) rfl rfl hl.1 rfl (lv_room (Nat.le_of_ble_eq_true rfl)) dX6_grow_2 ⟨Nat.le_of_ble_eq_true rfl, Nat.le_of_ble_eq_true rfl⟩) hS (fun _ _ h => h) (fun _ h => h) (fun r1 ur1 t9 H locs ht hvm hw hW hz1 hk1 hS => ?_)
  have hW := cf_W.er ht hW
  rcases hw with ⟨hr0, hlv, hT0⟩ | ⟨hr0, hlv, hT0⟩
  · subst hr0 hT0
    refine lv_if_ne (tgt := 10) hx hb dX6_grow_5 (by decide) (fun c5_2 => ?_) (fun c5_2 => (by first | exact absurd (by decide) c5_2 | exact absurd c5_2 (by decide)))
    have hlv0 := hlv
    obtain ⟨j, hj, hxj, hg0⟩ := hlv
    obtain ⟨e1, e2, e3, e4⟩ := hGG j hj
    obtain ⟨e5, e6⟩ := hM (CB j) e4
    refine lv_iload_n hx hb dX6_grow_10 rfl (lv_at hl 2 rfl) ?_
    refine lv_iconst (v := 1) hx hb dX6_grow_11 (by decide) ?_
    refine lv_bipush (v := 7) hx hb dX6_grow_12 (by decide) ?_
    refine va_calli (va_runS (As := [.int y, .int 1, .int 7]) (rest := []) ⟨hx, hb, hml, hown, hts⟩ (c_X6_in l D cT z ad _ y 1 7) (va_cwS 3 hts gX6_grow_X6_in rfl rfl rfl (by decide +kernel) ⟨Nat.le_of_ble_eq_true rfl, Nat.le_of_ble_eq_true rfl⟩) (cf_preS hT hS hW) rfl rfl hl.1 rfl (lv_room (Nat.le_of_ble_eq_true rfl)) dX6_grow_14 ⟨Nat.le_of_ble_eq_true rfl, Nat.le_of_ble_eq_true rfl⟩) hS (fun _ _ h => h) (fun _ h => h) (fun r3 ur3 t9 H locs ht hvm hw hW hz1 hk1 hS => ?_)
    have hW := cf_W.er ht hW
    have k0 := hw
    refine lv_if_ne (tgt := 26) hx hb dX6_grow_17 (by decide) (fun c17_4 => ?_) (fun c17_4 => ?_)
    · have hr7 := k0.t c17_4
      refine lv_aload_n hx hb dX6_grow_26 rfl (lv_at hl 0 rfl) ?_
      refine cf_get (v := .ref (ad 17 16)) (ci := 6) (C := RX6) (T := TX6) (N := 24) hx hb hts (fun _ h => List.mem_cons_of_mem _ (List.mem_append_right _ (h))) hown hT.1 hW cf_e6 rfl 16 (by decide) (hts (.fieldLink RX6 49 "GameCafeModel" "people" "[I") (List.mem_of_getElem? (i := 1) rfl)) (fun _ h9 => h9) rfl dX6_grow_27 ?_
      refine lv_iload_n hx hb dX6_grow_30 rfl (lv_at hl 1 rfl) ?_
      refine cf_ildN (t0 := 0) (n := 60) (f := (cf_s3 S 6 0 23 0) 17 16) (v := (S 17 16 j)) hx hb hT.1 hW (cf_e17 (i := 16) (by decide)) rfl j hxj (by omega) (by decide) dX6_grow_31 (by simp [cf_s3, cf_g2, upd] : (cf_s3 S 6 0 23 0) 17 16 j = S 17 16 j) ?_
      refine lv_iload_n hx hb dX6_grow_32 rfl (lv_at hl 2 rfl) ?_
      refine lv_iadd hx hb dX6_grow_33 ?_
      refine lv_istore_n (lv' := [(3, .int ((S 17 16 j) + y)), (0, .ref (ad 6 0)), (1, .int x), (2, .int y)]) hx hb dX6_grow_34 rfl hl (by decide) rfl (fun ls hl => ?_)
      refine lv_aload_n hx hb dX6_grow_35 rfl (lv_at hl 1 rfl) ?_
      refine cf_get (v := .ref (ad 17 7)) (ci := 6) (C := RX6) (T := TX6) (N := 24) hx hb hts (fun _ h => List.mem_cons_of_mem _ (List.mem_append_right _ (h))) hown hT.1 hW cf_e6 rfl 7 (by decide) (hts (.fieldLink RX6 28 "GameCafeModel" "seats" "[I") (List.mem_of_getElem? (i := 2) rfl)) (fun _ h9 => h9) rfl dX6_grow_36 ?_
      refine lv_aload_n hx hb dX6_grow_39 rfl (lv_at hl 1 rfl) ?_
      refine cf_get (v := .ref (ad 17 17)) (ci := 6) (C := RX6) (T := TX6) (N := 24) hx hb hts (fun _ h => List.mem_cons_of_mem _ (List.mem_append_right _ (h))) hown hT.1 hW cf_e6 rfl 17 (by decide) (hts (.fieldLink RX6 52 "GameCafeModel" "tables" "[I") (List.mem_of_getElem? (i := 3) rfl)) (fun _ h9 => h9) rfl dX6_grow_40 ?_
      refine lv_iload_n hx hb dX6_grow_43 rfl (lv_at hl 2 rfl) ?_
      refine cf_ildN (t0 := 0) (n := 60) (f := (cf_s3 S 6 0 23 0) 17 17) (v := (nI (TB j))) hx hb hT.1 hW (cf_e17 (i := 17) (by decide)) rfl j hxj (by omega) (by decide) dX6_grow_44 e1 ?_
      refine cf_ildN (t0 := 0) (n := 6) (f := (cf_s3 S 6 0 23 0) 17 7) (v := (S 17 7 (TB j))) hx hb hT.1 hW (cf_e17 (i := 7) (by decide)) rfl (TB j) rfl e2 (by decide) dX6_grow_45 (by simp [cf_s3, cf_g2, upd] : (cf_s3 S 6 0 23 0) 17 7 (TB j) = S 17 7 (TB j)) ?_
      refine lv_iload_n hx hb dX6_grow_46 rfl (lv_at hl 0 rfl) ?_
      refine lv_icmp_lt (tgt := 59) hx hb dX6_grow_47 (by decide) (fun c47_5 => ?_) (fun c47_5 => ?_)
      · refine lv_aload_n hx hb dX6_grow_59 rfl (lv_at hl 1 rfl) ?_
        refine lv_iload_n hx hb dX6_grow_60 rfl (lv_at hl 0 rfl) ?_
        refine va_calli (va_runV (As := [.int ((S 17 16 j) + y)]) (rest := []) ⟨hx, hb, hml, hown, hts⟩ (c_X6_tableFor l D cT z ad nc ng (cf_s3 S 6 0 23 0) P O (S 17 16 j + y)) (cwV 1 hts gX6_grow_X6_tableFor rfl rfl rfl (by decide +kernel) ⟨Nat.le_of_ble_eq_true rfl, Nat.le_of_ble_eq_true rfl⟩) (cf_preV (T := TX6) (N := 24) hT hS hW cf_e6 rfl) rfl rfl hl.1 rfl (lv_room (Nat.le_of_ble_eq_true rfl)) dX6_grow_61 ⟨Nat.le_of_ble_eq_true rfl, Nat.le_of_ble_eq_true rfl⟩) hS (fun _ _ h => h) (fun _ h => h) (fun r6 ur6 t9 H locs ht hvm hw hW hz1 hk1 hS => ?_)
        have hW := cf_W.er ht hW
        obtain ⟨b0, hb0, hrb⟩ := hw
        subst hrb
        refine lv_istore (lv' := [(4, .int (cf_oi b0)), (3, .int ((S 17 16 j) + y)), (0, .ref (ad 6 0)), (1, .int x), (2, .int y)]) hx hb dX6_grow_64 hl (by decide) rfl (fun ls hl => ?_)
        refine lv_iload_n hx hb dX6_grow_66 rfl (lv_at hl 1 rfl) ?_
        refine lv_aload_n hx hb dX6_grow_67 rfl (lv_at hl 2 rfl) ?_
        refine cf_get (v := .ref (ad 17 2)) (ci := 6) (C := RX6) (T := TX6) (N := 24) hx hb hts (fun _ h => List.mem_cons_of_mem _ (List.mem_append_right _ (h))) hown hT.1 hW cf_e6 rfl 2 (by decide) (hts (.fieldLink RX6 13 "GameCafeModel" "mosts" "[I") (List.mem_of_getElem? (i := 4) rfl)) (fun _ h9 => h9) rfl dX6_grow_68 ?_
        refine lv_aload_n hx hb dX6_grow_71 rfl (lv_at hl 2 rfl) ?_
        refine cf_get (v := .ref (ad 17 12)) (ci := 6) (C := RX6) (T := TX6) (N := 24) hx hb hts (fun _ h => List.mem_cons_of_mem _ (List.mem_append_right _ (h))) hown hT.1 hW cf_e6 rfl 12 (by decide) (hts (.fieldLink RX6 40 "GameCafeModel" "games" "[I") (List.mem_of_getElem? (i := 5) rfl)) (fun _ h9 => h9) rfl dX6_grow_72 ?_
        refine lv_aload_n hx hb dX6_grow_75 rfl (lv_at hl 2 rfl) ?_
        refine cf_get (v := .ref (ad 17 18)) (ci := 6) (C := RX6) (T := TX6) (N := 24) hx hb hts (fun _ h => List.mem_cons_of_mem _ (List.mem_append_right _ (h))) hown hT.1 hW cf_e6 rfl 18 (by decide) (hts (.fieldLink RX6 55 "GameCafeModel" "ofGroup" "[I") (List.mem_of_getElem? (i := 6) rfl)) (fun _ h9 => h9) rfl dX6_grow_76 ?_
        refine lv_iload_n hx hb dX6_grow_79 rfl (lv_at hl 3 rfl) ?_
        refine cf_ildN (t0 := 0) (n := 60) (f := (cf_s3 S 6 0 23 0) 17 18) (v := (nI (CB j))) hx hb hT.1 hW (cf_e17 (i := 18) (by decide)) rfl j hxj (by omega) (by decide) dX6_grow_80 e3 ?_
        refine cf_ildN (t0 := 0) (n := 15) (f := (cf_s3 S 6 0 23 0) 17 12) (v := (nI (P 0 (CB j) 0))) hx hb hT.1 hW (cf_e17 (i := 12) (by decide)) rfl (CB j) rfl (by omega) (by decide) dX6_grow_81 e5 ?_
        refine cf_ildN (t0 := 0) (n := 5) (f := (cf_s3 S 6 0 23 0) 17 2) (v := (S 17 2 (P 0 (CB j) 0))) hx hb hT.1 hW (cf_e17 (i := 2) (by decide)) rfl (P 0 (CB j) 0) rfl e6 (by decide) dX6_grow_82 (by simp [cf_s3, cf_g2, upd] : (cf_s3 S 6 0 23 0) 17 2 (P 0 (CB j) 0) = S 17 2 (P 0 (CB j) 0)) ?_
        refine lv_icmp_gt (tgt := 92) hx hb dX6_grow_83 (by decide) (fun c83_7 => ?_) (fun c83_7 => ?_)
        · refine lv_aload_n hx hb dX6_grow_92 rfl (lv_at hl 2 rfl) ?_
          refine lv_iconst (v := 3) hx hb dX6_grow_93 (by decide) ?_
          refine va_calli (va_runV (As := [.int 3]) (rest := []) ⟨hx, hb, hml, hown, hts⟩ (c_X6_fails l D cT z ad nc ng (cf_s3 S 6 0 23 0) P O 3) (cwV 1 hts gX6_grow_X6_fails rfl rfl rfl (by decide +kernel) ⟨Nat.le_of_ble_eq_true rfl, Nat.le_of_ble_eq_true rfl⟩) (cf_preV (T := TX6) (N := 24) hT hS hW cf_e6 rfl) rfl rfl hl.1 rfl (lv_room (Nat.le_of_ble_eq_true rfl)) dX6_grow_94 ⟨Nat.le_of_ble_eq_true rfl, Nat.le_of_ble_eq_true rfl⟩) hS (fun _ _ h => h) (fun _ h => h) (fun r8 ur8 t9 H locs ht hvm hw hW hz1 hk1 hS => ?_)
          have hW := cf_W.er ht hW
          obtain ⟨hr0, hT0⟩ := hw
          subst hT0
          exact W.iret (v := r8) hx hb hr (fun t9 ht9 hw9 => ⟨⟨r8, (cf_s3 (cf_s3 S 6 0 23 0) 6 0 23 3), rfl, Or.inr ⟨j, hj, hxj, hg0, Or.inr ⟨hr7, b0, (Or.inr ⟨c47_5, hb0⟩), Or.inl ⟨fun q => absurd q.1 (Int32.not_le.mpr c83_7), rfl⟩⟩⟩, cf_W.re ht9 hW⟩, hS.F ht9⟩) hS.2.2 dX6_grow_97
        · have hle : S 17 16 j + y ≤ S 17 2 (P 0 (CB j) 0) := Int32.not_lt.mp c83_7
          rcases b0 with _ | t
          · have hl : lv_has ls 5 [(4, .int (-1)), (3, .int ((S 17 16 j) + y)), (0, .ref (ad 6 0)), (1, .int x), (2, .int y)] := hl
            refine lv_iload hx hb dX6_grow_86 (lv_at hl 0 rfl) ?_
            refine lv_iconst (v := (-1)) hx hb dX6_grow_88 (by decide) ?_
            refine lv_icmp_ne (tgt := 98) hx hb dX6_grow_89 (by decide) (fun c89_9 => (by first | exact absurd c89_9 rfl | exact absurd rfl c89_9)) (fun c89_9 => ?_)
            refine lv_aload_n hx hb dX6_grow_92 rfl (lv_at hl 2 rfl) ?_
            refine lv_iconst (v := 3) hx hb dX6_grow_93 (by decide) ?_
            refine va_calli (va_runV (As := [.int 3]) (rest := []) ⟨hx, hb, hml, hown, hts⟩ (c_X6_fails l D cT z ad nc ng (cf_s3 S 6 0 23 0) P O 3) (cwV 1 hts gX6_grow_X6_fails rfl rfl rfl (by decide +kernel) ⟨Nat.le_of_ble_eq_true rfl, Nat.le_of_ble_eq_true rfl⟩) (cf_preV (T := TX6) (N := 24) hT hS hW cf_e6 rfl) rfl rfl hl.1 rfl (lv_room (Nat.le_of_ble_eq_true rfl)) dX6_grow_94 ⟨Nat.le_of_ble_eq_true rfl, Nat.le_of_ble_eq_true rfl⟩) hS (fun _ _ h => h) (fun _ h => h) (fun r10 ur10 t9 H locs ht hvm hw hW hz1 hk1 hS => ?_)
            have hW := cf_W.er ht hW
            obtain ⟨hr0, hT0⟩ := hw
            subst hT0
            exact W.iret (v := r10) hx hb hr (fun t9 ht9 hw9 => ⟨⟨r10, (cf_s3 (cf_s3 S 6 0 23 0) 6 0 23 3), rfl, Or.inr ⟨j, hj, hxj, hg0, Or.inr ⟨hr7, none, (Or.inr ⟨c47_5, hb0⟩), Or.inl ⟨fun q => q.2 rfl, rfl⟩⟩⟩, cf_W.re ht9 hW⟩, hS.F ht9⟩) hS.2.2 dX6_grow_97
          · have hl : lv_has ls 5 [(4, .int (nI t)), (3, .int ((S 17 16 j) + y)), (0, .ref (ad 6 0)), (1, .int x), (2, .int y)] := hl
            refine lv_iload hx hb dX6_grow_86 (lv_at hl 0 rfl) ?_
            refine lv_iconst (v := (-1)) hx hb dX6_grow_88 (by decide) ?_
            have ht6 : t < 6 := (cf_best_in hb0.symm).1
            refine lv_icmp_ne (tgt := 98) hx hb dX6_grow_89 (by decide) (fun c89_11 => ?_) (fun c89_11 => (by first | exact absurd (cf_nIm1 (by omega)) c89_11 | exact absurd c89_11 (cf_nIm1 (by omega))))
            refine lv_aload_n hx hb dX6_grow_98 rfl (lv_at hl 2 rfl) ?_
            refine cf_get (v := .ref (ad 17 8)) (ci := 6) (C := RX6) (T := TX6) (N := 24) hx hb hts (fun _ h => List.mem_cons_of_mem _ (List.mem_append_right _ (h))) hown hT.1 hW cf_e6 rfl 8 (by decide) (hts (.fieldLink RX6 31 "GameCafeModel" "taken" "[I") (List.mem_of_getElem? (i := 7) rfl)) (fun _ h9 => h9) rfl dX6_grow_99 ?_
            refine lv_aload_n hx hb dX6_grow_102 rfl (lv_at hl 2 rfl) ?_
            refine cf_get (v := .ref (ad 17 17)) (ci := 6) (C := RX6) (T := TX6) (N := 24) hx hb hts (fun _ h => List.mem_cons_of_mem _ (List.mem_append_right _ (h))) hown hT.1 hW cf_e6 rfl 17 (by decide) (hts (.fieldLink RX6 52 "GameCafeModel" "tables" "[I") (List.mem_of_getElem? (i := 3) rfl)) (fun _ h9 => h9) rfl dX6_grow_103 ?_
            refine lv_iload_n hx hb dX6_grow_106 rfl (lv_at hl 3 rfl) ?_
            refine cf_ildN (t0 := 0) (n := 60) (f := (cf_s3 S 6 0 23 0) 17 17) (v := (nI (TB j))) hx hb hT.1 hW (cf_e17 (i := 17) (by decide)) rfl j hxj (by omega) (by decide) dX6_grow_107 e1 ?_
            refine lv_iconst (v := 0) hx hb dX6_grow_108 (by decide) ?_
            refine cf_istN (t0 := 0) (n := 6) (f := (cf_s3 S 6 0 23 0) 17 8) hx hb hT.1 hW hS (cf_e17 (i := 8) (by decide)) rfl (TB j) rfl e2 (by decide) dX6_grow_109 (E2 := (cf_E cT nc ng (cf_s3 (cf_s3 S 6 0 23 0) 17 8 (TB j) 0) P O ad)) (cf_upS 17 8 (upd ((cf_s3 S 6 0 23 0) 17 8) (TB j) 0) (cf_c17 (i := 8) (by decide))) (fun H locs hW hS => ?_)
            refine lv_aload_n hx hb dX6_grow_110 rfl (lv_at hl 2 rfl) ?_
            refine cf_get (v := .ref (ad 17 8)) (ci := 6) (C := RX6) (T := TX6) (N := 24) hx hb hts (fun _ h => List.mem_cons_of_mem _ (List.mem_append_right _ (h))) hown hT.1 hW cf_e6 rfl 8 (by decide) (hts (.fieldLink RX6 31 "GameCafeModel" "taken" "[I") (List.mem_of_getElem? (i := 7) rfl)) (fun _ h9 => h9) rfl dX6_grow_111 ?_
            refine lv_iload hx hb dX6_grow_114 (lv_at hl 0 rfl) ?_
            refine lv_iload_n hx hb dX6_grow_116 rfl (lv_at hl 3 rfl) ?_
            refine lv_iconst (v := 1) hx hb dX6_grow_117 (by decide) ?_
            refine lv_iadd hx hb dX6_grow_118 ?_
            refine cf_istN (t0 := 0) (n := 6) (f := (cf_s3 (cf_s3 S 6 0 23 0) 17 8 (TB j) 0) 17 8) hx hb hT.1 hW hS (cf_e17 (i := 8) (by decide)) rfl t rfl ht6 (by decide) dX6_grow_119 (E2 := (cf_E cT nc ng (cf_s3 (cf_s3 (cf_s3 S 6 0 23 0) 17 8 (TB j) 0) 17 8 t (x + 1)) P O ad)) (cf_upS 17 8 (upd ((cf_s3 (cf_s3 S 6 0 23 0) 17 8 (TB j) 0) 17 8) t (x + 1)) (cf_c17 (i := 8) (by decide))) (fun H locs hW hS => ?_)
            refine lv_aload_n hx hb dX6_grow_120 rfl (lv_at hl 2 rfl) ?_
            refine cf_get (v := .ref (ad 17 17)) (ci := 6) (C := RX6) (T := TX6) (N := 24) hx hb hts (fun _ h => List.mem_cons_of_mem _ (List.mem_append_right _ (h))) hown hT.1 hW cf_e6 rfl 17 (by decide) (hts (.fieldLink RX6 52 "GameCafeModel" "tables" "[I") (List.mem_of_getElem? (i := 3) rfl)) (fun _ h9 => h9) rfl dX6_grow_121 ?_
            refine lv_iload_n hx hb dX6_grow_124 rfl (lv_at hl 3 rfl) ?_
            refine lv_iload hx hb dX6_grow_125 (lv_at hl 0 rfl) ?_
            refine cf_istN (t0 := 0) (n := 60) (f := (cf_s3 (cf_s3 (cf_s3 S 6 0 23 0) 17 8 (TB j) 0) 17 8 t (x + 1)) 17 17) hx hb hT.1 hW hS (cf_e17 (i := 17) (by decide)) rfl j hxj (by omega) (by decide) dX6_grow_127 (E2 := (cf_E cT nc ng (cf_s3 (cf_s3 (cf_s3 (cf_s3 S 6 0 23 0) 17 8 (TB j) 0) 17 8 t (x + 1)) 17 17 j (nI t)) P O ad)) (cf_upS 17 17 (upd ((cf_s3 (cf_s3 (cf_s3 S 6 0 23 0) 17 8 (TB j) 0) 17 8 t (x + 1)) 17 17) j (nI t)) (cf_c17 (i := 17) (by decide))) (fun H locs hW hS => ?_)
            refine lv_aload_n hx hb dX6_grow_128 rfl (lv_at hl 2 rfl) ?_
            refine cf_get (v := .ref (ad 17 16)) (ci := 6) (C := RX6) (T := TX6) (N := 24) hx hb hts (fun _ h => List.mem_cons_of_mem _ (List.mem_append_right _ (h))) hown hT.1 hW cf_e6 rfl 16 (by decide) (hts (.fieldLink RX6 49 "GameCafeModel" "people" "[I") (List.mem_of_getElem? (i := 1) rfl)) (fun _ h9 => h9) rfl dX6_grow_129 ?_
            refine lv_iload_n hx hb dX6_grow_132 rfl (lv_at hl 3 rfl) ?_
            refine lv_iload_n hx hb dX6_grow_133 rfl (lv_at hl 1 rfl) ?_
            refine cf_istN (t0 := 0) (n := 60) (f := (cf_s3 (cf_s3 (cf_s3 (cf_s3 S 6 0 23 0) 17 8 (TB j) 0) 17 8 t (x + 1)) 17 17 j (nI t)) 17 16) hx hb hT.1 hW hS (cf_e17 (i := 16) (by decide)) rfl j hxj (by omega) (by decide) dX6_grow_134 (E2 := (cf_E cT nc ng (cf_s3 (cf_s3 (cf_s3 (cf_s3 (cf_s3 S 6 0 23 0) 17 8 (TB j) 0) 17 8 t (x + 1)) 17 17 j (nI t)) 17 16 j ((S 17 16 j) + y)) P O ad)) (cf_upS 17 16 (upd ((cf_s3 (cf_s3 (cf_s3 (cf_s3 S 6 0 23 0) 17 8 (TB j) 0) 17 8 t (x + 1)) 17 17 j (nI t)) 17 16) j ((S 17 16 j) + y)) (cf_c17 (i := 16) (by decide))) (fun H locs hW hS => ?_)
            refine lv_iload hx hb dX6_grow_135 (lv_at hl 0 rfl) ?_
            exact W.iret (v := (nI t)) hx hb hr (fun t9 ht9 hw9 => ⟨⟨(nI t), (cf_s3 (cf_s3 (cf_s3 (cf_s3 (cf_s3 S 6 0 23 0) 17 8 (TB j) 0) 17 8 t (x + 1)) 17 17 j (nI t)) 17 16 j ((S 17 16 j) + y)), rfl, Or.inr ⟨j, hj, hxj, hg0, Or.inr ⟨hr7, (some t), (Or.inr ⟨c47_5, hb0⟩), Or.inr ⟨t, rfl, hle, rfl, rfl⟩⟩⟩, cf_W.re ht9 hW⟩, hS.F ht9⟩) hS.2.2 dX6_grow_137
      · refine lv_aload_n hx hb dX6_grow_50 rfl (lv_at hl 1 rfl) ?_
        refine cf_get (v := .ref (ad 17 17)) (ci := 6) (C := RX6) (T := TX6) (N := 24) hx hb hts (fun _ h => List.mem_cons_of_mem _ (List.mem_append_right _ (h))) hown hT.1 hW cf_e6 rfl 17 (by decide) (hts (.fieldLink RX6 52 "GameCafeModel" "tables" "[I") (List.mem_of_getElem? (i := 3) rfl)) (fun _ h9 => h9) rfl dX6_grow_51 ?_
        refine lv_iload_n hx hb dX6_grow_54 rfl (lv_at hl 2 rfl) ?_
        refine cf_ildN (t0 := 0) (n := 60) (f := (cf_s3 S 6 0 23 0) 17 17) (v := (nI (TB j))) hx hb hT.1 hW (cf_e17 (i := 17) (by decide)) rfl j hxj (by omega) (by decide) dX6_grow_55 e1 ?_
        refine lv_goto (tgt := 64) hx hb dX6_grow_56 (by decide) ?_
        refine lv_istore (lv' := [(4, .int (nI (TB j))), (3, .int ((S 17 16 j) + y)), (0, .ref (ad 6 0)), (1, .int x), (2, .int y)]) hx hb dX6_grow_64 hl (by decide) rfl (fun ls hl => ?_)
        refine lv_iload_n hx hb dX6_grow_66 rfl (lv_at hl 1 rfl) ?_
        refine lv_aload_n hx hb dX6_grow_67 rfl (lv_at hl 2 rfl) ?_
        refine cf_get (v := .ref (ad 17 2)) (ci := 6) (C := RX6) (T := TX6) (N := 24) hx hb hts (fun _ h => List.mem_cons_of_mem _ (List.mem_append_right _ (h))) hown hT.1 hW cf_e6 rfl 2 (by decide) (hts (.fieldLink RX6 13 "GameCafeModel" "mosts" "[I") (List.mem_of_getElem? (i := 4) rfl)) (fun _ h9 => h9) rfl dX6_grow_68 ?_
        refine lv_aload_n hx hb dX6_grow_71 rfl (lv_at hl 2 rfl) ?_
        refine cf_get (v := .ref (ad 17 12)) (ci := 6) (C := RX6) (T := TX6) (N := 24) hx hb hts (fun _ h => List.mem_cons_of_mem _ (List.mem_append_right _ (h))) hown hT.1 hW cf_e6 rfl 12 (by decide) (hts (.fieldLink RX6 40 "GameCafeModel" "games" "[I") (List.mem_of_getElem? (i := 5) rfl)) (fun _ h9 => h9) rfl dX6_grow_72 ?_
        refine lv_aload_n hx hb dX6_grow_75 rfl (lv_at hl 2 rfl) ?_
        refine cf_get (v := .ref (ad 17 18)) (ci := 6) (C := RX6) (T := TX6) (N := 24) hx hb hts (fun _ h => List.mem_cons_of_mem _ (List.mem_append_right _ (h))) hown hT.1 hW cf_e6 rfl 18 (by decide) (hts (.fieldLink RX6 55 "GameCafeModel" "ofGroup" "[I") (List.mem_of_getElem? (i := 6) rfl)) (fun _ h9 => h9) rfl dX6_grow_76 ?_
        refine lv_iload_n hx hb dX6_grow_79 rfl (lv_at hl 3 rfl) ?_
        refine cf_ildN (t0 := 0) (n := 60) (f := (cf_s3 S 6 0 23 0) 17 18) (v := (nI (CB j))) hx hb hT.1 hW (cf_e17 (i := 18) (by decide)) rfl j hxj (by omega) (by decide) dX6_grow_80 e3 ?_
        refine cf_ildN (t0 := 0) (n := 15) (f := (cf_s3 S 6 0 23 0) 17 12) (v := (nI (P 0 (CB j) 0))) hx hb hT.1 hW (cf_e17 (i := 12) (by decide)) rfl (CB j) rfl (by omega) (by decide) dX6_grow_81 e5 ?_
        refine cf_ildN (t0 := 0) (n := 5) (f := (cf_s3 S 6 0 23 0) 17 2) (v := (S 17 2 (P 0 (CB j) 0))) hx hb hT.1 hW (cf_e17 (i := 2) (by decide)) rfl (P 0 (CB j) 0) rfl e6 (by decide) dX6_grow_82 (by simp [cf_s3, cf_g2, upd] : (cf_s3 S 6 0 23 0) 17 2 (P 0 (CB j) 0) = S 17 2 (P 0 (CB j) 0)) ?_
        refine lv_icmp_gt (tgt := 92) hx hb dX6_grow_83 (by decide) (fun c83_12 => ?_) (fun c83_12 => ?_)
        · refine lv_aload_n hx hb dX6_grow_92 rfl (lv_at hl 2 rfl) ?_
          refine lv_iconst (v := 3) hx hb dX6_grow_93 (by decide) ?_
          refine va_calli (va_runV (As := [.int 3]) (rest := []) ⟨hx, hb, hml, hown, hts⟩ (c_X6_fails l D cT z ad nc ng (cf_s3 S 6 0 23 0) P O 3) (cwV 1 hts gX6_grow_X6_fails rfl rfl rfl (by decide +kernel) ⟨Nat.le_of_ble_eq_true rfl, Nat.le_of_ble_eq_true rfl⟩) (cf_preV (T := TX6) (N := 24) hT hS hW cf_e6 rfl) rfl rfl hl.1 rfl (lv_room (Nat.le_of_ble_eq_true rfl)) dX6_grow_94 ⟨Nat.le_of_ble_eq_true rfl, Nat.le_of_ble_eq_true rfl⟩) hS (fun _ _ h => h) (fun _ h => h) (fun r13 ur13 t9 H locs ht hvm hw hW hz1 hk1 hS => ?_)
          have hW := cf_W.er ht hW
          obtain ⟨hr0, hT0⟩ := hw
          subst hT0
          exact W.iret (v := r13) hx hb hr (fun t9 ht9 hw9 => ⟨⟨r13, (cf_s3 (cf_s3 S 6 0 23 0) 6 0 23 3), rfl, Or.inr ⟨j, hj, hxj, hg0, Or.inr ⟨hr7, (some (TB j)), (Or.inl ⟨Int32.not_lt.mp c47_5, rfl⟩), Or.inl ⟨fun q => absurd q.1 (Int32.not_le.mpr c83_12), rfl⟩⟩⟩, cf_W.re ht9 hW⟩, hS.F ht9⟩) hS.2.2 dX6_grow_97
        · have hle : S 17 16 j + y ≤ S 17 2 (P 0 (CB j) 0) := Int32.not_lt.mp c83_12
          refine lv_iload hx hb dX6_grow_86 (lv_at hl 0 rfl) ?_
          refine lv_iconst (v := (-1)) hx hb dX6_grow_88 (by decide) ?_
          refine lv_icmp_ne (tgt := 98) hx hb dX6_grow_89 (by decide) (fun c89_14 => ?_) (fun c89_14 => (by first | exact absurd (cf_nIm1 (by omega)) c89_14 | exact absurd c89_14 (cf_nIm1 (by omega))))
          refine lv_aload_n hx hb dX6_grow_98 rfl (lv_at hl 2 rfl) ?_
          refine cf_get (v := .ref (ad 17 8)) (ci := 6) (C := RX6) (T := TX6) (N := 24) hx hb hts (fun _ h => List.mem_cons_of_mem _ (List.mem_append_right _ (h))) hown hT.1 hW cf_e6 rfl 8 (by decide) (hts (.fieldLink RX6 31 "GameCafeModel" "taken" "[I") (List.mem_of_getElem? (i := 7) rfl)) (fun _ h9 => h9) rfl dX6_grow_99 ?_
          refine lv_aload_n hx hb dX6_grow_102 rfl (lv_at hl 2 rfl) ?_
          refine cf_get (v := .ref (ad 17 17)) (ci := 6) (C := RX6) (T := TX6) (N := 24) hx hb hts (fun _ h => List.mem_cons_of_mem _ (List.mem_append_right _ (h))) hown hT.1 hW cf_e6 rfl 17 (by decide) (hts (.fieldLink RX6 52 "GameCafeModel" "tables" "[I") (List.mem_of_getElem? (i := 3) rfl)) (fun _ h9 => h9) rfl dX6_grow_103 ?_
          refine lv_iload_n hx hb dX6_grow_106 rfl (lv_at hl 3 rfl) ?_
          refine cf_ildN (t0 := 0) (n := 60) (f := (cf_s3 S 6 0 23 0) 17 17) (v := (nI (TB j))) hx hb hT.1 hW (cf_e17 (i := 17) (by decide)) rfl j hxj (by omega) (by decide) dX6_grow_107 e1 ?_
          refine lv_iconst (v := 0) hx hb dX6_grow_108 (by decide) ?_
          refine cf_istN (t0 := 0) (n := 6) (f := (cf_s3 S 6 0 23 0) 17 8) hx hb hT.1 hW hS (cf_e17 (i := 8) (by decide)) rfl (TB j) rfl e2 (by decide) dX6_grow_109 (E2 := (cf_E cT nc ng (cf_s3 (cf_s3 S 6 0 23 0) 17 8 (TB j) 0) P O ad)) (cf_upS 17 8 (upd ((cf_s3 S 6 0 23 0) 17 8) (TB j) 0) (cf_c17 (i := 8) (by decide))) (fun H locs hW hS => ?_)
          refine lv_aload_n hx hb dX6_grow_110 rfl (lv_at hl 2 rfl) ?_
          refine cf_get (v := .ref (ad 17 8)) (ci := 6) (C := RX6) (T := TX6) (N := 24) hx hb hts (fun _ h => List.mem_cons_of_mem _ (List.mem_append_right _ (h))) hown hT.1 hW cf_e6 rfl 8 (by decide) (hts (.fieldLink RX6 31 "GameCafeModel" "taken" "[I") (List.mem_of_getElem? (i := 7) rfl)) (fun _ h9 => h9) rfl dX6_grow_111 ?_
          refine lv_iload hx hb dX6_grow_114 (lv_at hl 0 rfl) ?_
          refine lv_iload_n hx hb dX6_grow_116 rfl (lv_at hl 3 rfl) ?_
          refine lv_iconst (v := 1) hx hb dX6_grow_117 (by decide) ?_
          refine lv_iadd hx hb dX6_grow_118 ?_
          refine cf_istN (t0 := 0) (n := 6) (f := (cf_s3 (cf_s3 S 6 0 23 0) 17 8 (TB j) 0) 17 8) hx hb hT.1 hW hS (cf_e17 (i := 8) (by decide)) rfl (TB j) rfl e2 (by decide) dX6_grow_119 (E2 := (cf_E cT nc ng (cf_s3 (cf_s3 (cf_s3 S 6 0 23 0) 17 8 (TB j) 0) 17 8 (TB j) (x + 1)) P O ad)) (cf_upS 17 8 (upd ((cf_s3 (cf_s3 S 6 0 23 0) 17 8 (TB j) 0) 17 8) (TB j) (x + 1)) (cf_c17 (i := 8) (by decide))) (fun H locs hW hS => ?_)
          refine lv_aload_n hx hb dX6_grow_120 rfl (lv_at hl 2 rfl) ?_
          refine cf_get (v := .ref (ad 17 17)) (ci := 6) (C := RX6) (T := TX6) (N := 24) hx hb hts (fun _ h => List.mem_cons_of_mem _ (List.mem_append_right _ (h))) hown hT.1 hW cf_e6 rfl 17 (by decide) (hts (.fieldLink RX6 52 "GameCafeModel" "tables" "[I") (List.mem_of_getElem? (i := 3) rfl)) (fun _ h9 => h9) rfl dX6_grow_121 ?_
          refine lv_iload_n hx hb dX6_grow_124 rfl (lv_at hl 3 rfl) ?_
          refine lv_iload hx hb dX6_grow_125 (lv_at hl 0 rfl) ?_
          refine cf_istN (t0 := 0) (n := 60) (f := (cf_s3 (cf_s3 (cf_s3 S 6 0 23 0) 17 8 (TB j) 0) 17 8 (TB j) (x + 1)) 17 17) hx hb hT.1 hW hS (cf_e17 (i := 17) (by decide)) rfl j hxj (by omega) (by decide) dX6_grow_127 (E2 := (cf_E cT nc ng (cf_s3 (cf_s3 (cf_s3 (cf_s3 S 6 0 23 0) 17 8 (TB j) 0) 17 8 (TB j) (x + 1)) 17 17 j (nI (TB j))) P O ad)) (cf_upS 17 17 (upd ((cf_s3 (cf_s3 (cf_s3 S 6 0 23 0) 17 8 (TB j) 0) 17 8 (TB j) (x + 1)) 17 17) j (nI (TB j))) (cf_c17 (i := 17) (by decide))) (fun H locs hW hS => ?_)
          refine lv_aload_n hx hb dX6_grow_128 rfl (lv_at hl 2 rfl) ?_
          refine cf_get (v := .ref (ad 17 16)) (ci := 6) (C := RX6) (T := TX6) (N := 24) hx hb hts (fun _ h => List.mem_cons_of_mem _ (List.mem_append_right _ (h))) hown hT.1 hW cf_e6 rfl 16 (by decide) (hts (.fieldLink RX6 49 "GameCafeModel" "people" "[I") (List.mem_of_getElem? (i := 1) rfl)) (fun _ h9 => h9) rfl dX6_grow_129 ?_
          refine lv_iload_n hx hb dX6_grow_132 rfl (lv_at hl 3 rfl) ?_
          refine lv_iload_n hx hb dX6_grow_133 rfl (lv_at hl 1 rfl) ?_
          refine cf_istN (t0 := 0) (n := 60) (f := (cf_s3 (cf_s3 (cf_s3 (cf_s3 S 6 0 23 0) 17 8 (TB j) 0) 17 8 (TB j) (x + 1)) 17 17 j (nI (TB j))) 17 16) hx hb hT.1 hW hS (cf_e17 (i := 16) (by decide)) rfl j hxj (by omega) (by decide) dX6_grow_134 (E2 := (cf_E cT nc ng (cf_s3 (cf_s3 (cf_s3 (cf_s3 (cf_s3 S 6 0 23 0) 17 8 (TB j) 0) 17 8 (TB j) (x + 1)) 17 17 j (nI (TB j))) 17 16 j ((S 17 16 j) + y)) P O ad)) (cf_upS 17 16 (upd ((cf_s3 (cf_s3 (cf_s3 (cf_s3 S 6 0 23 0) 17 8 (TB j) 0) 17 8 (TB j) (x + 1)) 17 17 j (nI (TB j))) 17 16) j ((S 17 16 j) + y)) (cf_c17 (i := 16) (by decide))) (fun H locs hW hS => ?_)
          refine lv_iload hx hb dX6_grow_135 (lv_at hl 0 rfl) ?_
          exact W.iret (v := (nI (TB j))) hx hb hr (fun t9 ht9 hw9 => ⟨⟨(nI (TB j)), (cf_s3 (cf_s3 (cf_s3 (cf_s3 (cf_s3 S 6 0 23 0) 17 8 (TB j) 0) 17 8 (TB j) (x + 1)) 17 17 j (nI (TB j))) 17 16 j ((S 17 16 j) + y)), rfl, Or.inr ⟨j, hj, hxj, hg0, Or.inr ⟨hr7, (some (TB j)), (Or.inl ⟨Int32.not_lt.mp c47_5, rfl⟩), Or.inr ⟨(TB j), rfl, hle, rfl, rfl⟩⟩⟩, cf_W.re ht9 hW⟩, hS.F ht9⟩) hS.2.2 dX6_grow_137
    · have hr7 := k0.f c17_4
      refine lv_aload_n hx hb dX6_grow_20 rfl (lv_at hl 0 rfl) ?_
      refine lv_iconst (v := 2) hx hb dX6_grow_21 (by decide) ?_
      refine va_calli (va_runV (As := [.int 2]) (rest := []) ⟨hx, hb, hml, hown, hts⟩ (c_X6_fails l D cT z ad nc ng (cf_s3 S 6 0 23 0) P O 2) (cwV 1 hts gX6_grow_X6_fails rfl rfl rfl (by decide +kernel) ⟨Nat.le_of_ble_eq_true rfl, Nat.le_of_ble_eq_true rfl⟩) (cf_preV (T := TX6) (N := 24) hT hS hW cf_e6 rfl) rfl rfl hl.1 rfl (lv_room (Nat.le_of_ble_eq_true rfl)) dX6_grow_22 ⟨Nat.le_of_ble_eq_true rfl, Nat.le_of_ble_eq_true rfl⟩) hS (fun _ _ h => h) (fun _ h => h) (fun r15 ur15 t9 H locs ht hvm hw hW hz1 hk1 hS => ?_)
      have hW := cf_W.er ht hW
      obtain ⟨hr0, hT0⟩ := hw
      subst hT0
      exact W.iret (v := r15) hx hb hr (fun t9 ht9 hw9 => ⟨⟨r15, (cf_s3 (cf_s3 S 6 0 23 0) 6 0 23 2), rfl, Or.inr ⟨j, hj, hxj, hg0, Or.inl ⟨hr7, rfl⟩⟩, cf_W.re ht9 hW⟩, hS.F ht9⟩) hS.2.2 dX6_grow_25
  · subst hr0 hT0
    refine lv_if_ne (tgt := 10) hx hb dX6_grow_5 (by decide) (fun c5_16 => (by first | exact absurd c5_16 (by decide) | exact absurd (by decide) c5_16)) (fun c5_16 => ?_)
    refine lv_iconst (v := 0) hx hb dX6_grow_8 (by decide) ?_
    exact W.iret (v := 0) hx hb hr (fun t9 ht9 hw9 => ⟨⟨0, (cf_s3 S 6 0 23 1), rfl, Or.inl ⟨hlv, rfl⟩, cf_W.re ht9 hW⟩, hS.F ht9⟩) hS.2.2 dX6_grow_9
