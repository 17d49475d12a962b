/-- how many parts of a kind come over -/
def cf_come (w h o : Int32) : Int32 := if o < (if 0 < w - h then w - h else 0) then o else (if 0 < w - h then w - h else 0)
def cf_comes (w h o : Nat → Int32) : Nat → Int32
  | 0 => 0
  | n + 1 => cf_comes w h o n + cf_come (w n) (h n) (o n)
/-- the state when the kinds below i have come over from dp to cp -/
def cf_fillI (S T : cf_S) (gm cp dp i : Nat) (r : Int32) : Prop :=
  (∀ k, T 7 cp k = if k < i then S 7 cp k + cf_come (S 8 gm k) (S 7 cp k) (S 7 dp k) else S 7 cp k) ∧
  (∀ k, T 7 dp k = if k < i then S 7 dp k - cf_come (S 8 gm k) (S 7 cp k) (S 7 dp k) else S 7 dp k) ∧
  (∀ a b, ¬ (a = 7 ∧ b = cp) → ¬ (a = 7 ∧ b = dp) → T a b = S a b) ∧ r = cf_comes (S 8 gm) (S 7 cp) (S 7 dp) i
theorem cf_fill0 (S : cf_S) (gm cp dp : Nat) : cf_fillI S S gm cp dp 0 0 := ⟨fun k => by simp, fun k => by simp, fun _ _ _ _ => rfl, rfl⟩
theorem cf_fillS {S T : cf_S} {gm cp dp i : Nat} {r : Int32} (hne : dp ≠ cp) (h : cf_fillI S T gm cp dp i r) : T 8 gm i = S 8 gm i ∧ T 7 cp i = S 7 cp i ∧ T 7 dp i = S 7 dp i ∧
    cf_fillI S (cf_s3 (cf_s3 T 7 cp i (T 7 cp i + cf_come (T 8 gm i) (T 7 cp i) (T 7 dp i))) 7 dp i (T 7 dp i - cf_come (T 8 gm i) (T 7 cp i) (T 7 dp i))) gm cp dp (i + 1) (r + cf_come (T 8 gm i) (T 7 cp i) (T 7 dp i)) := by
  obtain ⟨h1, h2, h3, h4⟩ := h
  have e1 : T 7 cp i = S 7 cp i := by rw [h1 i, if_neg (Nat.lt_irrefl i)]
  have e2 : T 7 dp i = S 7 dp i := by rw [h2 i, if_neg (Nat.lt_irrefl i)]
  have e3 : T 8 gm i = S 8 gm i := by rw [h3 8 gm (by simp) (by simp)]
  refine ⟨e3, e1, e2, ?_⟩
  rw [e1, e2, e3]
  refine ⟨fun k => ?_, fun k => ?_, fun a b ha hb => ?_, ?_⟩
  · rw [cf_s3n (fun q => hne q.2.1.symm)]
    by_cases hk : k = i
    · subst hk
      rw [cf_s3s, if_pos (Nat.lt_succ_self k)]
    · rw [cf_s3n (fun q => hk q.2.2), h1 k]
      by_cases hl : k < i
      · rw [if_pos hl, if_pos (by omega)]
      · rw [if_neg hl, if_neg (by omega)]
  · by_cases hk : k = i
    · subst hk
      rw [cf_s3s, if_pos (Nat.lt_succ_self k)]
    · rw [cf_s3n (fun q => hk q.2.2), cf_s3n (fun q => hne q.2.1), h2 k]
      by_cases hl : k < i
      · rw [if_pos hl, if_pos (by omega)]
      · rw [if_neg hl, if_neg (by omega)]
  · funext j
    rw [cf_s3n (fun q => hb ⟨q.1, q.2.1⟩), cf_s3n (fun q => ha ⟨q.1, q.2.1⟩), h3 a b ha hb]
  · rw [h4]; rfl
set_option maxHeartbeats 4000000 in
set_option maxRecDepth 100000 in
/-- X0_fillFrom -/
theorem c_X0_fillFrom (l : Launch) (D : va_G) (cT : Nat → ClassId) (z : Nat) (ad : cf_Ad) (nc ng : Nat) (S : cf_S) (P : cf_Pt) (O : Nat → Int64) {cp dp : Nat} (hc : cp < nc) (hd : dp < nc) (hne : dp ≠ cp) (hg : P 0 cp 0 < 5) : Met l yX0_fillFrom wsX0_fillFrom ({ frames := 1, cells := 0, slots := 0, locals := 13 }) (va_Pc [.ref (ad 0 cp), .ref (ad 0 dp)] (cf_P D cT z (cf_E cT nc ng S P O ad) ad)) (cf_Qi D z (fun (r : Int32) (T : cf_S) => cf_fillI S T (P 0 cp 0) cp dp 4 r) (fun T => cf_E cT nc ng T P O ad) (fun _ => ad)) 0 0 (fun q => z ≤ q) := by
  refine Met.ofW (cc := cX0_fillFrom) (maxL := 6) (ret := (some .int)) (by decide) rfl ?_
  intro p e s m args below meth c s₁ B hml hv
  obtain ⟨rfl, hW, hT⟩ := hv
  have hx := B.exec
  have hb := B.bytes
  have hr := B.returns
  have hts := atoms_spec (ws := wsX0_fillFrom) B.pre
  have hown : s.vm.findClass RX0 = some m.cls := findClass_of_methodNamed B.named
  have hlocks := B.notSynchronized
  have hS : va_S (fun q => z ≤ q) s.heap s.heap [] := va_S.rf
  have hl := lv_entry ([.ref (ad 0 cp), .ref (ad 0 dp)]) (n := 6) (Nat.le_of_ble_eq_true rfl)
  rw [lg_entry_eq]
  generalize (lg_sl ([.ref (ad 0 cp), .ref (ad 0 dp)]) ++ List.replicate (6 - (lg_sl ([.ref (ad 0 cp), .ref (ad 0 dp)])).length) Slot.unset).toArray = ls at hl ⊢
  have hl : lv_has ls 6 [(0, .ref (ad 0 cp)), (1, .ref (ad 0 dp))] := hl
  skip
  refine lv_iconst (v := 0) hx hb dX0_fillFrom_0 (by decide) ?_
  refine lv_istore_n (lv' := [(2, .int 0), (0, .ref (ad 0 cp)), (1, .ref (ad 0 dp))]) hx hb dX0_fillFrom_1 rfl hl (by decide) rfl (fun ls hl => ?_)
  refine lv_iconst (v := 0) hx hb dX0_fillFrom_2 (by decide) ?_
  refine lv_istore_n (lv' := [(3, .int 0), (2, .int 0), (0, .ref (ad 0 cp)), (1, .ref (ad 0 dp))]) hx hb dX0_fillFrom_3 rfl hl (by decide) rfl (fun ls hl => ?_)
  refine cf_loopW (β := cf_S × Int32) (fun i H locs ls b => cf_W D z (cf_E cT nc ng b.1 P O ad) ad H ∧ va_S (fun q => z ≤ q) s.heap H locs ∧ lv_has ls 6 [(0, .ref (ad 0 cp)), (1, .ref (ad 0 dp)), (2, .int b.2), (3, .int (nI i))] ∧ cf_fillI S b.1 (P 0 cp 0) cp dp i b.2) 4 (fun H locs ls b hI => ?_) (fun i H locs ls b hi hI ih => ?_) (S, 0) ⟨hW, hS, lv_sub hl [2, 3, 1, 0] rfl, cf_fill0 S _ _ _⟩
  · obtain ⟨hW, hS, hl, hI⟩ := hI
    refine lv_iload_n hx hb dX0_fillFrom_4 rfl (lv_at hl 3 rfl) ?_
    refine lv_iconst (v := 4) hx hb dX0_fillFrom_5 (by decide) ?_
    refine lv_icmp_ge (tgt := 77) hx hb dX0_fillFrom_6 (by decide) (fun c6_1 => ?_) (fun c6_1 => (by first | exact absurd (nI_le (Nat.le_refl 4) (by decide)) c6_1 | exact absurd c6_1 (nI_le (Nat.le_refl 4) (by decide))))
    refine lv_iload_n hx hb dX0_fillFrom_77 rfl (lv_at hl 2 rfl) ?_
    exact W.iret (v := b.2) hx hb hr (fun t9 ht9 hw9 => ⟨⟨b.2, b.1, rfl, hI, cf_W.re ht9 hW⟩, hS.F ht9⟩) hS.2.2 dX0_fillFrom_78
  · obtain ⟨hW, hS, hl, hI⟩ := hI
    obtain ⟨e1, e2, e3, hI⟩ := cf_fillS hne hI
    refine lv_iload_n hx hb dX0_fillFrom_4 rfl (lv_at hl 3 rfl) ?_
    refine lv_iconst (v := 4) hx hb dX0_fillFrom_5 (by decide) ?_
    refine lv_icmp_ge (tgt := 77) hx hb dX0_fillFrom_6 (by decide) (fun c6_2 => (by first | exact absurd c6_2 (nI_ge hi (by decide)) | exact absurd (nI_ge hi (by decide)) c6_2)) (fun c6_2 => ?_)
    refine lv_iconst (v := 0) hx hb dX0_fillFrom_9 (by decide) ?_
    refine lv_aload_n hx hb dX0_fillFrom_10 rfl (lv_at hl 0 rfl) ?_
    refine cf_get (v := .ref (ad 1 (P 0 cp 0))) (ci := 0) (C := RX0) (T := TX0) (N := 4) hx hb hts (fun _ h => List.mem_cons_of_mem _ (List.mem_append_left _ (List.mem_append_right _ (h)))) hown hT.1 hW (cf_e0 hc) rfl 1 (by decide) (hts (.fieldLink RX0 18 "GameCafe$Copy" "game" "LGameCafe$Game;") (List.mem_of_getElem? (i := 1) rfl)) (fun _ h9 => h9) rfl dX0_fillFrom_11 ?_
    refine cf_get (v := .ref (ad 8 (P 0 cp 0))) (ci := 1) (C := RX1) (T := TX1) (N := 6) hx hb hts (fun _ h => List.mem_cons_of_mem _ (List.mem_append_right _ (h))) hown hT.1 hW (cf_e1 hg) rfl 4 (by decide) (hts (.fieldLink RX0 22 "GameCafe$Game" "whole" "[I") (List.mem_of_getElem? (i := 2) rfl)) (fun _ h9 => h9) rfl dX0_fillFrom_14 ?_
    refine lv_iload_n hx hb dX0_fillFrom_17 rfl (lv_at hl 3 rfl) ?_
    refine cf_ildN (t0 := 0) (n := 4) (f := b.1 8 (P 0 cp 0)) (v := (b.1 8 (P 0 cp 0) i)) hx hb hT.1 hW (cf_e8 hg) rfl i rfl hi (by decide) dX0_fillFrom_18 rfl ?_
    refine lv_aload_n hx hb dX0_fillFrom_19 rfl (lv_at hl 0 rfl) ?_
    refine cf_get (v := .ref (ad 7 cp)) (ci := 0) (C := RX0) (T := TX0) (N := 4) hx hb hts (fun _ h => List.mem_cons_of_mem _ (List.mem_append_left _ (List.mem_append_right _ (h)))) hown hT.1 hW (cf_e0 hc) rfl 2 (by decide) (hts (.fieldLink RX0 33 "GameCafe$Copy" "has" "[I") (List.mem_of_getElem? (i := 3) rfl)) (fun _ h9 => h9) rfl dX0_fillFrom_20 ?_
    refine lv_iload_n hx hb dX0_fillFrom_23 rfl (lv_at hl 3 rfl) ?_
    refine cf_ildN (t0 := 0) (n := 4) (f := b.1 7 cp) (v := (b.1 7 cp i)) hx hb hT.1 hW (cf_e7 hc) rfl i rfl hi (by decide) dX0_fillFrom_24 rfl ?_
    refine lv_isub hx hb dX0_fillFrom_25 ?_
    refine va_mmax hx hb (hml.trans hl.1.symm) hown (hts (.methodLink RX0 43 Lib.Math.max.name) (List.mem_of_getElem? (i := 4) rfl)) (hts (.static Lib.Math.max.name) (List.mem_of_getElem? (i := 5) rfl)) (hts (.initialized "java/lang/Math") (List.mem_of_getElem? (i := 6) rfl)) (hts (.code Lib.Math.max.name Lib.Math.max.code 2 (some .int)) (List.mem_of_getElem? (i := 7) rfl)) (by decide) (by decide) (by decide) (by decide) dX0_fillFrom_26 ?_
    refine lv_istore (lv' := [(4, .int (if 0 < ((b.1 8 (P 0 cp 0) i) - (b.1 7 cp i)) then ((b.1 8 (P 0 cp 0) i) - (b.1 7 cp i)) else 0)), (0, .ref (ad 0 cp)), (1, .ref (ad 0 dp)), (2, .int b.2), (3, .int (nI i))]) hx hb dX0_fillFrom_29 hl (by decide) rfl (fun ls hl => ?_)
    refine lv_iload hx hb dX0_fillFrom_31 (lv_at hl 0 rfl) ?_
    refine lv_aload_n hx hb dX0_fillFrom_33 rfl (lv_at hl 2 rfl) ?_
    refine cf_get (v := .ref (ad 7 dp)) (ci := 0) (C := RX0) (T := TX0) (N := 4) hx hb hts (fun _ h => List.mem_cons_of_mem _ (List.mem_append_left _ (List.mem_append_right _ (h)))) hown hT.1 hW (cf_e0 hd) rfl 2 (by decide) (hts (.fieldLink RX0 33 "GameCafe$Copy" "has" "[I") (List.mem_of_getElem? (i := 3) rfl)) (fun _ h9 => h9) rfl dX0_fillFrom_34 ?_
    refine lv_iload_n hx hb dX0_fillFrom_37 rfl (lv_at hl 4 rfl) ?_
    refine cf_ildN (t0 := 0) (n := 4) (f := b.1 7 dp) (v := (b.1 7 dp i)) hx hb hT.1 hW (cf_e7 hd) rfl i rfl hi (by decide) dX0_fillFrom_38 rfl ?_
    refine va_mmin hx hb (hml.trans hl.1.symm) hown (hts (.methodLink RX0 49 Lib.Math.min.name) (List.mem_of_getElem? (i := 8) rfl)) (hts (.static Lib.Math.min.name) (List.mem_of_getElem? (i := 9) rfl)) (hts (.initialized "java/lang/Math") (List.mem_of_getElem? (i := 6) rfl)) (hts (.code Lib.Math.min.name Lib.Math.min.code 2 (some .int)) (List.mem_of_getElem? (i := 10) rfl)) (by decide) (by decide) (by decide) (by decide) dX0_fillFrom_39 ?_
    generalize hy : (if b.1 7 dp i < (if 0 < (b.1 8 (P 0 cp 0) i - b.1 7 cp i) then (b.1 8 (P 0 cp 0) i - b.1 7 cp i) else 0) then b.1 7 dp i else (if 0 < (b.1 8 (P 0 cp 0) i - b.1 7 cp i) then (b.1 8 (P 0 cp 0) i - b.1 7 cp i) else 0)) = y
    have hy2 : cf_come (b.1 8 (P 0 cp 0) i) (b.1 7 cp i) (b.1 7 dp i) = y := hy
    rw [hy2] at hI
    refine lv_istore (lv' := [(5, .int y), (4, .int (if 0 < ((b.1 8 (P 0 cp 0) i) - (b.1 7 cp i)) then ((b.1 8 (P 0 cp 0) i) - (b.1 7 cp i)) else 0)), (0, .ref (ad 0 cp)), (1, .ref (ad 0 dp)), (2, .int b.2), (3, .int (nI i))]) hx hb dX0_fillFrom_42 hl (by decide) rfl (fun ls hl => ?_)
    refine lv_aload_n hx hb dX0_fillFrom_44 rfl (lv_at hl 2 rfl) ?_
    refine cf_get (v := .ref (ad 7 cp)) (ci := 0) (C := RX0) (T := TX0) (N := 4) hx hb hts (fun _ h => List.mem_cons_of_mem _ (List.mem_append_left _ (List.mem_append_right _ (h)))) hown hT.1 hW (cf_e0 hc) rfl 2 (by decide) (hts (.fieldLink RX0 33 "GameCafe$Copy" "has" "[I") (List.mem_of_getElem? (i := 3) rfl)) (fun _ h9 => h9) rfl dX0_fillFrom_45 ?_
    refine lv_iload_n hx hb dX0_fillFrom_48 rfl (lv_at hl 5 rfl) ?_
    refine lv_dup2_11 hx hb dX0_fillFrom_49 rfl rfl ?_
    refine cf_ildN (t0 := 0) (n := 4) (f := b.1 7 cp) (v := (b.1 7 cp i)) hx hb hT.1 hW (cf_e7 hc) rfl i rfl hi (by decide) dX0_fillFrom_50 rfl ?_
    refine lv_iload hx hb dX0_fillFrom_51 (lv_at hl 0 rfl) ?_
    refine lv_iadd hx hb dX0_fillFrom_53 ?_
    refine cf_istN (t0 := 0) (n := 4) (f := b.1 7 cp) hx hb hT.1 hW hS (cf_e7 hc) rfl i rfl hi (by decide) dX0_fillFrom_54 (E2 := (cf_E cT nc ng (cf_s3 b.1 7 cp i ((b.1 7 cp i) + y)) P O ad)) (cf_upS 7 cp (upd (b.1 7 cp) i ((b.1 7 cp i) + y)) (cf_c7 hc)) (fun H locs hW hS => ?_)
    refine lv_aload_n hx hb dX0_fillFrom_55 rfl (lv_at hl 3 rfl) ?_
    refine cf_get (v := .ref (ad 7 dp)) (ci := 0) (C := RX0) (T := TX0) (N := 4) hx hb hts (fun _ h => List.mem_cons_of_mem _ (List.mem_append_left _ (List.mem_append_right _ (h)))) hown hT.1 hW (cf_e0 hd) rfl 2 (by decide) (hts (.fieldLink RX0 33 "GameCafe$Copy" "has" "[I") (List.mem_of_getElem? (i := 3) rfl)) (fun _ h9 => h9) rfl dX0_fillFrom_56 ?_
    refine lv_iload_n hx hb dX0_fillFrom_59 rfl (lv_at hl 5 rfl) ?_
    refine lv_dup2_11 hx hb dX0_fillFrom_60 rfl rfl ?_
    refine cf_ildN (t0 := 0) (n := 4) (f := (cf_s3 b.1 7 cp i ((b.1 7 cp i) + y)) 7 dp) (v := (b.1 7 dp i)) hx hb hT.1 hW (cf_e7 hd) rfl i rfl hi (by decide) dX0_fillFrom_61 (by simp [cf_s3, cf_g2, upd, hne] : (cf_s3 b.1 7 cp i ((b.1 7 cp i) + y)) 7 dp i = b.1 7 dp i) ?_
    refine lv_iload hx hb dX0_fillFrom_62 (lv_at hl 0 rfl) ?_
    refine lv_isub hx hb dX0_fillFrom_64 ?_
    refine cf_istN (t0 := 0) (n := 4) (f := (cf_s3 b.1 7 cp i ((b.1 7 cp i) + y)) 7 dp) hx hb hT.1 hW hS (cf_e7 hd) rfl i rfl hi (by decide) dX0_fillFrom_65 (E2 := (cf_E cT nc ng (cf_s3 (cf_s3 b.1 7 cp i ((b.1 7 cp i) + y)) 7 dp i ((b.1 7 dp i) - y)) P O ad)) (cf_upS 7 dp (upd ((cf_s3 b.1 7 cp i ((b.1 7 cp i) + y)) 7 dp) i ((b.1 7 dp i) - y)) (cf_c7 hd)) (fun H locs hW hS => ?_)
    refine lv_iload_n hx hb dX0_fillFrom_66 rfl (lv_at hl 4 rfl) ?_
    refine lv_iload hx hb dX0_fillFrom_67 (lv_at hl 0 rfl) ?_
    refine lv_iadd hx hb dX0_fillFrom_69 ?_
    refine lv_istore_n (lv' := [(2, .int (b.2 + y)), (5, .int y), (4, .int (if 0 < ((b.1 8 (P 0 cp 0) i) - (b.1 7 cp i)) then ((b.1 8 (P 0 cp 0) i) - (b.1 7 cp i)) else 0)), (0, .ref (ad 0 cp)), (1, .ref (ad 0 dp)), (3, .int (nI i))]) hx hb dX0_fillFrom_70 rfl hl (by decide) rfl (fun ls hl => ?_)
    refine lv_iinc (v := (nI (i + 1))) (lv' := [(3, .int (nI (i + 1))), (2, .int (b.2 + y)), (5, .int y), (4, .int (if 0 < ((b.1 8 (P 0 cp 0) i) - (b.1 7 cp i)) then ((b.1 8 (P 0 cp 0) i) - (b.1 7 cp i)) else 0)), (0, .ref (ad 0 cp)), (1, .ref (ad 0 dp))]) hx hb dX0_fillFrom_71 hl (k := 5) rfl (nI_1 i) (by decide) rfl (fun ls hl => ?_)
    refine lv_goto (tgt := 4) hx hb dX0_fillFrom_74 (by decide) ?_
    exact ih _ _ _ ((cf_s3 (cf_s3 b.1 7 cp i ((b.1 7 cp i) + y)) 7 dp i ((b.1 7 dp i) - y)), b.2 + y) ⟨hW, hS, lv_sub hl [4, 5, 1, 0] rfl, hI⟩
set_option maxHeartbeats 4000000 in
set_option maxRecDepth 100000 in
/-- X5_fill -/
theorem c_X5_fill (l : Launch) (D : va_G) (cT : Nat → ClassId) (z : Nat) (ad : cf_Ad) (nc ng : Nat) (S : cf_S) (P : cf_Pt) (O : Nat → Int64) (hl0 : l.stackTraces = false) (x y : Int32) (hnc : nc ≤ 15) (hO : ∀ j, j < 15 → P 14 0 j = if j < nc then j + 1 else 0) (hG : ∀ j, j < nc → P 0 j 0 < 5) : vx_Met l yX5_fill wsX5_fill ({ frames := 7, cells := 4, slots := 24, locals := 103 }) (va_Pc [.ref (ad 5 0), .int x, .int y] (cf_P D cT z (cf_E cT nc ng S P O ad) ad)) (cf_Qi D z (fun (r : Int32) (T : cf_S) => ∃ cp dp : Nat, cp < nc ∧ x = nI cp ∧ dp < nc ∧ y = nI dp ∧ x ≠ y ∧ P 0 cp 0 = P 0 dp 0 ∧ S 0 cp 0 = 0 ∧ S 0 dp 0 = 0 ∧ cf_fillI S T (P 0 cp 0) cp dp 4 r) (fun T => cf_E cT nc ng T P O ad) (fun _ => ad)) (cf_X D z (cf_E cT nc ng S P O ad) ad (cf_x123 (cf_ix x nc ∧ cf_ix y nc) (x ≠ y ∧ ∀ cp dp : Nat, x = nI cp → cp < nc → y = nI dp → dp < nc → P 0 cp 0 = P 0 dp 0) (∀ cp dp : Nat, x = nI cp → cp < nc → y = nI dp → dp < nc → S 0 cp 0 = 0 ∧ S 0 dp 0 = 0))) 4 24 (fun q => z ≤ q) := by
  refine vx_ofW (cc := cX5_fill) (maxL := 5) (ret := (some .int)) (by decide) rfl ?_
  intro p e s m args below meth c s₁ B hml htab hv
  obtain ⟨rfl, hW, hT⟩ := hv
  have hx := B.exec
  have hb := B.bytes
  have hr := B.returns
  have hts := atoms_spec (ws := wsX5_fill) B.pre
  have hown : s.vm.findClass RX5 = some m.cls := findClass_of_methodNamed B.named
  have hlocks := B.notSynchronized
  have hS : va_S (fun q => z ≤ q) s.heap s.heap [] := va_S.rf
  have hl := lv_entry ([.ref (ad 5 0), .int x, .int y]) (n := 5) (Nat.le_of_ble_eq_true rfl)
  rw [lg_entry_eq]
  generalize (lg_sl ([.ref (ad 5 0), .int x, .int y]) ++ List.replicate (5 - (lg_sl ([.ref (ad 5 0), .int x, .int y])).length) Slot.unset).toArray = ls at hl ⊢
  have hl : lv_has ls 5 [(0, .ref (ad 5 0)), (1, .int x), (2, .int y)] := hl
  skip
  refine lv_aload_n hx hb dX5_fill_0 rfl (lv_at hl 0 rfl) ?_
  refine lv_iload_n hx hb dX5_fill_1 rfl (lv_at hl 1 rfl) ?_
  refine vx_callq (vx_runV (As := [.int x]) (rest := []) ⟨hx, hb, hml, hown, hts⟩ (c_X5_copyNumbered l D cT z ad nc ng S P O hl0 x hnc hO) (cwV 1 hts gX5_fill_X5_copyNumbered rfl rfl rfl (by decide +kernel) ⟨Nat.le_of_ble_eq_true rfl, Nat.le_of_ble_eq_true rfl⟩) (cf_preV (T := TX5) (N := 9) hT hS hW cf_e5 rfl) rfl rfl hl.1 rfl (lv_room (Nat.le_of_ble_eq_true rfl)) dX5_fill_2 ⟨Nat.le_of_ble_eq_true rfl, Nat.le_of_ble_eq_true rfl⟩) hS (fun _ _ h => h) (fun _ h => h) (fun _ _ h => h) (fun E9 ce q9 u9 t9 H locs ht hvm hu hB hz1 hk1 hS hce hcv hcl => ?_) (fun r1 ur1 t9 H locs ht hvm hw hW hz1 hk1 hS => ?_)
  · obtain ⟨hp, hW⟩ := hB
    have hW := cf_W.er ht hW
    exact cf_pass htab hlocks hce hcv hcl hS hW (Or.inl ⟨hp.1, fun q => hp.2 q.1⟩) ⟨Nat.le_of_ble_eq_true rfl, Nat.le_of_ble_eq_true rfl⟩
  have hW := cf_W.er ht hW
  obtain ⟨cp, hc, hxc, rfl⟩ := hw
  refine lv_astore_n (lv' := [(3, .ref (ad 0 cp)), (0, .ref (ad 5 0)), (1, .int x), (2, .int y)]) hx hb dX5_fill_5 rfl hl (by decide) rfl (fun ls hl => ?_)
  refine lv_aload_n hx hb dX5_fill_6 rfl (lv_at hl 1 rfl) ?_
  refine lv_iload_n hx hb dX5_fill_7 rfl (lv_at hl 3 rfl) ?_
  refine vx_callq (vx_runV (As := [.int y]) (rest := []) ⟨hx, hb, hml, hown, hts⟩ (c_X5_copyNumbered l D cT z ad nc ng S P O hl0 y hnc hO) (cwV 1 hts gX5_fill_X5_copyNumbered rfl rfl rfl (by decide +kernel) ⟨Nat.le_of_ble_eq_true rfl, Nat.le_of_ble_eq_true rfl⟩) (cf_preV (T := TX5) (N := 9) hT hS hW cf_e5 rfl) rfl rfl hl.1 rfl (lv_room (Nat.le_of_ble_eq_true rfl)) dX5_fill_8 ⟨Nat.le_of_ble_eq_true rfl, Nat.le_of_ble_eq_true rfl⟩) hS (fun _ _ h => h) (fun _ h => h) (fun _ _ h => h) (fun E9 ce q9 u9 t9 H locs ht hvm hu hB hz1 hk1 hS hce hcv hcl => ?_) (fun r2 ur2 t9 H locs ht hvm hw hW hz1 hk1 hS => ?_)
  · obtain ⟨hp, hW⟩ := hB
    have hW := cf_W.er ht hW
    exact cf_pass htab hlocks hce hcv hcl hS hW (Or.inl ⟨hp.1, fun q => hp.2 q.2⟩) ⟨Nat.le_of_ble_eq_true rfl, Nat.le_of_ble_eq_true rfl⟩
  have hW := cf_W.er ht hW
  obtain ⟨dp, hd, hyd, rfl⟩ := hw
  refine lv_astore (lv' := [(4, .ref (ad 0 dp)), (3, .ref (ad 0 cp)), (0, .ref (ad 5 0)), (1, .int x), (2, .int y)]) hx hb dX5_fill_11 hl (by decide) rfl (fun ls hl => ?_)
  refine lv_iload_n hx hb dX5_fill_13 rfl (lv_at hl 3 rfl) ?_
  refine lv_iload_n hx hb dX5_fill_14 rfl (lv_at hl 4 rfl) ?_
  have hA : cf_ix x nc ∧ cf_ix y nc := ⟨⟨cp, hc, hxc⟩, ⟨dp, hd, hyd⟩⟩
  refine lv_icmp_eq (tgt := 30) hx hb dX5_fill_15 (by decide) (fun c15_3 => ?_) (fun c15_3 => ?_)
  · exact cf_throw (text := "a copy is filled from another one of its game") hx hb hl0 hown (by decide +kernel) (hts (.classLink RX5 118 "java/lang/IllegalArgumentException") (List.mem_of_getElem? (i := 1) rfl)) (hts (.initialized "java/lang/IllegalArgumentException") (List.mem_of_getElem? (i := 2) rfl)) (List.mem_of_getElem? (i := 6) rfl) (List.mem_of_getElem? (i := 1) rfl) (fun w h => hts w (List.mem_cons_of_mem _ (List.mem_append_left _ (List.mem_append_left _ (List.mem_append_right _ (h)))))) cf_ng_iae cf_gd_iae hT hW hS (hl.1.trans hml.symm) dX5_fill_30 dX5_fill_33 dX5_fill_34 dX5_fill_36 dX5_fill_39 htab (by decide) hlocks (Or.inr (Or.inl ⟨rfl, hA, fun q => q.1 c15_3⟩)) (by decide)
  · refine lv_aload_n hx hb dX5_fill_18 rfl (lv_at hl 1 rfl) ?_
    refine cf_get (v := .ref (ad 1 (P 0 cp 0))) (ci := 0) (C := RX0) (T := TX0) (N := 4) hx hb hts (fun _ h => List.mem_cons_of_mem _ (List.mem_append_left _ (List.mem_append_left _ (List.mem_append_left _ (List.mem_append_left _ (List.mem_append_left _ (List.mem_append_right _ (h)))))))) hown hT.1 hW (cf_e0 hc) rfl 1 (by decide) (hts (.fieldLink RX5 114 "GameCafe$Copy" "game" "LGameCafe$Game;") (List.mem_of_getElem? (i := 5) rfl)) (fun _ h9 => h9) rfl dX5_fill_19 ?_
    refine lv_aload hx hb dX5_fill_22 (lv_at hl 0 rfl) ?_
    refine cf_get (v := .ref (ad 1 (P 0 dp 0))) (ci := 0) (C := RX0) (T := TX0) (N := 4) hx hb hts (fun _ h => List.mem_cons_of_mem _ (List.mem_append_left _ (List.mem_append_left _ (List.mem_append_left _ (List.mem_append_left _ (List.mem_append_left _ (List.mem_append_right _ (h)))))))) hown hT.1 hW (cf_e0 hd) rfl 1 (by decide) (hts (.fieldLink RX5 114 "GameCafe$Copy" "game" "LGameCafe$Game;") (List.mem_of_getElem? (i := 5) rfl)) (fun _ h9 => h9) rfl dX5_fill_24 ?_
    refine lv_acmp_eq (rx := (some (ad 1 (P 0 cp 0)))) (ry := (some (ad 1 (P 0 dp 0)))) (tgt := 40) hx hb dX5_fill_27 (by decide) (fun c27_4 => ?_) (fun c27_4 => ?_)
    · have hgg : P 0 cp 0 = P 0 dp 0 := (hW.inj (cf_e1 (hG cp hc)) (cf_e1 (hG dp hd)) (Option.some.inj c27_4)).2
      have hB9 : (x ≠ y ∧ ∀ cp dp : Nat, x = nI cp → cp < nc → y = nI dp → dp < nc → P 0 cp 0 = P 0 dp 0) := ⟨c15_3, fun c9 d9 h1 h2 h3 h4 => by rw [cf_nI_inj (by omega) (by omega) (h1.symm.trans hxc), cf_nI_inj (by omega) (by omega) (h3.symm.trans hyd)]; exact hgg⟩
      refine lv_aload_n hx hb dX5_fill_40 rfl (lv_at hl 1 rfl) ?_
      refine cf_get (v := .int (S 0 cp 0)) (ci := 0) (C := RX0) (T := TX0) (N := 4) hx hb hts (fun _ h => List.mem_cons_of_mem _ (List.mem_append_left _ (List.mem_append_left _ (List.mem_append_left _ (List.mem_append_left _ (List.mem_append_left _ (List.mem_append_right _ (h)))))))) hown hT.1 hW (cf_e0 hc) rfl 3 (by decide) (hts (.fieldLink RX5 109 "GameCafe$Copy" "place" "I") (List.mem_of_getElem? (i := 6) rfl)) (fun _ h9 => h9) rfl dX5_fill_41 ?_
      refine lv_if_ne (tgt := 55) hx hb dX5_fill_44 (by decide) (fun c44_5 => ?_) (fun c44_5 => ?_)
      · exact cf_throw (text := "a copy is not on the shelf") hx hb hl0 hown (by decide +kernel) (hts (.classLink RX5 83 "java/lang/IllegalStateException") (List.mem_of_getElem? (i := 3) rfl)) (hts (.initialized "java/lang/IllegalStateException") (List.mem_of_getElem? (i := 4) rfl)) (List.mem_of_getElem? (i := 7) rfl) (List.mem_of_getElem? (i := 2) rfl) (fun w h => hts w (List.mem_cons_of_mem _ (List.mem_append_left _ (List.mem_append_right _ (h))))) cf_ng_ise cf_gd_ise hT hW hS (hl.1.trans hml.symm) dX5_fill_55 dX5_fill_58 dX5_fill_59 dX5_fill_61 dX5_fill_64 htab (by decide) hlocks (Or.inr (Or.inr ⟨rfl, hA, hB9, fun q => c44_5 (q cp dp hxc hc hyd hd).1⟩)) (by decide)
      · refine lv_aload hx hb dX5_fill_47 (lv_at hl 0 rfl) ?_
        refine cf_get (v := .int (S 0 dp 0)) (ci := 0) (C := RX0) (T := TX0) (N := 4) hx hb hts (fun _ h => List.mem_cons_of_mem _ (List.mem_append_left _ (List.mem_append_left _ (List.mem_append_left _ (List.mem_append_left _ (List.mem_append_left _ (List.mem_append_right _ (h)))))))) hown hT.1 hW (cf_e0 hd) rfl 3 (by decide) (hts (.fieldLink RX5 109 "GameCafe$Copy" "place" "I") (List.mem_of_getElem? (i := 6) rfl)) (fun _ h9 => h9) rfl dX5_fill_49 ?_
        refine lv_if_eq (tgt := 65) hx hb dX5_fill_52 (by decide) (fun c52_6 => ?_) (fun c52_6 => ?_)
        · refine lv_aload_n hx hb dX5_fill_65 rfl (lv_at hl 1 rfl) ?_
          refine lv_aload hx hb dX5_fill_66 (lv_at hl 0 rfl) ?_
          have hne : dp ≠ cp := fun q => hB9.1 (by rw [hxc, hyd, q])
          refine va_calli (va_runV (As := [.ref (ad 0 dp)]) (rest := []) ⟨hx, hb, hml, hown, hts⟩ (c_X0_fillFrom l D cT z ad nc ng S P O hc hd hne (hG cp hc)) (cwV 1 hts gX5_fill_X0_fillFrom rfl rfl rfl (by decide +kernel) ⟨Nat.le_of_ble_eq_true rfl, Nat.le_of_ble_eq_true rfl⟩) (cf_preV (T := TX0) (N := 4) hT hS hW (cf_e0 hc) rfl) rfl rfl hl.1 rfl (lv_room (Nat.le_of_ble_eq_true rfl)) dX5_fill_68 ⟨Nat.le_of_ble_eq_true rfl, Nat.le_of_ble_eq_true rfl⟩) hS (fun _ _ h => h) (fun _ h => h) (fun r7 ur7 t9 H locs ht hvm hw hW hz1 hk1 hS => ?_)
          have hW := cf_W.er ht hW
          refine vx_ret ?_
          refine W.widen (k := 4) (n := 24) (by omega) (by omega) ?_
          exact W.iret (v := r7) hx hb hr (fun t9 ht9 hw9 => ⟨⟨r7, ur7, rfl, ⟨cp, dp, hc, hxc, hd, hyd, c15_3, hgg, c44_5, c52_6, hw⟩, cf_W.re ht9 hW⟩, hS.F ht9⟩) hS.2.2 dX5_fill_71
        · exact cf_throw (text := "a copy is not on the shelf") hx hb hl0 hown (by decide +kernel) (hts (.classLink RX5 83 "java/lang/IllegalStateException") (List.mem_of_getElem? (i := 3) rfl)) (hts (.initialized "java/lang/IllegalStateException") (List.mem_of_getElem? (i := 4) rfl)) (List.mem_of_getElem? (i := 7) rfl) (List.mem_of_getElem? (i := 2) rfl) (fun w h => hts w (List.mem_cons_of_mem _ (List.mem_append_left _ (List.mem_append_right _ (h))))) cf_ng_ise cf_gd_ise hT hW hS (hl.1.trans hml.symm) dX5_fill_55 dX5_fill_58 dX5_fill_59 dX5_fill_61 dX5_fill_64 htab (by decide) hlocks (Or.inr (Or.inr ⟨rfl, hA, hB9, fun q => c52_6 (q cp dp hxc hc hyd hd).2⟩)) (by decide)
    · exact cf_throw (text := "a copy is filled from another one of its game") hx hb hl0 hown (by decide +kernel) (hts (.classLink RX5 118 "java/lang/IllegalArgumentException") (List.mem_of_getElem? (i := 1) rfl)) (hts (.initialized "java/lang/IllegalArgumentException") (List.mem_of_getElem? (i := 2) rfl)) (List.mem_of_getElem? (i := 6) rfl) (List.mem_of_getElem? (i := 1) rfl) (fun w h => hts w (List.mem_cons_of_mem _ (List.mem_append_left _ (List.mem_append_left _ (List.mem_append_right _ (h)))))) cf_ng_iae cf_gd_iae hT hW hS (hl.1.trans hml.symm) dX5_fill_30 dX5_fill_33 dX5_fill_34 dX5_fill_36 dX5_fill_39 htab (by decide) hlocks (Or.inr (Or.inl ⟨rfl, hA, fun q => c27_4 (congrArg some (congrArg (ad 1) (q.2 cp dp hxc hc hyd hd)))⟩)) (by decide)
