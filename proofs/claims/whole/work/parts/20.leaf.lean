set_option maxHeartbeats 4000000 in
set_option maxRecDepth 100000 in
/-- what a part is worth -/
theorem c_X5_worthOfPart (l : Launch) (D : va_G) (cT : Nat → ClassId) (z : Nat) (ad : cf_Ad) (E : cf_T) (x : Int32)  : Met l yX5_worthOfPart wsX5_worthOfPart ({ frames := 0, cells := 0, slots := 0, locals := 0 }) (va_Pc [.int x] (cf_P D cT z E ad)) (cf_Qi D z (fun (r : Int32) (_ : Unit) => r = 100 * (x + 1)) (fun _ => E) (fun _ => ad)) 0 0 (fun q => z ≤ q) := by
  refine Met.ofW (cc := cX5_worthOfPart) (maxL := 1) (ret := (some .int)) (by decide) rfl ?_
  intro p e s m args below meth c s₁ B hml hv
  obtain ⟨rfl, hW, hT⟩ := hv
  have hx := B.exec
  have hb := B.bytes
  have hr := B.returns
  have hts := atoms_spec (ws := wsX5_worthOfPart) B.pre
  have hown : s.vm.findClass RX5 = some m.cls := findClass_of_methodNamed B.named
  have hlocks := B.notSynchronized
  have hS : va_S (fun q => z ≤ q) s.heap s.heap [] := va_S.rf
  have hl := lv_entry ([.int x]) (n := 1) (Nat.le_of_ble_eq_true rfl)
  rw [lg_entry_eq]
  generalize (lg_sl ([.int x]) ++ List.replicate (1 - (lg_sl ([.int x])).length) Slot.unset).toArray = ls at hl ⊢
  have hl : lv_has ls 1 [(0, .int x)] := hl
  skip
  refine lv_bipush (v := 100) hx hb dX5_worthOfPart_0 (by decide) ?_
  refine lv_iload_n hx hb dX5_worthOfPart_2 rfl (lv_at hl 0 rfl) ?_
  refine lv_iconst (v := 1) hx hb dX5_worthOfPart_3 (by decide) ?_
  refine lv_iadd hx hb dX5_worthOfPart_4 ?_
  refine lv_imul hx hb dX5_worthOfPart_5 ?_
  exact W.iret (v := (100 * (x + 1))) hx hb hr (fun t9 ht9 hw9 => ⟨⟨(100 * (x + 1)), (), rfl, rfl, cf_W.re ht9 hW⟩, hS.F ht9⟩) hS.2.2 dX5_worthOfPart_6
set_option maxHeartbeats 4000000 in
set_option maxRecDepth 100000 in
/-- a number below a bound, or IndexOutOfBoundsException -/
theorem c_X5_checkNumber (l : Launch) (D : va_G) (cT : Nat → ClassId) (z : Nat) (ad : cf_Ad) (E : cf_T) (x y : Int32) (n : Nat) (hn : n < 2 ^ 31) (hy : y = nI n) (hl0 : l.stackTraces = false)  : vx_Met l yX5_checkNumber wsX5_checkNumber ({ frames := 6, cells := 1, slots := 6, locals := 82 }) (va_Pc [.int x, .int y] (cf_P D cT z E ad)) (cf_Qv D z (fun (_ : Unit) => cf_ix x n) (fun _ => E) (fun _ => ad)) (cf_X D z E ad (fun e => e = cf_iob ∧ ¬ cf_ix x n)) 1 6 (fun q => z ≤ q) := by
  refine vx_ofW (cc := cX5_checkNumber) (maxL := 2) (ret := none) (by decide) rfl ?_
  intro p e s m args below meth c s₁ B hml htab hv
  obtain ⟨rfl, hW, hT⟩ := hv
  have hx := B.exec
  have hb := B.bytes
  have hr := B.returns
  have hts := atoms_spec (ws := wsX5_checkNumber) B.pre
  have hown : s.vm.findClass RX5 = some m.cls := findClass_of_methodNamed B.named
  have hlocks := B.notSynchronized
  have hS : va_S (fun q => z ≤ q) s.heap s.heap [] := va_S.rf
  have hl := lv_entry ([.int x, .int y]) (n := 2) (Nat.le_of_ble_eq_true rfl)
  rw [lg_entry_eq]
  generalize (lg_sl ([.int x, .int y]) ++ List.replicate (2 - (lg_sl ([.int x, .int y])).length) Slot.unset).toArray = ls at hl ⊢
  have hl : lv_has ls 2 [(0, .int x), (1, .int y)] := hl
  skip
  refine lv_iload_n hx hb dX5_checkNumber_0 rfl (lv_at hl 0 rfl) ?_
  refine lv_if_lt (tgt := 9) hx hb dX5_checkNumber_1 (by decide) (fun c1_1 => ?_) (fun c1_1 => ?_)
  · exact cf_throw (text := "there is no such number") hx hb hl0 hown (by decide +kernel) (hts (.classLink RX5 211 "java/lang/IndexOutOfBoundsException") (List.mem_of_getElem? (i := 1) rfl)) (hts (.initialized "java/lang/IndexOutOfBoundsException") (List.mem_of_getElem? (i := 2) rfl)) (List.mem_of_getElem? (i := 0) rfl) (List.mem_of_getElem? (i := 0) rfl) (fun w h => hts w (List.mem_cons_of_mem _ (List.mem_append_right _ (h)))) cf_ng_iob cf_gd_iob hT hW hS (hl.1.trans hml.symm) dX5_checkNumber_9 dX5_checkNumber_12 dX5_checkNumber_13 dX5_checkNumber_15 dX5_checkNumber_18 htab (by decide) hlocks ⟨rfl, cf_nix1 hn c1_1⟩ (by decide)
  · refine lv_iload_n hx hb dX5_checkNumber_4 rfl (lv_at hl 0 rfl) ?_
    refine lv_iload_n hx hb dX5_checkNumber_5 rfl (lv_at hl 1 rfl) ?_
    refine lv_icmp_lt (tgt := 19) hx hb dX5_checkNumber_6 (by decide) (fun c6_2 => ?_) (fun c6_2 => ?_)
    · refine vx_ret ?_
      refine W.widen (k := 1) (n := 6) (by omega) (by omega) ?_
      exact W.vret hx hb hr (fun t9 ht9 hw9 => ⟨⟨(), rfl, cf_ix_of hn hy c1_1 c6_2, cf_W.re ht9 hW⟩, hS.F ht9⟩) hS.2.2 dX5_checkNumber_19
    · exact cf_throw (text := "there is no such number") hx hb hl0 hown (by decide +kernel) (hts (.classLink RX5 211 "java/lang/IndexOutOfBoundsException") (List.mem_of_getElem? (i := 1) rfl)) (hts (.initialized "java/lang/IndexOutOfBoundsException") (List.mem_of_getElem? (i := 2) rfl)) (List.mem_of_getElem? (i := 0) rfl) (List.mem_of_getElem? (i := 0) rfl) (fun w h => hts w (List.mem_cons_of_mem _ (List.mem_append_right _ (h)))) cf_ng_iob cf_gd_iob hT hW hS (hl.1.trans hml.symm) dX5_checkNumber_9 dX5_checkNumber_12 dX5_checkNumber_13 dX5_checkNumber_15 dX5_checkNumber_18 htab (by decide) hlocks ⟨rfl, cf_nix2 hn hy c6_2⟩ (by decide)
set_option maxHeartbeats 4000000 in
set_option maxRecDepth 100000 in
/-- a value within a range, or IllegalArgumentException -/
theorem c_X5_checkRange (l : Launch) (D : va_G) (cT : Nat → ClassId) (z : Nat) (ad : cf_Ad) (E : cf_T) (x lo hi : Int32) (hl0 : l.stackTraces = false)  : vx_Met l yX5_checkRange wsX5_checkRange ({ frames := 6, cells := 1, slots := 6, locals := 82 }) (va_Pc [.int x, .int lo, .int hi] (cf_P D cT z E ad)) (cf_Qv D z (fun (_ : Unit) => cf_rg x lo hi) (fun _ => E) (fun _ => ad)) (cf_X D z E ad (fun e => e = cf_iae ∧ ¬ cf_rg x lo hi)) 1 6 (fun q => z ≤ q) := by
  refine vx_ofW (cc := cX5_checkRange) (maxL := 3) (ret := none) (by decide) rfl ?_
  intro p e s m args below meth c s₁ B hml htab hv
  obtain ⟨rfl, hW, hT⟩ := hv
  have hx := B.exec
  have hb := B.bytes
  have hr := B.returns
  have hts := atoms_spec (ws := wsX5_checkRange) B.pre
  have hown : s.vm.findClass RX5 = some m.cls := findClass_of_methodNamed B.named
  have hlocks := B.notSynchronized
  have hS : va_S (fun q => z ≤ q) s.heap s.heap [] := va_S.rf
  have hl := lv_entry ([.int x, .int lo, .int hi]) (n := 3) (Nat.le_of_ble_eq_true rfl)
  rw [lg_entry_eq]
  generalize (lg_sl ([.int x, .int lo, .int hi]) ++ List.replicate (3 - (lg_sl ([.int x, .int lo, .int hi])).length) Slot.unset).toArray = ls at hl ⊢
  have hl : lv_has ls 3 [(0, .int x), (1, .int lo), (2, .int hi)] := hl
  skip
  refine lv_iload_n hx hb dX5_checkRange_0 rfl (lv_at hl 0 rfl) ?_
  refine lv_iload_n hx hb dX5_checkRange_1 rfl (lv_at hl 1 rfl) ?_
  refine lv_icmp_lt (tgt := 10) hx hb dX5_checkRange_2 (by decide) (fun c2_1 => ?_) (fun c2_1 => ?_)
  · exact cf_throw (text := "an argument is out of range") hx hb hl0 hown (by decide +kernel) (hts (.classLink RX5 118 "java/lang/IllegalArgumentException") (List.mem_of_getElem? (i := 1) rfl)) (hts (.initialized "java/lang/IllegalArgumentException") (List.mem_of_getElem? (i := 2) rfl)) (List.mem_of_getElem? (i := 1) rfl) (List.mem_of_getElem? (i := 1) rfl) (fun w h => hts w (List.mem_cons_of_mem _ (List.mem_append_right _ (h)))) cf_ng_iae cf_gd_iae hT hW hS (hl.1.trans hml.symm) dX5_checkRange_10 dX5_checkRange_13 dX5_checkRange_14 dX5_checkRange_16 dX5_checkRange_19 htab (by decide) hlocks ⟨rfl, cf_nrg1 c2_1⟩ (by decide)
  · refine lv_iload_n hx hb dX5_checkRange_5 rfl (lv_at hl 0 rfl) ?_
    refine lv_iload_n hx hb dX5_checkRange_6 rfl (lv_at hl 2 rfl) ?_
    refine lv_icmp_le (tgt := 20) hx hb dX5_checkRange_7 (by decide) (fun c7_2 => ?_) (fun c7_2 => ?_)
    · refine vx_ret ?_
      refine W.widen (k := 1) (n := 6) (by omega) (by omega) ?_
      exact W.vret hx hb hr (fun t9 ht9 hw9 => ⟨⟨(), rfl, cf_rg_of c2_1 c7_2, cf_W.re ht9 hW⟩, hS.F ht9⟩) hS.2.2 dX5_checkRange_20
    · exact cf_throw (text := "an argument is out of range") hx hb hl0 hown (by decide +kernel) (hts (.classLink RX5 118 "java/lang/IllegalArgumentException") (List.mem_of_getElem? (i := 1) rfl)) (hts (.initialized "java/lang/IllegalArgumentException") (List.mem_of_getElem? (i := 2) rfl)) (List.mem_of_getElem? (i := 1) rfl) (List.mem_of_getElem? (i := 1) rfl) (fun w h => hts w (List.mem_cons_of_mem _ (List.mem_append_right _ (h)))) cf_ng_iae cf_gd_iae hT hW hS (hl.1.trans hml.symm) dX5_checkRange_10 dX5_checkRange_13 dX5_checkRange_14 dX5_checkRange_16 dX5_checkRange_19 htab (by decide) hlocks ⟨rfl, cf_nrg2 c7_2⟩ (by decide)
set_option maxHeartbeats 4000000 in
set_option maxRecDepth 100000 in
/-- is the game for so many people -/
theorem c_X1_isFor (l : Launch) (D : va_G) (cT : Nat → ClassId) (z : Nat) (ad : cf_Ad) (nc ng : Nat) (S : cf_S) (P : cf_Pt) (O : Nat → Int64) {g : Nat} (hg : g < 5) (x : Int32) : Met l yX1_isFor wsX1_isFor ({ frames := 0, cells := 0, slots := 0, locals := 0 }) (va_Pc [.ref (ad 1 g), .int x] (cf_P D cT z (cf_E cT nc ng S P O ad) ad)) (cf_Qi D z (fun (r : Int32) (_ : Unit) => cf_B r (¬ x < S 1 g 0 ∧ ¬ S 1 g 1 < x)) (fun _ => (cf_E cT nc ng S P O ad)) (fun _ => ad)) 0 0 (fun q => z ≤ q) := by
  refine Met.ofW (cc := cX1_isFor) (maxL := 2) (ret := (some .boolean)) (by decide) rfl ?_
  intro p e s m args below meth c s₁ B hml hv
  obtain ⟨rfl, hW, hT⟩ := hv
  have hx := B.exec
  have hb := B.bytes
  have hr := B.returns
  have hts := atoms_spec (ws := wsX1_isFor) B.pre
  have hown : s.vm.findClass RX1 = some m.cls := findClass_of_methodNamed B.named
  have hlocks := B.notSynchronized
  have hS : va_S (fun q => z ≤ q) s.heap s.heap [] := va_S.rf
  have hl := lv_entry ([.ref (ad 1 g), .int x]) (n := 2) (Nat.le_of_ble_eq_true rfl)
  rw [lg_entry_eq]
  generalize (lg_sl ([.ref (ad 1 g), .int x]) ++ List.replicate (2 - (lg_sl ([.ref (ad 1 g), .int x])).length) Slot.unset).toArray = ls at hl ⊢
  have hl : lv_has ls 2 [(0, .ref (ad 1 g)), (1, .int x)] := hl
  skip
  refine lv_aload_n hx hb dX1_isFor_0 rfl (lv_at hl 0 rfl) ?_
  refine cf_get (v := .int (S 1 g 0)) (ci := 1) (C := RX1) (T := TX1) (N := 6) hx hb hts (fun _ h => List.mem_cons_of_mem _ (List.mem_append_right _ (h))) hown hT.1 hW (cf_e1 hg) rfl 0 (by decide) (hts (.fieldLink RX1 7 "GameCafe$Game" "least" "I") (List.mem_of_getElem? (i := 1) rfl)) (fun _ h9 => h9) rfl dX1_isFor_1 ?_
  refine lv_iload_n hx hb dX1_isFor_4 rfl (lv_at hl 1 rfl) ?_
  refine lv_icmp_gt (tgt := 20) hx hb dX1_isFor_5 (by decide) (fun c5_1 => ?_) (fun c5_1 => ?_)
  · refine lv_iconst (v := 0) hx hb dX1_isFor_20 (by decide) ?_
    exact W.zret (v := 0) (ty := .boolean) hx hb hr (by rfl) (fun t9 ht9 hw9 => ⟨⟨0, (), rfl, Or.inr ⟨rfl, fun q => q.1 c5_1⟩, cf_W.re ht9 hW⟩, hS.F ht9⟩) hS.2.2 dX1_isFor_21
  · refine lv_iload_n hx hb dX1_isFor_8 rfl (lv_at hl 1 rfl) ?_
    refine lv_aload_n hx hb dX1_isFor_9 rfl (lv_at hl 0 rfl) ?_
    refine cf_get (v := .int (S 1 g 1)) (ci := 1) (C := RX1) (T := TX1) (N := 6) hx hb hts (fun _ h => List.mem_cons_of_mem _ (List.mem_append_right _ (h))) hown hT.1 hW (cf_e1 hg) rfl 1 (by decide) (hts (.fieldLink RX1 13 "GameCafe$Game" "most" "I") (List.mem_of_getElem? (i := 2) rfl)) (fun _ h9 => h9) rfl dX1_isFor_10 ?_
    refine lv_icmp_gt (tgt := 20) hx hb dX1_isFor_13 (by decide) (fun c13_2 => ?_) (fun c13_2 => ?_)
    · refine lv_iconst (v := 0) hx hb dX1_isFor_20 (by decide) ?_
      exact W.zret (v := 0) (ty := .boolean) hx hb hr (by rfl) (fun t9 ht9 hw9 => ⟨⟨0, (), rfl, Or.inr ⟨rfl, fun q => q.2 c13_2⟩, cf_W.re ht9 hW⟩, hS.F ht9⟩) hS.2.2 dX1_isFor_21
    · refine lv_iconst (v := 1) hx hb dX1_isFor_16 (by decide) ?_
      refine lv_goto (tgt := 21) hx hb dX1_isFor_17 (by decide) ?_
      exact W.zret (v := 1) (ty := .boolean) hx hb hr (by rfl) (fun t9 ht9 hw9 => ⟨⟨1, (), rfl, Or.inl ⟨rfl, c5_1, c13_2⟩, cf_W.re ht9 hW⟩, hS.F ht9⟩) hS.2.2 dX1_isFor_21
