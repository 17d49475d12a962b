/-- x is a group that has not gone -/
def cf_lv (P : cf_Pt) (x : Int32) : Prop := ∃ j : Nat, j < 60 ∧ x = nI j ∧ P 15 0 j ≠ 0
theorem cf_far1 {x : Int32} {nc : Nat} (hnc : nc ≤ 15) (h : x < 0) : ¬ cf_ix x nc := cf_nix1 (by omega) h
theorem cf_far2 {x : Int32} {nc : Nat} (hnc : nc ≤ 15) (h : 15 ≤ x) : ¬ cf_ix x nc := by
  rintro ⟨j, hj, rfl⟩
  exact absurd h (nI_ge (a := j) (b := 15) (by omega) (by decide))
theorem cf_far3 {x : Int32} {j nc : Nat} (hj : j < 15) (hx : x = nI j) (hnc : nc ≤ 15) (hin : ¬ j < nc) : ¬ cf_ix x nc := by
  rintro ⟨i, hi, h⟩
  have := cf_nI_inj (by omega) (by omega) (hx.symm.trans h)
  omega
theorem cf_farG1 {x : Int32} {P : cf_Pt} (h : x < 0) : ¬ cf_lv P x := by
  rintro ⟨j, hj, rfl, -⟩
  exact nI_pos (by omega) h
theorem cf_farG2 {x : Int32} {P : cf_Pt} (h : 60 ≤ x) : ¬ cf_lv P x := by
  rintro ⟨j, hj, rfl, -⟩
  exact absurd h (nI_ge (a := j) (b := 60) (by omega) (by decide))
theorem cf_farG3 {x : Int32} {j : Nat} {P : cf_Pt} (hj : j < 60) (hx : x = nI j) (h0 : P 15 0 j = 0) : ¬ cf_lv P x := by
  rintro ⟨i, hi, h, h2⟩
  have := cf_nI_inj (by omega) (by omega) (hx.symm.trans h)
  subst this
  exact h2 h0
def cf_worth (h : Nat → Int32) : Int32 := 0 + h 0 * (100 * (0 + 1)) + h 1 * (100 * (1 + 1)) + h 2 * (100 * (2 + 1)) + h 3 * (100 * (3 + 1))
/-- a table that is free and has seats enough -/
def cf_okT (S : cf_S) (x : Int32) : Nat → Bool := fun u => decide (S 3 u 1 = -1) && !decide (S 3 u 0 < x)
def cf_ltT (S : cf_S) : Nat → Nat → Bool := fun u t => decide (S 3 u 0 < S 3 t 0)
theorem cf_okT_of {S : cf_S} {x : Int32} {u : Nat} (h1 : S 3 u 1 = -1) (h2 : ¬ S 3 u 0 < x) : cf_okT S x u = true := by

  simp [cf_okT, h1, h2]
set_option maxHeartbeats 4000000 in
set_option maxRecDepth 100000 in
/-- can the copy be played -/
theorem c_X0_isPlayable (l : Launch) (D : va_G) (cT : Nat → ClassId) (z : Nat) (ad : cf_Ad) (nc ng : Nat) (S : cf_S) (P : cf_Pt) (O : Nat → Int64) {cp : Nat} (hc : cp < nc) (hg : P 0 cp 0 < 5) : Met l yX0_isPlayable wsX0_isPlayable ({ frames := 0, cells := 0, slots := 0, locals := 0 }) (va_Pc [.ref (ad 0 cp)] (cf_P D cT z (cf_E cT nc ng S P O ad) ad)) (cf_Qi D z (fun (r : Int32) (_ : Unit) => cf_B r (cf_play (S 7 cp) (S 9 (P 0 cp 0)))) (fun _ => (cf_E cT nc ng S P O ad)) (fun _ => ad)) 0 0 (fun q => z ≤ q) := by
  refine Met.ofW (cc := cX0_isPlayable) (maxL := 2) (ret := (some .boolean)) (by decide) rfl ?_
  intro p e s m args below meth c s₁ B hml hv
  obtain ⟨rfl, hW, hT⟩ := hv
  have hx := B.exec
  have hb := B.bytes
  have hr := B.returns
  have hts := atoms_spec (ws := wsX0_isPlayable) B.pre
  have hown : s.vm.findClass RX0 = some m.cls := findClass_of_methodNamed B.named
  have hlocks := B.notSynchronized
  have hS : va_S (fun q => z ≤ q) s.heap s.heap [] := va_S.rf
  have hl := lv_entry ([.ref (ad 0 cp)]) (n := 2) (Nat.le_of_ble_eq_true rfl)
  rw [lg_entry_eq]
  generalize (lg_sl ([.ref (ad 0 cp)]) ++ List.replicate (2 - (lg_sl ([.ref (ad 0 cp)])).length) Slot.unset).toArray = ls at hl ⊢
  have hl : lv_has ls 2 [(0, .ref (ad 0 cp))] := hl
  skip
  refine lv_iconst (v := 0) hx hb dX0_isPlayable_0 (by decide) ?_
  refine lv_istore_n (lv' := [(1, .int 0), (0, .ref (ad 0 cp))]) hx hb dX0_isPlayable_1 rfl hl (by decide) rfl (fun ls hl => ?_)
  refine lv_iload_n hx hb dX0_isPlayable_2 rfl (lv_at hl 0 rfl) ?_
  refine lv_iconst (v := 4) hx hb dX0_isPlayable_3 (by decide) ?_
  refine lv_icmp_ge (tgt := 33) hx hb dX0_isPlayable_4 (by decide) (fun c4_1 => (by first | exact absurd c4_1 (by decide) | exact absurd (by decide) c4_1)) (fun c4_1 => ?_)
  refine lv_aload_n hx hb dX0_isPlayable_7 rfl (lv_at hl 1 rfl) ?_
  refine cf_get (v := .ref (ad 7 cp)) (ci := 0) (C := RX0) (T := TX0) (N := 4) hx hb hts (fun _ h => List.mem_cons_of_mem _ (List.mem_append_left _ (List.mem_append_right _ (h)))) hown hT.1 hW (cf_e0 hc) rfl 2 (by decide) (hts (.fieldLink RX0 33 "GameCafe$Copy" "has" "[I") (List.mem_of_getElem? (i := 1) rfl)) (fun _ h9 => h9) rfl dX0_isPlayable_8 ?_
  refine lv_iload_n hx hb dX0_isPlayable_11 rfl (lv_at hl 0 rfl) ?_
  refine cf_ildN (t0 := 0) (n := 4) (f := S 7 cp) (v := (S 7 cp 0)) hx hb hT.1 hW (cf_e7 hc) rfl 0 rfl (by decide) (by decide) dX0_isPlayable_12 rfl ?_
  refine lv_aload_n hx hb dX0_isPlayable_13 rfl (lv_at hl 1 rfl) ?_
  refine cf_get (v := .ref (ad 1 (P 0 cp 0))) (ci := 0) (C := RX0) (T := TX0) (N := 4) hx hb hts (fun _ h => List.mem_cons_of_mem _ (List.mem_append_left _ (List.mem_append_right _ (h)))) hown hT.1 hW (cf_e0 hc) rfl 1 (by decide) (hts (.fieldLink RX0 18 "GameCafe$Copy" "game" "LGameCafe$Game;") (List.mem_of_getElem? (i := 2) rfl)) (fun _ h9 => h9) rfl dX0_isPlayable_14 ?_
  refine cf_get (v := .ref (ad 9 (P 0 cp 0))) (ci := 1) (C := RX1) (T := TX1) (N := 6) hx hb hts (fun _ h => List.mem_cons_of_mem _ (List.mem_append_right _ (h))) hown hT.1 hW (cf_e1 hg) rfl 5 (by decide) (hts (.fieldLink RX0 36 "GameCafe$Game" "need" "[I") (List.mem_of_getElem? (i := 3) rfl)) (fun _ h9 => h9) rfl dX0_isPlayable_17 ?_
  refine lv_iload_n hx hb dX0_isPlayable_20 rfl (lv_at hl 0 rfl) ?_
  refine cf_ildN (t0 := 0) (n := 4) (f := S 9 (P 0 cp 0)) (v := (S 9 (P 0 cp 0) 0)) hx hb hT.1 hW (cf_e9 hg) rfl 0 rfl (by decide) (by decide) dX0_isPlayable_21 rfl ?_
  refine lv_icmp_ge (tgt := 27) hx hb dX0_isPlayable_22 (by decide) (fun c22_2 => ?_) (fun c22_2 => ?_)
  · refine lv_iinc (v := 1) (lv' := [(1, .int 1), (0, .ref (ad 0 cp))]) hx hb dX0_isPlayable_27 hl (k := 0) rfl (by decide) (by decide) rfl (fun ls hl => ?_)
    refine lv_goto (tgt := 2) hx hb dX0_isPlayable_30 (by decide) ?_
    refine lv_iload_n hx hb dX0_isPlayable_2 rfl (lv_at hl 0 rfl) ?_
    refine lv_iconst (v := 4) hx hb dX0_isPlayable_3 (by decide) ?_
    refine lv_icmp_ge (tgt := 33) hx hb dX0_isPlayable_4 (by decide) (fun c4_3 => (by first | exact absurd c4_3 (by decide) | exact absurd (by decide) c4_3)) (fun c4_3 => ?_)
    refine lv_aload_n hx hb dX0_isPlayable_7 rfl (lv_at hl 1 rfl) ?_
    refine cf_get (v := .ref (ad 7 cp)) (ci := 0) (C := RX0) (T := TX0) (N := 4) hx hb hts (fun _ h => List.mem_cons_of_mem _ (List.mem_append_left _ (List.mem_append_right _ (h)))) hown hT.1 hW (cf_e0 hc) rfl 2 (by decide) (hts (.fieldLink RX0 33 "GameCafe$Copy" "has" "[I") (List.mem_of_getElem? (i := 1) rfl)) (fun _ h9 => h9) rfl dX0_isPlayable_8 ?_
    refine lv_iload_n hx hb dX0_isPlayable_11 rfl (lv_at hl 0 rfl) ?_
    refine cf_ildN (t0 := 0) (n := 4) (f := S 7 cp) (v := (S 7 cp 1)) hx hb hT.1 hW (cf_e7 hc) rfl 1 rfl (by decide) (by decide) dX0_isPlayable_12 rfl ?_
    refine lv_aload_n hx hb dX0_isPlayable_13 rfl (lv_at hl 1 rfl) ?_
    refine cf_get (v := .ref (ad 1 (P 0 cp 0))) (ci := 0) (C := RX0) (T := TX0) (N := 4) hx hb hts (fun _ h => List.mem_cons_of_mem _ (List.mem_append_left _ (List.mem_append_right _ (h)))) hown hT.1 hW (cf_e0 hc) rfl 1 (by decide) (hts (.fieldLink RX0 18 "GameCafe$Copy" "game" "LGameCafe$Game;") (List.mem_of_getElem? (i := 2) rfl)) (fun _ h9 => h9) rfl dX0_isPlayable_14 ?_
    refine cf_get (v := .ref (ad 9 (P 0 cp 0))) (ci := 1) (C := RX1) (T := TX1) (N := 6) hx hb hts (fun _ h => List.mem_cons_of_mem _ (List.mem_append_right _ (h))) hown hT.1 hW (cf_e1 hg) rfl 5 (by decide) (hts (.fieldLink RX0 36 "GameCafe$Game" "need" "[I") (List.mem_of_getElem? (i := 3) rfl)) (fun _ h9 => h9) rfl dX0_isPlayable_17 ?_
    refine lv_iload_n hx hb dX0_isPlayable_20 rfl (lv_at hl 0 rfl) ?_
    refine cf_ildN (t0 := 0) (n := 4) (f := S 9 (P 0 cp 0)) (v := (S 9 (P 0 cp 0) 1)) hx hb hT.1 hW (cf_e9 hg) rfl 1 rfl (by decide) (by decide) dX0_isPlayable_21 rfl ?_
    refine lv_icmp_ge (tgt := 27) hx hb dX0_isPlayable_22 (by decide) (fun c22_4 => ?_) (fun c22_4 => ?_)
    · refine lv_iinc (v := 2) (lv' := [(1, .int 2), (0, .ref (ad 0 cp))]) hx hb dX0_isPlayable_27 hl (k := 0) rfl (by decide) (by decide) rfl (fun ls hl => ?_)
      refine lv_goto (tgt := 2) hx hb dX0_isPlayable_30 (by decide) ?_
      refine lv_iload_n hx hb dX0_isPlayable_2 rfl (lv_at hl 0 rfl) ?_
      refine lv_iconst (v := 4) hx hb dX0_isPlayable_3 (by decide) ?_
      refine lv_icmp_ge (tgt := 33) hx hb dX0_isPlayable_4 (by decide) (fun c4_5 => (by first | exact absurd c4_5 (by decide) | exact absurd (by decide) c4_5)) (fun c4_5 => ?_)
      refine lv_aload_n hx hb dX0_isPlayable_7 rfl (lv_at hl 1 rfl) ?_
      refine cf_get (v := .ref (ad 7 cp)) (ci := 0) (C := RX0) (T := TX0) (N := 4) hx hb hts (fun _ h => List.mem_cons_of_mem _ (List.mem_append_left _ (List.mem_append_right _ (h)))) hown hT.1 hW (cf_e0 hc) rfl 2 (by decide) (hts (.fieldLink RX0 33 "GameCafe$Copy" "has" "[I") (List.mem_of_getElem? (i := 1) rfl)) (fun _ h9 => h9) rfl dX0_isPlayable_8 ?_
      refine lv_iload_n hx hb dX0_isPlayable_11 rfl (lv_at hl 0 rfl) ?_
      refine cf_ildN (t0 := 0) (n := 4) (f := S 7 cp) (v := (S 7 cp 2)) hx hb hT.1 hW (cf_e7 hc) rfl 2 rfl (by decide) (by decide) dX0_isPlayable_12 rfl ?_
      refine lv_aload_n hx hb dX0_isPlayable_13 rfl (lv_at hl 1 rfl) ?_
      refine cf_get (v := .ref (ad 1 (P 0 cp 0))) (ci := 0) (C := RX0) (T := TX0) (N := 4) hx hb hts (fun _ h => List.mem_cons_of_mem _ (List.mem_append_left _ (List.mem_append_right _ (h)))) hown hT.1 hW (cf_e0 hc) rfl 1 (by decide) (hts (.fieldLink RX0 18 "GameCafe$Copy" "game" "LGameCafe$Game;") (List.mem_of_getElem? (i := 2) rfl)) (fun _ h9 => h9) rfl dX0_isPlayable_14 ?_
      refine cf_get (v := .ref (ad 9 (P 0 cp 0))) (ci := 1) (C := RX1) (T := TX1) (N := 6) hx hb hts (fun _ h => List.mem_cons_of_mem _ (List.mem_append_right _ (h))) hown hT.1 hW (cf_e1 hg) rfl 5 (by decide) (hts (.fieldLink RX0 36 "GameCafe$Game" "need" "[I") (List.mem_of_getElem? (i := 3) rfl)) (fun _ h9 => h9) rfl dX0_isPlayable_17 ?_
      refine lv_iload_n hx hb dX0_isPlayable_20 rfl (lv_at hl 0 rfl) ?_
      refine cf_ildN (t0 := 0) (n := 4) (f := S 9 (P 0 cp 0)) (v := (S 9 (P 0 cp 0) 2)) hx hb hT.1 hW (cf_e9 hg) rfl 2 rfl (by decide) (by decide) dX0_isPlayable_21 rfl ?_
      refine lv_icmp_ge (tgt := 27) hx hb dX0_isPlayable_22 (by decide) (fun c22_6 => ?_) (fun c22_6 => ?_)
      · refine lv_iinc (v := 3) (lv' := [(1, .int 3), (0, .ref (ad 0 cp))]) hx hb dX0_isPlayable_27 hl (k := 0) rfl (by decide) (by decide) rfl (fun ls hl => ?_)
        refine lv_goto (tgt := 2) hx hb dX0_isPlayable_30 (by decide) ?_
        refine lv_iload_n hx hb dX0_isPlayable_2 rfl (lv_at hl 0 rfl) ?_
        refine lv_iconst (v := 4) hx hb dX0_isPlayable_3 (by decide) ?_
        refine lv_icmp_ge (tgt := 33) hx hb dX0_isPlayable_4 (by decide) (fun c4_7 => (by first | exact absurd c4_7 (by decide) | exact absurd (by decide) c4_7)) (fun c4_7 => ?_)
        refine lv_aload_n hx hb dX0_isPlayable_7 rfl (lv_at hl 1 rfl) ?_
        refine cf_get (v := .ref (ad 7 cp)) (ci := 0) (C := RX0) (T := TX0) (N := 4) hx hb hts (fun _ h => List.mem_cons_of_mem _ (List.mem_append_left _ (List.mem_append_right _ (h)))) hown hT.1 hW (cf_e0 hc) rfl 2 (by decide) (hts (.fieldLink RX0 33 "GameCafe$Copy" "has" "[I") (List.mem_of_getElem? (i := 1) rfl)) (fun _ h9 => h9) rfl dX0_isPlayable_8 ?_
        refine lv_iload_n hx hb dX0_isPlayable_11 rfl (lv_at hl 0 rfl) ?_
        refine cf_ildN (t0 := 0) (n := 4) (f := S 7 cp) (v := (S 7 cp 3)) hx hb hT.1 hW (cf_e7 hc) rfl 3 rfl (by decide) (by decide) dX0_isPlayable_12 rfl ?_
        refine lv_aload_n hx hb dX0_isPlayable_13 rfl (lv_at hl 1 rfl) ?_
        refine cf_get (v := .ref (ad 1 (P 0 cp 0))) (ci := 0) (C := RX0) (T := TX0) (N := 4) hx hb hts (fun _ h => List.mem_cons_of_mem _ (List.mem_append_left _ (List.mem_append_right _ (h)))) hown hT.1 hW (cf_e0 hc) rfl 1 (by decide) (hts (.fieldLink RX0 18 "GameCafe$Copy" "game" "LGameCafe$Game;") (List.mem_of_getElem? (i := 2) rfl)) (fun _ h9 => h9) rfl dX0_isPlayable_14 ?_
        refine cf_get (v := .ref (ad 9 (P 0 cp 0))) (ci := 1) (C := RX1) (T := TX1) (N := 6) hx hb hts (fun _ h => List.mem_cons_of_mem _ (List.mem_append_right _ (h))) hown hT.1 hW (cf_e1 hg) rfl 5 (by decide) (hts (.fieldLink RX0 36 "GameCafe$Game" "need" "[I") (List.mem_of_getElem? (i := 3) rfl)) (fun _ h9 => h9) rfl dX0_isPlayable_17 ?_
        refine lv_iload_n hx hb dX0_isPlayable_20 rfl (lv_at hl 0 rfl) ?_
        refine cf_ildN (t0 := 0) (n := 4) (f := S 9 (P 0 cp 0)) (v := (S 9 (P 0 cp 0) 3)) hx hb hT.1 hW (cf_e9 hg) rfl 3 rfl (by decide) (by decide) dX0_isPlayable_21 rfl ?_
        refine lv_icmp_ge (tgt := 27) hx hb dX0_isPlayable_22 (by decide) (fun c22_8 => ?_) (fun c22_8 => ?_)
        · refine lv_iinc (v := 4) (lv' := [(1, .int 4), (0, .ref (ad 0 cp))]) hx hb dX0_isPlayable_27 hl (k := 0) rfl (by decide) (by decide) rfl (fun ls hl => ?_)
          refine lv_goto (tgt := 2) hx hb dX0_isPlayable_30 (by decide) ?_
          refine lv_iload_n hx hb dX0_isPlayable_2 rfl (lv_at hl 0 rfl) ?_
          refine lv_iconst (v := 4) hx hb dX0_isPlayable_3 (by decide) ?_
          refine lv_icmp_ge (tgt := 33) hx hb dX0_isPlayable_4 (by decide) (fun c4_9 => ?_) (fun c4_9 => (by first | exact absurd (by decide) c4_9 | exact absurd c4_9 (by decide)))
          refine lv_iconst (v := 1) hx hb dX0_isPlayable_33 (by decide) ?_
          exact W.zret (v := 1) (ty := .boolean) hx hb hr (by rfl) (fun t9 ht9 hw9 => ⟨⟨1, (), rfl, Or.inl ⟨rfl, cf_all4 c22_2 c22_4 c22_6 c22_8⟩, cf_W.re ht9 hW⟩, hS.F ht9⟩) hS.2.2 dX0_isPlayable_34
        · refine lv_iconst (v := 0) hx hb dX0_isPlayable_25 (by decide) ?_
          exact W.zret (v := 0) (ty := .boolean) hx hb hr (by rfl) (fun t9 ht9 hw9 => ⟨⟨0, (), rfl, Or.inr ⟨rfl, fun q => c22_8 (q 3 (by decide))⟩, cf_W.re ht9 hW⟩, hS.F ht9⟩) hS.2.2 dX0_isPlayable_26
      · refine lv_iconst (v := 0) hx hb dX0_isPlayable_25 (by decide) ?_
        exact W.zret (v := 0) (ty := .boolean) hx hb hr (by rfl) (fun t9 ht9 hw9 => ⟨⟨0, (), rfl, Or.inr ⟨rfl, fun q => c22_6 (q 2 (by decide))⟩, cf_W.re ht9 hW⟩, hS.F ht9⟩) hS.2.2 dX0_isPlayable_26
    · refine lv_iconst (v := 0) hx hb dX0_isPlayable_25 (by decide) ?_
      exact W.zret (v := 0) (ty := .boolean) hx hb hr (by rfl) (fun t9 ht9 hw9 => ⟨⟨0, (), rfl, Or.inr ⟨rfl, fun q => c22_4 (q 1 (by decide))⟩, cf_W.re ht9 hW⟩, hS.F ht9⟩) hS.2.2 dX0_isPlayable_26
  · refine lv_iconst (v := 0) hx hb dX0_isPlayable_25 (by decide) ?_
    exact W.zret (v := 0) (ty := .boolean) hx hb hr (by rfl) (fun t9 ht9 hw9 => ⟨⟨0, (), rfl, Or.inr ⟨rfl, fun q => c22_2 (q 0 (by decide))⟩, cf_W.re ht9 hW⟩, hS.F ht9⟩) hS.2.2 dX0_isPlayable_26
set_option maxHeartbeats 4000000 in
set_option maxRecDepth 100000 in
/-- what all parts of the copy are worth -/
theorem c_X0_worth (l : Launch) (D : va_G) (cT : Nat → ClassId) (z : Nat) (ad : cf_Ad) (nc ng : Nat) (S : cf_S) (P : cf_Pt) (O : Nat → Int64) {cp : Nat} (hc : cp < nc) : Met l yX0_worth wsX0_worth ({ frames := 1, cells := 0, slots := 0, locals := 20 }) (va_Pc [.ref (ad 0 cp)] (cf_P D cT z (cf_E cT nc ng S P O ad) ad)) (cf_Qi D z (fun (r : Int32) (_ : Unit) => r = cf_worth (S 7 cp)) (fun _ => (cf_E cT nc ng S P O ad)) (fun _ => ad)) 0 0 (fun q => z ≤ q) := by
  refine Met.ofW (cc := cX0_worth) (maxL := 3) (ret := (some .int)) (by decide) rfl ?_
  intro p e s m args below meth c s₁ B hml hv
  obtain ⟨rfl, hW, hT⟩ := hv
  have hx := B.exec
  have hb := B.bytes
  have hr := B.returns
  have hts := atoms_spec (ws := wsX0_worth) B.pre
  have hown : s.vm.findClass RX0 = some m.cls := findClass_of_methodNamed B.named
  have hlocks := B.notSynchronized
  have hS : va_S (fun q => z ≤ q) s.heap s.heap [] := va_S.rf
  have hl := lv_entry ([.ref (ad 0 cp)]) (n := 3) (Nat.le_of_ble_eq_true rfl)
  rw [lg_entry_eq]
  generalize (lg_sl ([.ref (ad 0 cp)]) ++ List.replicate (3 - (lg_sl ([.ref (ad 0 cp)])).length) Slot.unset).toArray = ls at hl ⊢
  have hl : lv_has ls 3 [(0, .ref (ad 0 cp))] := hl
  skip
  have hnest : va_Nw (.methodLinkNest RX0 39 yX5_worthOfPart RX5) s := hT.2.2.2.1 (RX0, 39, yX5_worthOfPart, RX5) (List.mem_of_getElem? (i := 2) rfl)
  refine lv_iconst (v := 0) hx hb dX0_worth_0 (by decide) ?_
  refine lv_istore_n (lv' := [(1, .int 0), (0, .ref (ad 0 cp))]) hx hb dX0_worth_1 rfl hl (by decide) rfl (fun ls hl => ?_)
  refine lv_iconst (v := 0) hx hb dX0_worth_2 (by decide) ?_
  refine lv_istore_n (lv' := [(2, .int 0), (1, .int 0), (0, .ref (ad 0 cp))]) hx hb dX0_worth_3 rfl hl (by decide) rfl (fun ls hl => ?_)
  refine lv_iload_n hx hb dX0_worth_4 rfl (lv_at hl 0 rfl) ?_
  refine lv_iconst (v := 4) hx hb dX0_worth_5 (by decide) ?_
  refine lv_icmp_ge (tgt := 29) hx hb dX0_worth_6 (by decide) (fun c6_1 => (by first | exact absurd c6_1 (by decide) | exact absurd (by decide) c6_1)) (fun c6_1 => ?_)
  refine lv_iload_n hx hb dX0_worth_9 rfl (lv_at hl 1 rfl) ?_
  refine lv_aload_n hx hb dX0_worth_10 rfl (lv_at hl 2 rfl) ?_
  refine cf_get (v := .ref (ad 7 cp)) (ci := 0) (C := RX0) (T := TX0) (N := 4) hx hb hts (fun _ h => List.mem_cons_of_mem _ (List.mem_append_right _ (h))) hown hT.1 hW (cf_e0 hc) rfl 2 (by decide) (hts (.fieldLink RX0 33 "GameCafe$Copy" "has" "[I") (List.mem_of_getElem? (i := 1) rfl)) (fun _ h9 => h9) rfl dX0_worth_11 ?_
  refine lv_iload_n hx hb dX0_worth_14 rfl (lv_at hl 0 rfl) ?_
  refine cf_ildN (t0 := 0) (n := 4) (f := S 7 cp) (v := (S 7 cp 0)) hx hb hT.1 hW (cf_e7 hc) rfl 0 rfl (by decide) (by decide) dX0_worth_15 rfl ?_
  refine lv_iload_n hx hb dX0_worth_16 rfl (lv_at hl 0 rfl) ?_
  refine va_calli (va_runSN (As := [.int 0]) (rest := [.int (S 7 cp 0), .int 0]) ⟨hx, hb, hml, hown, hts⟩ (c_X5_worthOfPart l D cT z ad _ 0) ⟨va_cnB 1 hts ggX0_worth_X5_worthOfPart rfl rfl rfl hnest (hts (.initialized RX5) (List.mem_of_getElem? (i := 3) rfl)) (by decide +kernel) ⟨Nat.le_of_ble_eq_true rfl, Nat.le_of_ble_eq_true rfl⟩, (hts (.static yX5_worthOfPart) (List.mem_of_getElem? (i := 2) rfl)), trivial⟩ (cf_preS hT hS hW) rfl rfl hl.1 rfl (lv_room (Nat.le_of_ble_eq_true rfl)) dX0_worth_17 ⟨Nat.le_of_ble_eq_true rfl, Nat.le_of_ble_eq_true rfl⟩) hS (fun _ _ h => h) (fun _ h => h) (fun r2 ur2 t9 H locs ht hvm hw hW hz1 hk1 hS => ?_)
  have hW := cf_W.er ht hW
  subst hw
  refine lv_imul hx hb dX0_worth_20 ?_
  refine lv_iadd hx hb dX0_worth_21 ?_
  refine lv_istore_n (lv' := [(1, .int (0 + ((S 7 cp 0) * (100 * (0 + 1))))), (2, .int 0), (0, .ref (ad 0 cp))]) hx hb dX0_worth_22 rfl hl (by decide) rfl (fun ls hl => ?_)
  refine lv_iinc (v := 1) (lv' := [(2, .int 1), (1, .int (0 + ((S 7 cp 0) * (100 * (0 + 1))))), (0, .ref (ad 0 cp))]) hx hb dX0_worth_23 hl (k := 1) rfl (by decide) (by decide) rfl (fun ls hl => ?_)
  refine lv_goto (tgt := 4) hx hb dX0_worth_26 (by decide) ?_
  refine lv_iload_n hx hb dX0_worth_4 rfl (lv_at hl 0 rfl) ?_
  refine lv_iconst (v := 4) hx hb dX0_worth_5 (by decide) ?_
  refine lv_icmp_ge (tgt := 29) hx hb dX0_worth_6 (by decide) (fun c6_3 => (by first | exact absurd c6_3 (by decide) | exact absurd (by decide) c6_3)) (fun c6_3 => ?_)
  refine lv_iload_n hx hb dX0_worth_9 rfl (lv_at hl 1 rfl) ?_
  refine lv_aload_n hx hb dX0_worth_10 rfl (lv_at hl 2 rfl) ?_
  refine cf_get (v := .ref (ad 7 cp)) (ci := 0) (C := RX0) (T := TX0) (N := 4) hx hb hts (fun _ h => List.mem_cons_of_mem _ (List.mem_append_right _ (h))) hown hT.1 hW (cf_e0 hc) rfl 2 (by decide) (hts (.fieldLink RX0 33 "GameCafe$Copy" "has" "[I") (List.mem_of_getElem? (i := 1) rfl)) (fun _ h9 => h9) rfl dX0_worth_11 ?_
  refine lv_iload_n hx hb dX0_worth_14 rfl (lv_at hl 0 rfl) ?_
  refine cf_ildN (t0 := 0) (n := 4) (f := S 7 cp) (v := (S 7 cp 1)) hx hb hT.1 hW (cf_e7 hc) rfl 1 rfl (by decide) (by decide) dX0_worth_15 rfl ?_
  refine lv_iload_n hx hb dX0_worth_16 rfl (lv_at hl 0 rfl) ?_
  refine va_calli (va_runSN (As := [.int 1]) (rest := [.int (S 7 cp 1), .int (0 + ((S 7 cp 0) * (100 * (0 + 1))))]) ⟨hx, hb, hml, hown, hts⟩ (c_X5_worthOfPart l D cT z ad _ 1) ⟨va_cnB 1 hts ggX0_worth_X5_worthOfPart rfl rfl rfl hnest (hts (.initialized RX5) (List.mem_of_getElem? (i := 3) rfl)) (by decide +kernel) ⟨Nat.le_of_ble_eq_true rfl, Nat.le_of_ble_eq_true rfl⟩, (hts (.static yX5_worthOfPart) (List.mem_of_getElem? (i := 2) rfl)), trivial⟩ (cf_preS hT hS hW) rfl rfl hl.1 rfl (lv_room (Nat.le_of_ble_eq_true rfl)) dX0_worth_17 ⟨Nat.le_of_ble_eq_true rfl, Nat.le_of_ble_eq_true rfl⟩) hS (fun _ _ h => h) (fun _ h => h) (fun r4 ur4 t9 H locs ht hvm hw hW hz1 hk1 hS => ?_)
  have hW := cf_W.er ht hW
  subst hw
  refine lv_imul hx hb dX0_worth_20 ?_
  refine lv_iadd hx hb dX0_worth_21 ?_
  refine lv_istore_n (lv' := [(1, .int ((0 + ((S 7 cp 0) * (100 * (0 + 1)))) + ((S 7 cp 1) * (100 * (1 + 1))))), (2, .int 1), (0, .ref (ad 0 cp))]) hx hb dX0_worth_22 rfl hl (by decide) rfl (fun ls hl => ?_)
  refine lv_iinc (v := 2) (lv' := [(2, .int 2), (1, .int ((0 + ((S 7 cp 0) * (100 * (0 + 1)))) + ((S 7 cp 1) * (100 * (1 + 1))))), (0, .ref (ad 0 cp))]) hx hb dX0_worth_23 hl (k := 1) rfl (by decide) (by decide) rfl (fun ls hl => ?_)
  refine lv_goto (tgt := 4) hx hb dX0_worth_26 (by decide) ?_
  refine lv_iload_n hx hb dX0_worth_4 rfl (lv_at hl 0 rfl) ?_
  refine lv_iconst (v := 4) hx hb dX0_worth_5 (by decide) ?_
  refine lv_icmp_ge (tgt := 29) hx hb dX0_worth_6 (by decide) (fun c6_5 => (by first | exact absurd c6_5 (by decide) | exact absurd (by decide) c6_5)) (fun c6_5 => ?_)
  refine lv_iload_n hx hb dX0_worth_9 rfl (lv_at hl 1 rfl) ?_
  refine lv_aload_n hx hb dX0_worth_10 rfl (lv_at hl 2 rfl) ?_
  refine cf_get (v := .ref (ad 7 cp)) (ci := 0) (C := RX0) (T := TX0) (N := 4) hx hb hts (fun _ h => List.mem_cons_of_mem _ (List.mem_append_right _ (h))) hown hT.1 hW (cf_e0 hc) rfl 2 (by decide) (hts (.fieldLink RX0 33 "GameCafe$Copy" "has" "[I") (List.mem_of_getElem? (i := 1) rfl)) (fun _ h9 => h9) rfl dX0_worth_11 ?_
  refine lv_iload_n hx hb dX0_worth_14 rfl (lv_at hl 0 rfl) ?_
  refine cf_ildN (t0 := 0) (n := 4) (f := S 7 cp) (v := (S 7 cp 2)) hx hb hT.1 hW (cf_e7 hc) rfl 2 rfl (by decide) (by decide) dX0_worth_15 rfl ?_
  refine lv_iload_n hx hb dX0_worth_16 rfl (lv_at hl 0 rfl) ?_
  refine va_calli (va_runSN (As := [.int 2]) (rest := [.int (S 7 cp 2), .int ((0 + ((S 7 cp 0) * (100 * (0 + 1)))) + ((S 7 cp 1) * (100 * (1 + 1))))]) ⟨hx, hb, hml, hown, hts⟩ (c_X5_worthOfPart l D cT z ad _ 2) ⟨va_cnB 1 hts ggX0_worth_X5_worthOfPart rfl rfl rfl hnest (hts (.initialized RX5) (List.mem_of_getElem? (i := 3) rfl)) (by decide +kernel) ⟨Nat.le_of_ble_eq_true rfl, Nat.le_of_ble_eq_true rfl⟩, (hts (.static yX5_worthOfPart) (List.mem_of_getElem? (i := 2) rfl)), trivial⟩ (cf_preS hT hS hW) rfl rfl hl.1 rfl (lv_room (Nat.le_of_ble_eq_true rfl)) dX0_worth_17 ⟨Nat.le_of_ble_eq_true rfl, Nat.le_of_ble_eq_true rfl⟩) hS (fun _ _ h => h) (fun _ h => h) (fun r6 ur6 t9 H locs ht hvm hw hW hz1 hk1 hS => ?_)
  have hW := cf_W.er ht hW
  subst hw
  refine lv_imul hx hb dX0_worth_20 ?_
  refine lv_iadd hx hb dX0_worth_21 ?_
  refine lv_istore_n (lv' := [(1, .int (((0 + ((S 7 cp 0) * (100 * (0 + 1)))) + ((S 7 cp 1) * (100 * (1 + 1)))) + ((S 7 cp 2) * (100 * (2 + 1))))), (2, .int 2), (0, .ref (ad 0 cp))]) hx hb dX0_worth_22 rfl hl (by decide) rfl (fun ls hl => ?_)
  refine lv_iinc (v := 3) (lv' := [(2, .int 3), (1, .int (((0 + ((S 7 cp 0) * (100 * (0 + 1)))) + ((S 7 cp 1) * (100 * (1 + 1)))) + ((S 7 cp 2) * (100 * (2 + 1))))), (0, .ref (ad 0 cp))]) hx hb dX0_worth_23 hl (k := 1) rfl (by decide) (by decide) rfl (fun ls hl => ?_)
  refine lv_goto (tgt := 4) hx hb dX0_worth_26 (by decide) ?_
  refine lv_iload_n hx hb dX0_worth_4 rfl (lv_at hl 0 rfl) ?_
  refine lv_iconst (v := 4) hx hb dX0_worth_5 (by decide) ?_
  refine lv_icmp_ge (tgt := 29) hx hb dX0_worth_6 (by decide) (fun c6_7 => (by first | exact absurd c6_7 (by decide) | exact absurd (by decide) c6_7)) (fun c6_7 => ?_)
  refine lv_iload_n hx hb dX0_worth_9 rfl (lv_at hl 1 rfl) ?_
  refine lv_aload_n hx hb dX0_worth_10 rfl (lv_at hl 2 rfl) ?_
  refine cf_get (v := .ref (ad 7 cp)) (ci := 0) (C := RX0) (T := TX0) (N := 4) hx hb hts (fun _ h => List.mem_cons_of_mem _ (List.mem_append_right _ (h))) hown hT.1 hW (cf_e0 hc) rfl 2 (by decide) (hts (.fieldLink RX0 33 "GameCafe$Copy" "has" "[I") (List.mem_of_getElem? (i := 1) rfl)) (fun _ h9 => h9) rfl dX0_worth_11 ?_
  refine lv_iload_n hx hb dX0_worth_14 rfl (lv_at hl 0 rfl) ?_
  refine cf_ildN (t0 := 0) (n := 4) (f := S 7 cp) (v := (S 7 cp 3)) hx hb hT.1 hW (cf_e7 hc) rfl 3 rfl (by decide) (by decide) dX0_worth_15 rfl ?_
  refine lv_iload_n hx hb dX0_worth_16 rfl (lv_at hl 0 rfl) ?_
  refine va_calli (va_runSN (As := [.int 3]) (rest := [.int (S 7 cp 3), .int (((0 + ((S 7 cp 0) * (100 * (0 + 1)))) + ((S 7 cp 1) * (100 * (1 + 1)))) + ((S 7 cp 2) * (100 * (2 + 1))))]) ⟨hx, hb, hml, hown, hts⟩ (c_X5_worthOfPart l D cT z ad _ 3) ⟨va_cnB 1 hts ggX0_worth_X5_worthOfPart rfl rfl rfl hnest (hts (.initialized RX5) (List.mem_of_getElem? (i := 3) rfl)) (by decide +kernel) ⟨Nat.le_of_ble_eq_true rfl, Nat.le_of_ble_eq_true rfl⟩, (hts (.static yX5_worthOfPart) (List.mem_of_getElem? (i := 2) rfl)), trivial⟩ (cf_preS hT hS hW) rfl rfl hl.1 rfl (lv_room (Nat.le_of_ble_eq_true rfl)) dX0_worth_17 ⟨Nat.le_of_ble_eq_true rfl, Nat.le_of_ble_eq_true rfl⟩) hS (fun _ _ h => h) (fun _ h => h) (fun r8 ur8 t9 H locs ht hvm hw hW hz1 hk1 hS => ?_)
  have hW := cf_W.er ht hW
  subst hw
  refine lv_imul hx hb dX0_worth_20 ?_
  refine lv_iadd hx hb dX0_worth_21 ?_
  refine lv_istore_n (lv' := [(1, .int ((((0 + ((S 7 cp 0) * (100 * (0 + 1)))) + ((S 7 cp 1) * (100 * (1 + 1)))) + ((S 7 cp 2) * (100 * (2 + 1)))) + ((S 7 cp 3) * (100 * (3 + 1))))), (2, .int 3), (0, .ref (ad 0 cp))]) hx hb dX0_worth_22 rfl hl (by decide) rfl (fun ls hl => ?_)
  refine lv_iinc (v := 4) (lv' := [(2, .int 4), (1, .int ((((0 + ((S 7 cp 0) * (100 * (0 + 1)))) + ((S 7 cp 1) * (100 * (1 + 1)))) + ((S 7 cp 2) * (100 * (2 + 1)))) + ((S 7 cp 3) * (100 * (3 + 1))))), (0, .ref (ad 0 cp))]) hx hb dX0_worth_23 hl (k := 1) rfl (by decide) (by decide) rfl (fun ls hl => ?_)
  refine lv_goto (tgt := 4) hx hb dX0_worth_26 (by decide) ?_
  refine lv_iload_n hx hb dX0_worth_4 rfl (lv_at hl 0 rfl) ?_
  refine lv_iconst (v := 4) hx hb dX0_worth_5 (by decide) ?_
  refine lv_icmp_ge (tgt := 29) hx hb dX0_worth_6 (by decide) (fun c6_9 => ?_) (fun c6_9 => (by first | exact absurd (by decide) c6_9 | exact absurd c6_9 (by decide)))
  refine lv_iload_n hx hb dX0_worth_29 rfl (lv_at hl 1 rfl) ?_
  exact W.iret (v := ((((0 + ((S 7 cp 0) * (100 * (0 + 1)))) + ((S 7 cp 1) * (100 * (1 + 1)))) + ((S 7 cp 2) * (100 * (2 + 1)))) + ((S 7 cp 3) * (100 * (3 + 1))))) hx hb hr (fun t9 ht9 hw9 => ⟨⟨((((0 + ((S 7 cp 0) * (100 * (0 + 1)))) + ((S 7 cp 1) * (100 * (1 + 1)))) + ((S 7 cp 2) * (100 * (2 + 1)))) + ((S 7 cp 3) * (100 * (3 + 1)))), (), rfl, rfl, cf_W.re ht9 hW⟩, hS.F ht9⟩) hS.2.2 dX0_worth_30
set_option maxHeartbeats 4000000 in
set_option maxRecDepth 100000 in
/-- the copy of a number, or IndexOutOfBoundsException -/
theorem c_X5_copyNumbered (l : Launch) (D : va_G) (cT : Nat → ClassId) (z : Nat) (ad : cf_Ad) (nc ng : Nat) (S : cf_S) (P : cf_Pt) (O : Nat → Int64) (hl0 : l.stackTraces = false) (x : Int32) (hnc : nc ≤ 15) (hO : ∀ j, j < 15 → P 14 0 j = if j < nc then j + 1 else 0) : vx_Met l yX5_copyNumbered wsX5_copyNumbered ({ frames := 6, cells := 1, slots := 6, locals := 82 }) (va_Pc [.ref (ad 5 0), .int x] (cf_P D cT z (cf_E cT nc ng S P O ad) ad)) (cf_Qq D z (fun (r : Option Nat) (_ : Unit) => ∃ j : Nat, j < nc ∧ x = nI j ∧ r = some (ad 0 j)) (fun _ => (cf_E cT nc ng S P O ad)) (fun _ => ad)) (cf_X D z (cf_E cT nc ng S P O ad) ad (fun e => e = cf_iob ∧ ¬ cf_ix x nc)) 1 6 (fun q => z ≤ q) := by
  refine vx_ofW (cc := cX5_copyNumbered) (maxL := 2) (ret := (some (.object "GameCafe$Copy"))) (by decide) rfl ?_
  intro p e s m args below meth c s₁ B hml htab hv
  obtain ⟨rfl, hW, hT⟩ := hv
  have hx := B.exec
  have hb := B.bytes
  have hr := B.returns
  have hts := atoms_spec (ws := wsX5_copyNumbered) B.pre
  have hown : s.vm.findClass RX5 = some m.cls := findClass_of_methodNamed B.named
  have hlocks := B.notSynchronized
  have hS : va_S (fun q => z ≤ q) s.heap s.heap [] := va_S.rf
  have hl := lv_entry ([.ref (ad 5 0), .int x]) (n := 2) (Nat.le_of_ble_eq_true rfl)
  rw [lg_entry_eq]
  generalize (lg_sl ([.ref (ad 5 0), .int x]) ++ List.replicate (2 - (lg_sl ([.ref (ad 5 0), .int x])).length) Slot.unset).toArray = ls at hl ⊢
  have hl : lv_has ls 2 [(0, .ref (ad 5 0)), (1, .int x)] := hl
  skip
  refine lv_iload_n hx hb dX5_copyNumbered_0 rfl (lv_at hl 1 rfl) ?_
  refine lv_if_lt (tgt := 19) hx hb dX5_copyNumbered_1 (by decide) (fun c1_1 => ?_) (fun c1_1 => ?_)
  · exact cf_throw (text := "there is no such copy") hx hb hl0 hown (by decide +kernel) (hts (.classLink RX5 211 "java/lang/IndexOutOfBoundsException") (List.mem_of_getElem? (i := 1) rfl)) (hts (.initialized "java/lang/IndexOutOfBoundsException") (List.mem_of_getElem? (i := 2) rfl)) (List.mem_of_getElem? (i := 4) rfl) (List.mem_of_getElem? (i := 0) rfl) (fun w h => hts w (List.mem_cons_of_mem _ (List.mem_append_right _ (h)))) cf_ng_iob cf_gd_iob hT hW hS (hl.1.trans hml.symm) dX5_copyNumbered_19 dX5_copyNumbered_22 dX5_copyNumbered_23 dX5_copyNumbered_25 dX5_copyNumbered_28 htab (by decide) hlocks ⟨rfl, cf_far1 hnc c1_1⟩ (by decide)
  · refine lv_iload_n hx hb dX5_copyNumbered_4 rfl (lv_at hl 1 rfl) ?_
    refine lv_bipush (v := 15) hx hb dX5_copyNumbered_5 (by decide) ?_
    refine lv_icmp_ge (tgt := 19) hx hb dX5_copyNumbered_7 (by decide) (fun c7_2 => ?_) (fun c7_2 => ?_)
    · exact cf_throw (text := "there is no such copy") hx hb hl0 hown (by decide +kernel) (hts (.classLink RX5 211 "java/lang/IndexOutOfBoundsException") (List.mem_of_getElem? (i := 1) rfl)) (hts (.initialized "java/lang/IndexOutOfBoundsException") (List.mem_of_getElem? (i := 2) rfl)) (List.mem_of_getElem? (i := 4) rfl) (List.mem_of_getElem? (i := 0) rfl) (fun w h => hts w (List.mem_cons_of_mem _ (List.mem_append_right _ (h)))) cf_ng_iob cf_gd_iob hT hW hS (hl.1.trans hml.symm) dX5_copyNumbered_19 dX5_copyNumbered_22 dX5_copyNumbered_23 dX5_copyNumbered_25 dX5_copyNumbered_28 htab (by decide) hlocks ⟨rfl, cf_far2 hnc c7_2⟩ (by decide)
    · obtain ⟨j, hj, hjx⟩ := cf_ofr x 15 (by decide) c1_1 (Int32.not_le.mp c7_2)
      by_cases hin : j < nc
      · refine lv_aload_n hx hb dX5_copyNumbered_10 rfl (lv_at hl 0 rfl) ?_
        refine cf_get (v := .ref (ad 14 0)) (ci := 5) (C := RX5) (T := TX5) (N := 9) hx hb hts (fun _ h => List.mem_cons_of_mem _ (List.mem_append_left _ (List.mem_append_right _ (h)))) hown hT.1 hW cf_e5 rfl 3 (by decide) (hts (.fieldLink RX5 29 "GameCafe" "owned" "[LGameCafe$Copy;") (List.mem_of_getElem? (i := 3) rfl)) (fun _ h9 => h9) rfl dX5_copyNumbered_11 ?_
        refine lv_iload_n hx hb dX5_copyNumbered_14 rfl (lv_at hl 1 rfl) ?_
        refine cf_aldN (t0 := 6) (C := RX0) (n := 15) (v := .ref (ad 0 j)) hx hb hT.1 hW cf_e14 rfl j hjx hj (by decide) dX5_copyNumbered_15 (cf_rwS ((hO j hj).trans (if_pos hin))) ?_
        refine lv_ifnonnull (tgt := 29) hx hb dX5_copyNumbered_16 (by decide) ?_
        refine lv_aload_n hx hb dX5_copyNumbered_29 rfl (lv_at hl 0 rfl) ?_
        refine cf_get (v := .ref (ad 14 0)) (ci := 5) (C := RX5) (T := TX5) (N := 9) hx hb hts (fun _ h => List.mem_cons_of_mem _ (List.mem_append_left _ (List.mem_append_right _ (h)))) hown hT.1 hW cf_e5 rfl 3 (by decide) (hts (.fieldLink RX5 29 "GameCafe" "owned" "[LGameCafe$Copy;") (List.mem_of_getElem? (i := 3) rfl)) (fun _ h9 => h9) rfl dX5_copyNumbered_30 ?_
        refine lv_iload_n hx hb dX5_copyNumbered_33 rfl (lv_at hl 1 rfl) ?_
        refine cf_aldN (t0 := 6) (C := RX0) (n := 15) (v := .ref (ad 0 j)) hx hb hT.1 hW cf_e14 rfl j hjx hj (by decide) dX5_copyNumbered_34 (cf_rwS ((hO j hj).trans (if_pos hin))) ?_
        refine vx_ret ?_
        refine W.widen (k := 1) (n := 6) (by omega) (by omega) ?_
        exact W.aret (v := .ref (ad 0 j)) hx hb hr (Or.inl ⟨_, rfl⟩) (Or.inr ⟨_, rfl⟩) (fun t9 ht9 hw9 => ⟨⟨(some (ad 0 j)), (), rfl, ⟨j, hin, hjx, rfl⟩, cf_W.re ht9 hW⟩, hS.F ht9⟩) hS.2.2 dX5_copyNumbered_35
      · refine lv_aload_n hx hb dX5_copyNumbered_10 rfl (lv_at hl 0 rfl) ?_
        refine cf_get (v := .ref (ad 14 0)) (ci := 5) (C := RX5) (T := TX5) (N := 9) hx hb hts (fun _ h => List.mem_cons_of_mem _ (List.mem_append_left _ (List.mem_append_right _ (h)))) hown hT.1 hW cf_e5 rfl 3 (by decide) (hts (.fieldLink RX5 29 "GameCafe" "owned" "[LGameCafe$Copy;") (List.mem_of_getElem? (i := 3) rfl)) (fun _ h9 => h9) rfl dX5_copyNumbered_11 ?_
        refine lv_iload_n hx hb dX5_copyNumbered_14 rfl (lv_at hl 1 rfl) ?_
        refine cf_aldN (t0 := 6) (C := RX0) (n := 15) (v := .null) hx hb hT.1 hW cf_e14 rfl j hjx hj (by decide) dX5_copyNumbered_15 (cf_rw0 ((hO j hj).trans (if_neg hin))) ?_
        refine lv_ifnonnullN hx hb dX5_copyNumbered_16 ?_
        exact cf_throw (text := "there is no such copy") hx hb hl0 hown (by decide +kernel) (hts (.classLink RX5 211 "java/lang/IndexOutOfBoundsException") (List.mem_of_getElem? (i := 1) rfl)) (hts (.initialized "java/lang/IndexOutOfBoundsException") (List.mem_of_getElem? (i := 2) rfl)) (List.mem_of_getElem? (i := 4) rfl) (List.mem_of_getElem? (i := 0) rfl) (fun w h => hts w (List.mem_cons_of_mem _ (List.mem_append_right _ (h)))) cf_ng_iob cf_gd_iob hT hW hS (hl.1.trans hml.symm) dX5_copyNumbered_19 dX5_copyNumbered_22 dX5_copyNumbered_23 dX5_copyNumbered_25 dX5_copyNumbered_28 htab (by decide) hlocks ⟨rfl, cf_far3 hj hjx hnc hin⟩ (by decide)
set_option maxHeartbeats 4000000 in
set_option maxRecDepth 100000 in
/-- the group of a number, or IndexOutOfBoundsException -/
theorem c_X5_groupNumbered (l : Launch) (D : va_G) (cT : Nat → ClassId) (z : Nat) (ad : cf_Ad) (nc ng : Nat) (S : cf_S) (P : cf_Pt) (O : Nat → Int64) (hl0 : l.stackTraces = false) (x : Int32) (hQ : ∀ j, j < 60 → P 15 0 j = 0 ∨ (P 15 0 j = j + 1 ∧ j < ng)) : vx_Met l yX5_groupNumbered wsX5_groupNumbered ({ frames := 6, cells := 1, slots := 6, locals := 82 }) (va_Pc [.ref (ad 5 0), .int x] (cf_P D cT z (cf_E cT nc ng S P O ad) ad)) (cf_Qq D z (fun (r : Option Nat) (_ : Unit) => ∃ j : Nat, j < 60 ∧ x = nI j ∧ P 15 0 j = j + 1 ∧ j < ng ∧ r = some (ad 2 j)) (fun _ => (cf_E cT nc ng S P O ad)) (fun _ => ad)) (cf_X D z (cf_E cT nc ng S P O ad) ad (fun e => e = cf_iob ∧ ¬ cf_lv P x)) 1 6 (fun q => z ≤ q) := by
  refine vx_ofW (cc := cX5_groupNumbered) (maxL := 2) (ret := (some (.object "GameCafe$Group"))) (by decide) rfl ?_
  intro p e s m args below meth c s₁ B hml htab hv
  obtain ⟨rfl, hW, hT⟩ := hv
  have hx := B.exec
  have hb := B.bytes
  have hr := B.returns
  have hts := atoms_spec (ws := wsX5_groupNumbered) B.pre
  have hown : s.vm.findClass RX5 = some m.cls := findClass_of_methodNamed B.named
  have hlocks := B.notSynchronized
  have hS : va_S (fun q => z ≤ q) s.heap s.heap [] := va_S.rf
  have hl := lv_entry ([.ref (ad 5 0), .int x]) (n := 2) (Nat.le_of_ble_eq_true rfl)
  rw [lg_entry_eq]
  generalize (lg_sl ([.ref (ad 5 0), .int x]) ++ List.replicate (2 - (lg_sl ([.ref (ad 5 0), .int x])).length) Slot.unset).toArray = ls at hl ⊢
  have hl : lv_has ls 2 [(0, .ref (ad 5 0)), (1, .int x)] := hl
  skip
  refine lv_iload_n hx hb dX5_groupNumbered_0 rfl (lv_at hl 1 rfl) ?_
  refine lv_if_lt (tgt := 19) hx hb dX5_groupNumbered_1 (by decide) (fun c1_1 => ?_) (fun c1_1 => ?_)
  · exact cf_throw (text := "there is no such group") hx hb hl0 hown (by decide +kernel) (hts (.classLink RX5 211 "java/lang/IndexOutOfBoundsException") (List.mem_of_getElem? (i := 1) rfl)) (hts (.initialized "java/lang/IndexOutOfBoundsException") (List.mem_of_getElem? (i := 2) rfl)) (List.mem_of_getElem? (i := 10) rfl) (List.mem_of_getElem? (i := 0) rfl) (fun w h => hts w (List.mem_cons_of_mem _ (List.mem_append_right _ (h)))) cf_ng_iob cf_gd_iob hT hW hS (hl.1.trans hml.symm) dX5_groupNumbered_19 dX5_groupNumbered_22 dX5_groupNumbered_23 dX5_groupNumbered_25 dX5_groupNumbered_28 htab (by decide) hlocks ⟨rfl, cf_farG1 c1_1⟩ (by decide)
  · refine lv_iload_n hx hb dX5_groupNumbered_4 rfl (lv_at hl 1 rfl) ?_
    refine lv_bipush (v := 60) hx hb dX5_groupNumbered_5 (by decide) ?_
    refine lv_icmp_ge (tgt := 19) hx hb dX5_groupNumbered_7 (by decide) (fun c7_2 => ?_) (fun c7_2 => ?_)
    · exact cf_throw (text := "there is no such group") hx hb hl0 hown (by decide +kernel) (hts (.classLink RX5 211 "java/lang/IndexOutOfBoundsException") (List.mem_of_getElem? (i := 1) rfl)) (hts (.initialized "java/lang/IndexOutOfBoundsException") (List.mem_of_getElem? (i := 2) rfl)) (List.mem_of_getElem? (i := 10) rfl) (List.mem_of_getElem? (i := 0) rfl) (fun w h => hts w (List.mem_cons_of_mem _ (List.mem_append_right _ (h)))) cf_ng_iob cf_gd_iob hT hW hS (hl.1.trans hml.symm) dX5_groupNumbered_19 dX5_groupNumbered_22 dX5_groupNumbered_23 dX5_groupNumbered_25 dX5_groupNumbered_28 htab (by decide) hlocks ⟨rfl, cf_farG2 c7_2⟩ (by decide)
    · obtain ⟨j, hj, hjx⟩ := cf_ofr x 60 (by decide) c1_1 (Int32.not_le.mp c7_2)
      rcases hQ j hj with h0 | h0
      · refine lv_aload_n hx hb dX5_groupNumbered_10 rfl (lv_at hl 0 rfl) ?_
        refine cf_get (v := .ref (ad 15 0)) (ci := 5) (C := RX5) (T := TX5) (N := 9) hx hb hts (fun _ h => List.mem_cons_of_mem _ (List.mem_append_left _ (List.mem_append_right _ (h)))) hown hT.1 hW cf_e5 rfl 4 (by decide) (hts (.fieldLink RX5 35 "GameCafe" "groups" "[LGameCafe$Group;") (List.mem_of_getElem? (i := 3) rfl)) (fun _ h9 => h9) rfl dX5_groupNumbered_11 ?_
        refine lv_iload_n hx hb dX5_groupNumbered_14 rfl (lv_at hl 1 rfl) ?_
        refine cf_aldN (t0 := 7) (C := RX2) (n := 60) (v := .null) hx hb hT.1 hW cf_e15 rfl j hjx hj (by decide) dX5_groupNumbered_15 (cf_rw0 h0) ?_
        refine lv_ifnonnullN hx hb dX5_groupNumbered_16 ?_
        exact cf_throw (text := "there is no such group") hx hb hl0 hown (by decide +kernel) (hts (.classLink RX5 211 "java/lang/IndexOutOfBoundsException") (List.mem_of_getElem? (i := 1) rfl)) (hts (.initialized "java/lang/IndexOutOfBoundsException") (List.mem_of_getElem? (i := 2) rfl)) (List.mem_of_getElem? (i := 10) rfl) (List.mem_of_getElem? (i := 0) rfl) (fun w h => hts w (List.mem_cons_of_mem _ (List.mem_append_right _ (h)))) cf_ng_iob cf_gd_iob hT hW hS (hl.1.trans hml.symm) dX5_groupNumbered_19 dX5_groupNumbered_22 dX5_groupNumbered_23 dX5_groupNumbered_25 dX5_groupNumbered_28 htab (by decide) hlocks ⟨rfl, cf_farG3 hj hjx h0⟩ (by decide)
      · refine lv_aload_n hx hb dX5_groupNumbered_10 rfl (lv_at hl 0 rfl) ?_
        refine cf_get (v := .ref (ad 15 0)) (ci := 5) (C := RX5) (T := TX5) (N := 9) hx hb hts (fun _ h => List.mem_cons_of_mem _ (List.mem_append_left _ (List.mem_append_right _ (h)))) hown hT.1 hW cf_e5 rfl 4 (by decide) (hts (.fieldLink RX5 35 "GameCafe" "groups" "[LGameCafe$Group;") (List.mem_of_getElem? (i := 3) rfl)) (fun _ h9 => h9) rfl dX5_groupNumbered_11 ?_
        refine lv_iload_n hx hb dX5_groupNumbered_14 rfl (lv_at hl 1 rfl) ?_
        refine cf_aldN (t0 := 7) (C := RX2) (n := 60) (v := .ref (ad 2 j)) hx hb hT.1 hW cf_e15 rfl j hjx hj (by decide) dX5_groupNumbered_15 (cf_rwS h0.1) ?_
        refine lv_ifnonnull (tgt := 29) hx hb dX5_groupNumbered_16 (by decide) ?_
        refine lv_aload_n hx hb dX5_groupNumbered_29 rfl (lv_at hl 0 rfl) ?_
        refine cf_get (v := .ref (ad 15 0)) (ci := 5) (C := RX5) (T := TX5) (N := 9) hx hb hts (fun _ h => List.mem_cons_of_mem _ (List.mem_append_left _ (List.mem_append_right _ (h)))) hown hT.1 hW cf_e5 rfl 4 (by decide) (hts (.fieldLink RX5 35 "GameCafe" "groups" "[LGameCafe$Group;") (List.mem_of_getElem? (i := 3) rfl)) (fun _ h9 => h9) rfl dX5_groupNumbered_30 ?_
        refine lv_iload_n hx hb dX5_groupNumbered_33 rfl (lv_at hl 1 rfl) ?_
        refine cf_aldN (t0 := 7) (C := RX2) (n := 60) (v := .ref (ad 2 j)) hx hb hT.1 hW cf_e15 rfl j hjx hj (by decide) dX5_groupNumbered_34 (cf_rwS h0.1) ?_
        refine vx_ret ?_
        refine W.widen (k := 1) (n := 6) (by omega) (by omega) ?_
        exact W.aret (v := .ref (ad 2 j)) hx hb hr (Or.inl ⟨_, rfl⟩) (Or.inr ⟨_, rfl⟩) (fun t9 ht9 hw9 => ⟨⟨(some (ad 2 j)), (), rfl, ⟨j, hj, hjx, h0.1, h0.2, rfl⟩, cf_W.re ht9 hW⟩, hS.F ht9⟩) hS.2.2 dX5_groupNumbered_35
set_option maxHeartbeats 4000000 in
set_option maxRecDepth 100000 in
/-- the free table with the fewest seats that are enough -/
theorem c_X5_freeTableFor (l : Launch) (D : va_G) (cT : Nat → ClassId) (z : Nat) (ad : cf_Ad) (nc ng : Nat) (S : cf_S) (P : cf_Pt) (O : Nat → Int64) (x : Int32) : Met l yX5_freeTableFor wsX5_freeTableFor ({ frames := 0, cells := 0, slots := 0, locals := 0 }) (va_Pc [.ref (ad 5 0), .int x] (cf_P D cT z (cf_E cT nc ng S P O ad) ad)) (cf_Qq D z (fun (r : Option Nat) (_ : Unit) => ∃ b : Option Nat, b = cf_best (cf_okT S x) (cf_ltT S) 6 ∧ r = b.map (ad 3)) (fun _ => (cf_E cT nc ng S P O ad)) (fun _ => ad)) 0 0 (fun q => z ≤ q) := by
  refine Met.ofW (cc := cX5_freeTableFor) (maxL := 8) (ret := (some (.object "GameCafe$Table"))) (by decide) rfl ?_
  intro p e s m args below meth c s₁ B hml hv
  obtain ⟨rfl, hW, hT⟩ := hv
  have hx := B.exec
  have hb := B.bytes
  have hr := B.returns
  have hts := atoms_spec (ws := wsX5_freeTableFor) B.pre
  have hown : s.vm.findClass RX5 = some m.cls := findClass_of_methodNamed B.named
  have hlocks := B.notSynchronized
  have hS : va_S (fun q => z ≤ q) s.heap s.heap [] := va_S.rf
  have hl := lv_entry ([.ref (ad 5 0), .int x]) (n := 8) (Nat.le_of_ble_eq_true rfl)
  rw [lg_entry_eq]
  generalize (lg_sl ([.ref (ad 5 0), .int x]) ++ List.replicate (8 - (lg_sl ([.ref (ad 5 0), .int x])).length) Slot.unset).toArray = ls at hl ⊢
  have hl : lv_has ls 8 [(0, .ref (ad 5 0)), (1, .int x)] := hl
  skip
  refine lv_null hx hb dX5_freeTableFor_0 ?_
  refine lv_astore_nN (lv' := [(2, .null), (0, .ref (ad 5 0)), (1, .int x)]) hx hb dX5_freeTableFor_1 rfl hl (by decide) rfl (fun ls hl => ?_)
  refine lv_aload_n hx hb dX5_freeTableFor_2 rfl (lv_at hl 1 rfl) ?_
  refine cf_get (v := .ref (ad 12 0)) (ci := 5) (C := RX5) (T := TX5) (N := 9) hx hb hts (fun _ h => List.mem_cons_of_mem _ (List.mem_append_left _ (List.mem_append_right _ (h)))) hown hT.1 hW cf_e5 rfl 1 (by decide) (hts (.fieldLink RX5 17 "GameCafe" "tables" "[LGameCafe$Table;") (List.mem_of_getElem? (i := 1) rfl)) (fun _ h9 => h9) rfl dX5_freeTableFor_3 ?_
  refine lv_astore_n (lv' := [(3, .ref (ad 12 0)), (2, .null), (0, .ref (ad 5 0)), (1, .int x)]) hx hb dX5_freeTableFor_6 rfl hl (by decide) rfl (fun ls hl => ?_)
  refine lv_aload_n hx hb dX5_freeTableFor_7 rfl (lv_at hl 0 rfl) ?_
  refine cf_alen (t0 := 4) (v := nI 6) hx hb hT.1 hW cf_e12 (ty := .object RX3) rfl rfl dX5_freeTableFor_8 ?_
  refine lv_istore (lv' := [(4, .int (nI 6)), (3, .ref (ad 12 0)), (2, .null), (0, .ref (ad 5 0)), (1, .int x)]) hx hb dX5_freeTableFor_9 hl (by decide) rfl (fun ls hl => ?_)
  refine lv_iconst (v := 0) hx hb dX5_freeTableFor_11 (by decide) ?_
  refine lv_istore (lv' := [(5, .int 0), (4, .int (nI 6)), (3, .ref (ad 12 0)), (2, .null), (0, .ref (ad 5 0)), (1, .int x)]) hx hb dX5_freeTableFor_12 hl (by decide) rfl (fun ls hl => ?_)
  refine cf_loopW (β := Option Nat) (fun i H locs ls b => cf_W D z (cf_E cT nc ng S P O ad) ad H ∧ va_S (fun q => z ≤ q) s.heap H locs ∧ lv_has ls 8 [(0, .ref (ad 5 0)), (1, .int x), (2, va_rf (b.map (ad 3))), (3, .ref (ad 12 0)), (4, .int (nI 6)), (5, .int (nI i))] ∧ b = cf_best (cf_okT S x) (cf_ltT S) i) 6 (fun H locs ls b hI => ?_) (fun i H locs ls b hi hI ih => ?_) none ⟨hW, hS, lv_sub hl [4, 5, 3, 2, 1, 0] rfl, rfl⟩
  · obtain ⟨hW, hS, hl, hI⟩ := hI
    rcases b with _ | t
    · have hl : lv_has ls 8 [(0, .ref (ad 5 0)), (1, .int x), (2, .null), (3, .ref (ad 12 0)), (4, .int (nI 6)), (5, .int (nI 6))] := hl
      refine lv_iload hx hb dX5_freeTableFor_14 (lv_at hl 5 rfl) ?_
      refine lv_iload hx hb dX5_freeTableFor_16 (lv_at hl 4 rfl) ?_
      refine lv_icmp_ge (tgt := 82) hx hb dX5_freeTableFor_18 (by decide) (fun c18_1 => ?_) (fun c18_1 => (by first | exact absurd (nI_le (Nat.le_refl 6) (by decide)) c18_1 | exact absurd c18_1 (nI_le (Nat.le_refl 6) (by decide))))
      refine lv_aload_nN hx hb dX5_freeTableFor_82 rfl (lv_at hl 2 rfl) ?_
      exact W.aret (v := .null) hx hb hr (Or.inl ⟨_, rfl⟩) (Or.inl rfl) (fun t9 ht9 hw9 => ⟨⟨none, (), rfl, ⟨none, hI, rfl⟩, cf_W.re ht9 hW⟩, hS.F ht9⟩) hS.2.2 dX5_freeTableFor_83
    · have hl : lv_has ls 8 [(0, .ref (ad 5 0)), (1, .int x), (2, .ref (ad 3 t)), (3, .ref (ad 12 0)), (4, .int (nI 6)), (5, .int (nI 6))] := hl
      refine lv_iload hx hb dX5_freeTableFor_14 (lv_at hl 5 rfl) ?_
      refine lv_iload hx hb dX5_freeTableFor_16 (lv_at hl 4 rfl) ?_
      refine lv_icmp_ge (tgt := 82) hx hb dX5_freeTableFor_18 (by decide) (fun c18_2 => ?_) (fun c18_2 => (by first | exact absurd (nI_le (Nat.le_refl 6) (by decide)) c18_2 | exact absurd c18_2 (nI_le (Nat.le_refl 6) (by decide))))
      refine lv_aload_n hx hb dX5_freeTableFor_82 rfl (lv_at hl 2 rfl) ?_
      exact W.aret (v := .ref (ad 3 t)) hx hb hr (Or.inl ⟨_, rfl⟩) (Or.inr ⟨_, rfl⟩) (fun t9 ht9 hw9 => ⟨⟨(some (ad 3 t)), (), rfl, ⟨some t, hI, rfl⟩, cf_W.re ht9 hW⟩, hS.F ht9⟩) hS.2.2 dX5_freeTableFor_83
  · obtain ⟨hW, hS, hl, hI⟩ := hI
    rcases b with _ | t
    · have hl : lv_has ls 8 [(0, .ref (ad 5 0)), (1, .int x), (2, .null), (3, .ref (ad 12 0)), (4, .int (nI 6)), (5, .int (nI i))] := hl
      refine lv_iload hx hb dX5_freeTableFor_14 (lv_at hl 5 rfl) ?_
      refine lv_iload hx hb dX5_freeTableFor_16 (lv_at hl 4 rfl) ?_
      refine lv_icmp_ge (tgt := 82) hx hb dX5_freeTableFor_18 (by decide) (fun c18_3 => (by first | exact absurd c18_3 (nI_ge hi (by decide)) | exact absurd (nI_ge hi (by decide)) c18_3)) (fun c18_3 => ?_)
      refine lv_aload_n hx hb dX5_freeTableFor_21 rfl (lv_at hl 3 rfl) ?_
      refine lv_iload hx hb dX5_freeTableFor_22 (lv_at hl 5 rfl) ?_
      refine cf_aldN (t0 := 4) (C := RX3) (n := 6) (v := .ref (ad 3 i)) hx hb hT.1 hW cf_e12 rfl i rfl hi (by decide) dX5_freeTableFor_24 rfl ?_
      refine lv_astore (lv' := [(6, .ref (ad 3 i)), (0, .ref (ad 5 0)), (1, .int x), (2, .null), (3, .ref (ad 12 0)), (4, .int (nI 6)), (5, .int (nI i))]) hx hb dX5_freeTableFor_25 hl (by decide) rfl (fun ls hl => ?_)
      refine lv_aload hx hb dX5_freeTableFor_27 (lv_at hl 0 rfl) ?_
      refine cf_get (v := .int (S 3 i 1)) (ci := 3) (C := RX3) (T := TX3) (N := 3) hx hb hts (fun _ h => List.mem_cons_of_mem _ (List.mem_append_right _ (h))) hown hT.1 hW (cf_e3 hi) rfl 2 (by decide) (hts (.fieldLink RX5 80 "GameCafe$Table" "group" "I") (List.mem_of_getElem? (i := 2) rfl)) (fun _ h9 => h9) rfl dX5_freeTableFor_29 ?_
      refine lv_iconst (v := (-1)) hx hb dX5_freeTableFor_32 (by decide) ?_
      refine lv_icmp_ne (tgt := 49) hx hb dX5_freeTableFor_33 (by decide) (fun c33_4 => ?_) (fun c33_4 => ?_)
      · refine lv_iconst (v := 0) hx hb dX5_freeTableFor_49 (by decide) ?_
        refine lv_istore (lv' := [(7, .int 0), (6, .ref (ad 3 i)), (0, .ref (ad 5 0)), (1, .int x), (2, .null), (3, .ref (ad 12 0)), (4, .int (nI 6)), (5, .int (nI i))]) hx hb dX5_freeTableFor_50 hl (by decide) rfl (fun ls hl => ?_)
        refine lv_iload hx hb dX5_freeTableFor_52 (lv_at hl 0 rfl) ?_
        refine lv_if_eq (tgt := 76) hx hb dX5_freeTableFor_54 (by decide) (fun c54_5 => ?_) (fun c54_5 => (by first | exact absurd rfl c54_5 | exact absurd c54_5 rfl))
        refine lv_iinc (v := (nI (i + 1))) (lv' := [(5, .int (nI (i + 1))), (7, .int 0), (6, .ref (ad 3 i)), (0, .ref (ad 5 0)), (1, .int x), (2, .null), (3, .ref (ad 12 0)), (4, .int (nI 6))]) hx hb dX5_freeTableFor_76 hl (k := 7) rfl (nI_1 i) (by decide) rfl (fun ls hl => ?_)
        refine lv_goto (tgt := 14) hx hb dX5_freeTableFor_79 (by decide) ?_
        exact ih _ _ _ none ⟨hW, hS, lv_sub hl [3, 4, 5, 6, 7, 0] rfl, (hI.trans (cf_best_no (by simp [cf_okT, c33_4])).symm)⟩
      · refine lv_aload hx hb dX5_freeTableFor_36 (lv_at hl 0 rfl) ?_
        refine cf_get (v := .int (S 3 i 0)) (ci := 3) (C := RX3) (T := TX3) (N := 3) hx hb hts (fun _ h => List.mem_cons_of_mem _ (List.mem_append_right _ (h))) hown hT.1 hW (cf_e3 hi) rfl 1 (by decide) (hts (.fieldLink RX5 90 "GameCafe$Table" "seats" "I") (List.mem_of_getElem? (i := 3) rfl)) (fun _ h9 => h9) rfl dX5_freeTableFor_38 ?_
        refine lv_iload_n hx hb dX5_freeTableFor_41 rfl (lv_at hl 2 rfl) ?_
        refine lv_icmp_lt (tgt := 49) hx hb dX5_freeTableFor_42 (by decide) (fun c42_6 => ?_) (fun c42_6 => ?_)
        · refine lv_iconst (v := 0) hx hb dX5_freeTableFor_49 (by decide) ?_
          refine lv_istore (lv' := [(7, .int 0), (6, .ref (ad 3 i)), (0, .ref (ad 5 0)), (1, .int x), (2, .null), (3, .ref (ad 12 0)), (4, .int (nI 6)), (5, .int (nI i))]) hx hb dX5_freeTableFor_50 hl (by decide) rfl (fun ls hl => ?_)
          refine lv_iload hx hb dX5_freeTableFor_52 (lv_at hl 0 rfl) ?_
          refine lv_if_eq (tgt := 76) hx hb dX5_freeTableFor_54 (by decide) (fun c54_7 => ?_) (fun c54_7 => (by first | exact absurd rfl c54_7 | exact absurd c54_7 rfl))
          refine lv_iinc (v := (nI (i + 1))) (lv' := [(5, .int (nI (i + 1))), (7, .int 0), (6, .ref (ad 3 i)), (0, .ref (ad 5 0)), (1, .int x), (2, .null), (3, .ref (ad 12 0)), (4, .int (nI 6))]) hx hb dX5_freeTableFor_76 hl (k := 7) rfl (nI_1 i) (by decide) rfl (fun ls hl => ?_)
          refine lv_goto (tgt := 14) hx hb dX5_freeTableFor_79 (by decide) ?_
          exact ih _ _ _ none ⟨hW, hS, lv_sub hl [3, 4, 5, 6, 7, 0] rfl, (hI.trans (cf_best_no (by simp [cf_okT, c42_6])).symm)⟩
        · have hok : cf_okT S x i = true := cf_okT_of c33_4 c42_6
          refine lv_iconst (v := 1) hx hb dX5_freeTableFor_45 (by decide) ?_
          refine lv_goto (tgt := 50) hx hb dX5_freeTableFor_46 (by decide) ?_
          refine lv_istore (lv' := [(7, .int 1), (6, .ref (ad 3 i)), (0, .ref (ad 5 0)), (1, .int x), (2, .null), (3, .ref (ad 12 0)), (4, .int (nI 6)), (5, .int (nI i))]) hx hb dX5_freeTableFor_50 hl (by decide) rfl (fun ls hl => ?_)
          refine lv_iload hx hb dX5_freeTableFor_52 (lv_at hl 0 rfl) ?_
          refine lv_if_eq (tgt := 76) hx hb dX5_freeTableFor_54 (by decide) (fun c54_8 => (by first | exact absurd c54_8 (by decide) | exact absurd (by decide) c54_8)) (fun c54_8 => ?_)
          refine lv_aload_nN hx hb dX5_freeTableFor_57 rfl (lv_at hl 4 rfl) ?_
          refine lv_ifnullN (tgt := 73) hx hb dX5_freeTableFor_58 (by decide) ?_
          refine lv_aload hx hb dX5_freeTableFor_73 (lv_at hl 1 rfl) ?_
          refine lv_astore_n (lv' := [(2, .ref (ad 3 i)), (7, .int 1), (6, .ref (ad 3 i)), (0, .ref (ad 5 0)), (1, .int x), (3, .ref (ad 12 0)), (4, .int (nI 6)), (5, .int (nI i))]) hx hb dX5_freeTableFor_75 rfl hl (by decide) rfl (fun ls hl => ?_)
          refine lv_iinc (v := (nI (i + 1))) (lv' := [(5, .int (nI (i + 1))), (2, .ref (ad 3 i)), (7, .int 1), (6, .ref (ad 3 i)), (0, .ref (ad 5 0)), (1, .int x), (3, .ref (ad 12 0)), (4, .int (nI 6))]) hx hb dX5_freeTableFor_76 hl (k := 7) rfl (nI_1 i) (by decide) rfl (fun ls hl => ?_)
          refine lv_goto (tgt := 14) hx hb dX5_freeTableFor_79 (by decide) ?_
          exact ih _ _ _ (some i) ⟨hW, hS, lv_sub hl [4, 5, 1, 6, 7, 0] rfl, ((cf_best_first hok hI.symm).symm)⟩
    · have hl : lv_has ls 8 [(0, .ref (ad 5 0)), (1, .int x), (2, .ref (ad 3 t)), (3, .ref (ad 12 0)), (4, .int (nI 6)), (5, .int (nI i))] := hl
      have ht6 : t < 6 := Nat.lt_trans (cf_best_in hI.symm).1 hi
      refine lv_iload hx hb dX5_freeTableFor_14 (lv_at hl 5 rfl) ?_
      refine lv_iload hx hb dX5_freeTableFor_16 (lv_at hl 4 rfl) ?_
      refine lv_icmp_ge (tgt := 82) hx hb dX5_freeTableFor_18 (by decide) (fun c18_9 => (by first | exact absurd c18_9 (nI_ge hi (by decide)) | exact absurd (nI_ge hi (by decide)) c18_9)) (fun c18_9 => ?_)
      refine lv_aload_n hx hb dX5_freeTableFor_21 rfl (lv_at hl 3 rfl) ?_
      refine lv_iload hx hb dX5_freeTableFor_22 (lv_at hl 5 rfl) ?_
      refine cf_aldN (t0 := 4) (C := RX3) (n := 6) (v := .ref (ad 3 i)) hx hb hT.1 hW cf_e12 rfl i rfl hi (by decide) dX5_freeTableFor_24 rfl ?_
      refine lv_astore (lv' := [(6, .ref (ad 3 i)), (0, .ref (ad 5 0)), (1, .int x), (2, .ref (ad 3 t)), (3, .ref (ad 12 0)), (4, .int (nI 6)), (5, .int (nI i))]) hx hb dX5_freeTableFor_25 hl (by decide) rfl (fun ls hl => ?_)
      refine lv_aload hx hb dX5_freeTableFor_27 (lv_at hl 0 rfl) ?_
      refine cf_get (v := .int (S 3 i 1)) (ci := 3) (C := RX3) (T := TX3) (N := 3) hx hb hts (fun _ h => List.mem_cons_of_mem _ (List.mem_append_right _ (h))) hown hT.1 hW (cf_e3 hi) rfl 2 (by decide) (hts (.fieldLink RX5 80 "GameCafe$Table" "group" "I") (List.mem_of_getElem? (i := 2) rfl)) (fun _ h9 => h9) rfl dX5_freeTableFor_29 ?_
      refine lv_iconst (v := (-1)) hx hb dX5_freeTableFor_32 (by decide) ?_
      refine lv_icmp_ne (tgt := 49) hx hb dX5_freeTableFor_33 (by decide) (fun c33_10 => ?_) (fun c33_10 => ?_)
      · refine lv_iconst (v := 0) hx hb dX5_freeTableFor_49 (by decide) ?_
        refine lv_istore (lv' := [(7, .int 0), (6, .ref (ad 3 i)), (0, .ref (ad 5 0)), (1, .int x), (2, .ref (ad 3 t)), (3, .ref (ad 12 0)), (4, .int (nI 6)), (5, .int (nI i))]) hx hb dX5_freeTableFor_50 hl (by decide) rfl (fun ls hl => ?_)
        refine lv_iload hx hb dX5_freeTableFor_52 (lv_at hl 0 rfl) ?_
        refine lv_if_eq (tgt := 76) hx hb dX5_freeTableFor_54 (by decide) (fun c54_11 => ?_) (fun c54_11 => (by first | exact absurd rfl c54_11 | exact absurd c54_11 rfl))
        refine lv_iinc (v := (nI (i + 1))) (lv' := [(5, .int (nI (i + 1))), (7, .int 0), (6, .ref (ad 3 i)), (0, .ref (ad 5 0)), (1, .int x), (2, .ref (ad 3 t)), (3, .ref (ad 12 0)), (4, .int (nI 6))]) hx hb dX5_freeTableFor_76 hl (k := 7) rfl (nI_1 i) (by decide) rfl (fun ls hl => ?_)
        refine lv_goto (tgt := 14) hx hb dX5_freeTableFor_79 (by decide) ?_
        exact ih _ _ _ (some t) ⟨hW, hS, lv_sub hl [3, 4, 5, 6, 7, 0] rfl, (hI.trans (cf_best_no (by simp [cf_okT, c33_10])).symm)⟩
      · refine lv_aload hx hb dX5_freeTableFor_36 (lv_at hl 0 rfl) ?_
        refine cf_get (v := .int (S 3 i 0)) (ci := 3) (C := RX3) (T := TX3) (N := 3) hx hb hts (fun _ h => List.mem_cons_of_mem _ (List.mem_append_right _ (h))) hown hT.1 hW (cf_e3 hi) rfl 1 (by decide) (hts (.fieldLink RX5 90 "GameCafe$Table" "seats" "I") (List.mem_of_getElem? (i := 3) rfl)) (fun _ h9 => h9) rfl dX5_freeTableFor_38 ?_
        refine lv_iload_n hx hb dX5_freeTableFor_41 rfl (lv_at hl 2 rfl) ?_
        refine lv_icmp_lt (tgt := 49) hx hb dX5_freeTableFor_42 (by decide) (fun c42_12 => ?_) (fun c42_12 => ?_)
        · refine lv_iconst (v := 0) hx hb dX5_freeTableFor_49 (by decide) ?_
          refine lv_istore (lv' := [(7, .int 0), (6, .ref (ad 3 i)), (0, .ref (ad 5 0)), (1, .int x), (2, .ref (ad 3 t)), (3, .ref (ad 12 0)), (4, .int (nI 6)), (5, .int (nI i))]) hx hb dX5_freeTableFor_50 hl (by decide) rfl (fun ls hl => ?_)
          refine lv_iload hx hb dX5_freeTableFor_52 (lv_at hl 0 rfl) ?_
          refine lv_if_eq (tgt := 76) hx hb dX5_freeTableFor_54 (by decide) (fun c54_13 => ?_) (fun c54_13 => (by first | exact absurd rfl c54_13 | exact absurd c54_13 rfl))
          refine lv_iinc (v := (nI (i + 1))) (lv' := [(5, .int (nI (i + 1))), (7, .int 0), (6, .ref (ad 3 i)), (0, .ref (ad 5 0)), (1, .int x), (2, .ref (ad 3 t)), (3, .ref (ad 12 0)), (4, .int (nI 6))]) hx hb dX5_freeTableFor_76 hl (k := 7) rfl (nI_1 i) (by decide) rfl (fun ls hl => ?_)
          refine lv_goto (tgt := 14) hx hb dX5_freeTableFor_79 (by decide) ?_
          exact ih _ _ _ (some t) ⟨hW, hS, lv_sub hl [3, 4, 5, 6, 7, 0] rfl, (hI.trans (cf_best_no (by simp [cf_okT, c42_12])).symm)⟩
        · have hok : cf_okT S x i = true := cf_okT_of c33_10 c42_12
          refine lv_iconst (v := 1) hx hb dX5_freeTableFor_45 (by decide) ?_
          refine lv_goto (tgt := 50) hx hb dX5_freeTableFor_46 (by decide) ?_
          refine lv_istore (lv' := [(7, .int 1), (6, .ref (ad 3 i)), (0, .ref (ad 5 0)), (1, .int x), (2, .ref (ad 3 t)), (3, .ref (ad 12 0)), (4, .int (nI 6)), (5, .int (nI i))]) hx hb dX5_freeTableFor_50 hl (by decide) rfl (fun ls hl => ?_)
          refine lv_iload hx hb dX5_freeTableFor_52 (lv_at hl 0 rfl) ?_
          refine lv_if_eq (tgt := 76) hx hb dX5_freeTableFor_54 (by decide) (fun c54_14 => (by first | exact absurd c54_14 (by decide) | exact absurd (by decide) c54_14)) (fun c54_14 => ?_)
          refine lv_aload_n hx hb dX5_freeTableFor_57 rfl (lv_at hl 4 rfl) ?_
          refine lv_ifnull hx hb dX5_freeTableFor_58 ?_
          refine lv_aload hx hb dX5_freeTableFor_61 (lv_at hl 1 rfl) ?_
          refine cf_get (v := .int (S 3 i 0)) (ci := 3) (C := RX3) (T := TX3) (N := 3) hx hb hts (fun _ h => List.mem_cons_of_mem _ (List.mem_append_right _ (h))) hown hT.1 hW (cf_e3 hi) rfl 1 (by decide) (hts (.fieldLink RX5 90 "GameCafe$Table" "seats" "I") (List.mem_of_getElem? (i := 3) rfl)) (fun _ h9 => h9) rfl dX5_freeTableFor_63 ?_
          refine lv_aload_n hx hb dX5_freeTableFor_66 rfl (lv_at hl 4 rfl) ?_
          refine cf_get (v := .int (S 3 t 0)) (ci := 3) (C := RX3) (T := TX3) (N := 3) hx hb hts (fun _ h => List.mem_cons_of_mem _ (List.mem_append_right _ (h))) hown hT.1 hW (cf_e3 ht6) rfl 1 (by decide) (hts (.fieldLink RX5 90 "GameCafe$Table" "seats" "I") (List.mem_of_getElem? (i := 3) rfl)) (fun _ h9 => h9) rfl dX5_freeTableFor_67 ?_
          refine lv_icmp_ge (tgt := 76) hx hb dX5_freeTableFor_70 (by decide) (fun c70_15 => ?_) (fun c70_15 => ?_)
          · refine lv_iinc (v := (nI (i + 1))) (lv' := [(5, .int (nI (i + 1))), (7, .int 1), (6, .ref (ad 3 i)), (0, .ref (ad 5 0)), (1, .int x), (2, .ref (ad 3 t)), (3, .ref (ad 12 0)), (4, .int (nI 6))]) hx hb dX5_freeTableFor_76 hl (k := 7) rfl (nI_1 i) (by decide) rfl (fun ls hl => ?_)
            refine lv_goto (tgt := 14) hx hb dX5_freeTableFor_79 (by decide) ?_
            exact ih _ _ _ (some t) ⟨hW, hS, lv_sub hl [3, 4, 5, 6, 7, 0] rfl, ((cf_best_old hI.symm (decide_eq_false (Int32.not_lt.mpr c70_15))).symm)⟩
          · refine lv_aload hx hb dX5_freeTableFor_73 (lv_at hl 1 rfl) ?_
            refine lv_astore_n (lv' := [(2, .ref (ad 3 i)), (7, .int 1), (6, .ref (ad 3 i)), (0, .ref (ad 5 0)), (1, .int x), (3, .ref (ad 12 0)), (4, .int (nI 6)), (5, .int (nI i))]) hx hb dX5_freeTableFor_75 rfl hl (by decide) rfl (fun ls hl => ?_)
            refine lv_iinc (v := (nI (i + 1))) (lv' := [(5, .int (nI (i + 1))), (2, .ref (ad 3 i)), (7, .int 1), (6, .ref (ad 3 i)), (0, .ref (ad 5 0)), (1, .int x), (3, .ref (ad 12 0)), (4, .int (nI 6))]) hx hb dX5_freeTableFor_76 hl (k := 7) rfl (nI_1 i) (by decide) rfl (fun ls hl => ?_)
            refine lv_goto (tgt := 14) hx hb dX5_freeTableFor_79 (by decide) ?_
            exact ih _ _ _ (some i) ⟨hW, hS, lv_sub hl [4, 5, 1, 6, 7, 0] rfl, ((cf_best_new hok hI.symm (decide_eq_true (Int32.not_le.mp c70_15))).symm)⟩
